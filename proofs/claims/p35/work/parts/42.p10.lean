def F_X11_law_231 : List (Nat × Nat) := [(231, 0), (231, 1), (231, 8), (231, 9), (231, 10), (231, 11), (231, 12), (231, 13), (231, 14), (231, 15), (231, 17), (231, 20), (231, 23), (231, 24)]
def A_X11_law_231 : List Nat := [232, 233, 237, 238, 239, 240, 241]
set_option maxRecDepth 100000 in
set_option maxHeartbeats 4000000 in
theorem T_X11_law_231 (d : Nat) {N : Nat} {g0 : List en_E} (hI0 : HI g0) : Ev (d + 9) 210 [.ref 231] (g0, N) (fun w h' => ∃ g', h' = (g', N) ∧ HI g' ∧ Fr F_X11_law_231 A_X11_law_231 g0 g' ∧ ∃ r : Int32, w = some (.int r) ∧ ((-6) ≤ r.toInt ∧ r.toInt ≤ 5) ∧ ((∀ i : Int, 0 ≤ i → i < 110 → i ≠ 2 → eA g' 233 i = eA g0 233 i) ∧ (gI g' 231 8).toInt = 0)) := by
  have hF0 : Fr F_X11_law_231 A_X11_law_231 g0 g0 := Fr.rf
  obtain ⟨v1, hv1⟩ : ∃ v, gI g0 231 8 = v := ⟨_, rfl⟩
  have rv1 := RgF.at hI0.2.1 (p := 231) (b := 8) rfl
  rw [hv1] at rv1
  dsimp only at rv1
  have tv1 := congrArg Int32.toInt hv1
  refine Ev.mk rfl rfl ⟨Nat.le_of_ble_eq_true rfl, Or.inr (q_rc hI0.1 kx_231 rfl)⟩ ?_
  show At _ none _ _ (0, [(0, .ref 231)], [], (_, _)) _
  refine At.enter rfl ?_
  refine r_aload_n rfl ?_
  refine r_iconst 0 rfl ?_
  refine q_putI (Sh.int hI0.1 kx_231 rfl) rfl ?_
  have hI214638 := HI.wI0 hI0 kx_231 rfl (p := 231) (b := 0) (v := 0) rfl
  have hF214639 := Fr.wI (p := 231) (b := 0) (v := 0) hF0 rfl
  refine r_aload_n rfl ?_
  refine q_getR (Sh.ref hI214638.1 kx_231 rfl) ?_
  refine r_iconst 2 rfl ?_
  obtain ⟨v214640, hv214640⟩ : ∃ v, eA g0 233 2 = v := ⟨_, rfl⟩
  have tv214640 := congrArg Int32.toInt hv214640
  have wv214640 := HI.t2 hI0
  rw [hv214640] at wv214640
  refine q_iald (Sh.arr hI214638.1 ka_233) 2 rfl (by decide) v214640 ((eA_c (gA_sI)).trans hv214640) ?_
  refine r_bipush 6 rfl ?_
  refine r_ics 16 rfl (fun c214641 => ?_) (fun c214641 => ?_)
  · have c214641_ : v214640.toInt ≠ 6 := en_i_ne_t c214641
    refine At.enter rfl ?_
    refine r_aload_n rfl ?_
    refine q_inlV 32 rfl [.ref 231] [] (Nat.le_of_ble_eq_true rfl) rfl ?_
    refine Ev.mk rfl rfl ⟨Nat.le_of_ble_eq_true rfl, Or.inr (q_rc hI214638.1 kx_231 rfl)⟩ ?_
    show At _ none _ _ (0, [(0, .ref 231)], [], (_, _)) _
    refine At.enter rfl ?_
    refine r_aload_n rfl ?_
    refine r_iconst 0 rfl ?_
    refine q_putI (Sh.int hI214638.1 kx_231 rfl) rfl ?_
    have hI214642 := HI.wI1 hI214638 kx_231 rfl (p := 231) (b := 10) (v := 0) rfl (by decide)
    have hF214643 := Fr.wI (p := 231) (b := 10) (v := 0) hF214639 rfl
    refine r_aload_n rfl ?_
    refine r_iconst 0 rfl ?_
    refine q_putI (Sh.int hI214642.1 kx_231 rfl) rfl ?_
    have hI214644 := HI.wI0 hI214642 kx_231 rfl (p := 231) (b := 14) (v := 0) rfl
    have hF214645 := Fr.wI (p := 231) (b := 14) (v := 0) hF214643 rfl
    refine r_aload_n rfl ?_
    refine r_iconst (-1) rfl ?_
    refine q_putI (Sh.int hI214644.1 kx_231 rfl) rfl ?_
    have hI214646 := HI.wI0 hI214644 kx_231 rfl (p := 231) (b := 13) (v := (-1)) rfl
    have hF214647 := Fr.wI (p := 231) (b := 13) (v := (-1)) hF214645 rfl
    refine r_aload_n rfl ?_
    have x214648 := HI.eqI hI214646 (p := 231) (b := 8) ((((gI_sI_ne (by decide)).trans ((gI_sI_ne (by decide)).trans ((gI_sI_ne (by decide)).trans (gI_sI_ne (by decide))))).trans hv1))
    have x214649 := HI.eqI hI214646 (p := 231) (b := 10) (((gI_sI_ne (by decide)).trans ((gI_sI_ne (by decide)).trans (gI_sI_eq hI214638.1 kx_231 rfl _))))
    have zv214650 : (0 : Int32).toInt = 0 := rfl
    refine r_callV 19 rfl [.ref 231] [] (Nat.le_of_ble_eq_true rfl) rfl (T_X11_next_231 _ hI214646 (by omega)) ?_
    rintro _ _ ⟨g214651, rfl, hI214652, hF214653, rfl, hr214655⟩
    refine At.stn ?_
    have hF214656 := Fr.tr hF214647 hF214653 rfl rfl
    have x214657 := HI.eqI hI214646 (p := 231) (b := 8) ((((gI_sI_ne (by decide)).trans ((gI_sI_ne (by decide)).trans ((gI_sI_ne (by decide)).trans (gI_sI_ne (by decide))))).trans hv1))
    have x214658 := HI.eqI hI214646 (p := 231) (b := 10) (((gI_sI_ne (by decide)).trans ((gI_sI_ne (by decide)).trans (gI_sI_eq hI214638.1 kx_231 rfl _))))
    have zv214659 : (0 : Int32).toInt = 0 := rfl
    have x214660 := HI.eqI hI214652 (p := 231) (b := 8) ((((hF214653.1 231 8 (by decide)).trans ((gI_sI_ne (by decide)).trans ((gI_sI_ne (by decide)).trans ((gI_sI_ne (by decide)).trans (gI_sI_ne (by decide)))))).trans hv1))
    obtain ⟨v214661, hv214661⟩ : ∃ v, gI g214651 231 9 = v := ⟨_, rfl⟩
    have rv214661 := RgF.at hI214652.2.1 (p := 231) (b := 9) rfl
    rw [hv214661] at rv214661
    dsimp only at rv214661
    have tv214661 := congrArg Int32.toInt hv214661
    have x214662 := HI.eqI hI214652 (p := 231) (b := 9) (hv214661)
    obtain ⟨v214663, hv214663⟩ : ∃ v, gI g214651 231 10 = v := ⟨_, rfl⟩
    have rv214663 := RgF.at hI214652.2.1 (p := 231) (b := 10) rfl
    rw [hv214663] at rv214663
    dsimp only at rv214663
    have tv214663 := congrArg Int32.toInt hv214663
    have x214664 := HI.eqI hI214652 (p := 231) (b := 10) (hv214663)
    obtain ⟨v214665, hv214665⟩ : ∃ v, gI g214651 231 11 = v := ⟨_, rfl⟩
    have tv214665 := congrArg Int32.toInt hv214665
    have x214666 := HI.eqI hI214652 (p := 231) (b := 11) (hv214665)
    obtain ⟨c214667, c214668, c214669, c214670, c214671, c214672⟩ := hr214655
    refine At.enter rfl ?_
    refine q_vret ?_
    refine At.enter rfl ?_
    refine r_aload_n rfl ?_
    refine r_iconst 0 rfl ?_
    refine q_putI (Sh.int hI214652.1 kx_231 rfl) rfl ?_
    have hI214673 := HI.wI1 hI214652 kx_231 rfl (p := 231) (b := 15) (v := 0) rfl (by decide)
    have hF214674 := Fr.wI (p := 231) (b := 15) (v := 0) hF214656 rfl
    refine r_aload_n rfl ?_
    refine r_iconst 0 rfl ?_
    refine q_putI (Sh.int hI214673.1 kx_231 rfl) rfl ?_
    have hI214675 := HI.wI1 hI214673 kx_231 rfl (p := 231) (b := 17) (v := 0) rfl (by decide)
    have hF214676 := Fr.wI (p := 231) (b := 17) (v := 0) hF214674 rfl
    refine r_aload_n rfl ?_
    refine r_iconst 0 rfl ?_
    refine q_putI (Sh.int hI214675.1 kx_231 rfl) rfl ?_
    have hI214677 := HI.wI0 hI214675 kx_231 rfl (p := 231) (b := 20) (v := 0) rfl
    have hF214678 := Fr.wI (p := 231) (b := 20) (v := 0) hF214676 rfl
    refine r_aload_n rfl ?_
    have x214679 := HI.eqI hI214677 (p := 231) (b := 8) ((((gI_sI_ne (by decide)).trans ((gI_sI_ne (by decide)).trans ((gI_sI_ne (by decide)).trans ((hF214653.1 231 8 (by decide)).trans ((gI_sI_ne (by decide)).trans ((gI_sI_ne (by decide)).trans ((gI_sI_ne (by decide)).trans (gI_sI_ne (by decide))))))))).trans hv1))
    have x214680 := HI.eqI hI214677 (p := 231) (b := 9) ((((gI_sI_ne (by decide)).trans ((gI_sI_ne (by decide)).trans (gI_sI_ne (by decide)))).trans hv214661))
    have x214681 := HI.eqI hI214677 (p := 231) (b := 10) ((((gI_sI_ne (by decide)).trans ((gI_sI_ne (by decide)).trans (gI_sI_ne (by decide)))).trans hv214663))
    have x214682 := HI.eqI hI214677 (p := 231) (b := 11) ((((gI_sI_ne (by decide)).trans ((gI_sI_ne (by decide)).trans (gI_sI_ne (by decide)))).trans hv214665))
    have x214683 := HI.eqI hI214677 (p := 231) (b := 14) (((gI_sI_ne (by decide)).trans ((gI_sI_ne (by decide)).trans ((gI_sI_ne (by decide)).trans ((hF214653.1 231 14 (by decide)).trans ((gI_sI_ne (by decide)).trans (gI_sI_eq hI214642.1 kx_231 rfl _)))))))
    have zv214684 : (0 : Int32).toInt = 0 := rfl
    have x214685 := HI.eqI hI214677 (p := 231) (b := 15) (((gI_sI_ne (by decide)).trans ((gI_sI_ne (by decide)).trans (gI_sI_eq hI214652.1 kx_231 rfl _))))
    have zv214686 : (0 : Int32).toInt = 0 := rfl
    have x214687 := HI.eqI hI214677 (p := 231) (b := 17) (((gI_sI_ne (by decide)).trans (gI_sI_eq hI214673.1 kx_231 rfl _)))
    have zv214688 : (0 : Int32).toInt = 0 := rfl
    have w26214689 := W26.cong c214672 hI214677 (((gI_sI_ne (by decide)).trans ((gI_sI_ne (by decide)).trans (gI_sI_ne (by decide))))) (((gI_sI_ne (by decide)).trans ((gI_sI_ne (by decide)).trans (gI_sI_ne (by decide))))) (((gI_sI_ne (by decide)).trans ((gI_sI_ne (by decide)).trans (gI_sI_ne (by decide))))) (((gJ_sI_ne (by decide)).trans ((gJ_sI_ne (by decide)).trans (gJ_sI_ne (by decide)))))
    refine r_callV 51 rfl [.ref 231] [] (Nat.le_of_ble_eq_true rfl) rfl (T_X11_readClause_231 _ hI214677 (by refine ⟨?_, ?_, ?_, ?_⟩ <;> omega) (by omega) (by omega) w26214689 (CLS.zero0 (by omega))) ?_
    rintro _ _ ⟨g214690, rfl, hI214691, hF214692, rfl, hr214694⟩
    refine At.stn ?_
    have hF214695 := Fr.tr hF214678 hF214692 rfl rfl
    have x214696 := HI.eqI hI214677 (p := 231) (b := 9) ((((gI_sI_ne (by decide)).trans ((gI_sI_ne (by decide)).trans (gI_sI_ne (by decide)))).trans hv214661))
    have x214697 := HI.eqI hI214691 (p := 231) (b := 8) ((((hF214692.1 231 8 (by decide)).trans ((gI_sI_ne (by decide)).trans ((gI_sI_ne (by decide)).trans ((gI_sI_ne (by decide)).trans ((hF214653.1 231 8 (by decide)).trans ((gI_sI_ne (by decide)).trans ((gI_sI_ne (by decide)).trans ((gI_sI_ne (by decide)).trans (gI_sI_ne (by decide)))))))))).trans hv1))
    obtain ⟨v214698, hv214698⟩ : ∃ v, gI g214690 231 9 = v := ⟨_, rfl⟩
    have rv214698 := RgF.at hI214691.2.1 (p := 231) (b := 9) rfl
    rw [hv214698] at rv214698
    dsimp only at rv214698
    have tv214698 := congrArg Int32.toInt hv214698
    have x214699 := HI.eqI hI214691 (p := 231) (b := 9) (hv214698)
    obtain ⟨v214700, hv214700⟩ : ∃ v, gI g214690 231 10 = v := ⟨_, rfl⟩
    have rv214700 := RgF.at hI214691.2.1 (p := 231) (b := 10) rfl
    rw [hv214700] at rv214700
    dsimp only at rv214700
    have tv214700 := congrArg Int32.toInt hv214700
    have x214701 := HI.eqI hI214691 (p := 231) (b := 10) (hv214700)
    obtain ⟨v214702, hv214702⟩ : ∃ v, gI g214690 231 11 = v := ⟨_, rfl⟩
    have tv214702 := congrArg Int32.toInt hv214702
    have x214703 := HI.eqI hI214691 (p := 231) (b := 11) (hv214702)
    obtain ⟨v214704, hv214704⟩ : ∃ v, gI g214690 231 14 = v := ⟨_, rfl⟩
    have tv214704 := congrArg Int32.toInt hv214704
    have x214705 := HI.eqI hI214691 (p := 231) (b := 14) (hv214704)
    obtain ⟨v214706, hv214706⟩ : ∃ v, gI g214690 231 15 = v := ⟨_, rfl⟩
    have rv214706 := RgF.at hI214691.2.1 (p := 231) (b := 15) rfl
    rw [hv214706] at rv214706
    dsimp only at rv214706
    have tv214706 := congrArg Int32.toInt hv214706
    have x214707 := HI.eqI hI214691 (p := 231) (b := 15) (hv214706)
    obtain ⟨v214708, hv214708⟩ : ∃ v, gI g214690 231 17 = v := ⟨_, rfl⟩
    have rv214708 := RgF.at hI214691.2.1 (p := 231) (b := 17) rfl
    rw [hv214708] at rv214708
    dsimp only at rv214708
    have tv214708 := congrArg Int32.toInt hv214708
    have x214709 := HI.eqI hI214691 (p := 231) (b := 17) (hv214708)
    obtain ⟨c214710, c214711, c214712, c214713, c214714, c214715, c214716⟩ := hr214694
    have x268337 := HI.eqI hI214691 (p := 231) (b := 8) ((((hF214692.1 231 8 (by decide)).trans ((gI_sI_ne (by decide)).trans ((gI_sI_ne (by decide)).trans ((gI_sI_ne (by decide)).trans ((hF214653.1 231 8 (by decide)).trans ((gI_sI_ne (by decide)).trans ((gI_sI_ne (by decide)).trans ((gI_sI_ne (by decide)).trans (gI_sI_ne (by decide)))))))))).trans hv1))
    have x268338 := HI.eqI hI214691 (p := 231) (b := 9) (hv214698)
    have x268339 := HI.eqI hI214691 (p := 231) (b := 10) (hv214700)
    have x268340 := HI.eqI hI214691 (p := 231) (b := 11) (hv214702)
    have x268341 := HI.eqI hI214691 (p := 231) (b := 14) (hv214704)
    have x268342 := HI.eqI hI214691 (p := 231) (b := 15) (hv214706)
    have x268343 := HI.eqI hI214691 (p := 231) (b := 17) (hv214708)
    refine w_loopI (fun n_ l_ g_ => ∃ x268320 : Int32, n_ = 400 - x268320.toInt ∧ HI g_ ∧ Fr F_X11_law_231 A_X11_law_231 g0 g_ ∧ gI g_ 231 9 = x268320 ∧ en_get 0 l_ = some (.ref 231) ∧ (0 ≤ x268320.toInt ∧ x268320.toInt ≤ 400) ∧ (Fr [(231, 0), (231, 9), (231, 10), (231, 11), (231, 12), (231, 13), (231, 14), (231, 15), (231, 17), (231, 20), (231, 23), (231, 24)] [237, 238, 239, 240, 241] g0 g_) ∧ ((gI g_ 231 9).toInt ≤ (gI g_ 231 10).toInt) ∧ ((gI g_ 231 10).toInt ≤ (gI g_ 231 8).toInt) ∧ (0 ≤ (gI g_ 231 11).toInt) ∧ ((gI g_ 231 11).toInt ≤ 3 * ((gI g_ 231 10).toInt - (gI g_ 231 9).toInt)) ∧ (W26 g_) ∧ (CLZ g_)) ?_ (400 - v214698.toInt) ⟨v214698, by first | rfl | omega, hI214691, hF214695, hv214698, rfl, by omega, (Fr.tr (Fr.wI (p := 231) (b := 20) (Fr.wI (p := 231) (b := 17) (Fr.wI (p := 231) (b := 15) (Fr.tr (Fr.wI (p := 231) (b := 13) (Fr.wI (p := 231) (b := 14) (Fr.wI (p := 231) (b := 10) (Fr.wI (p := 231) (b := 0) Fr.rf rfl) rfl) rfl) rfl) hF214653 rfl rfl) rfl) rfl) rfl) hF214692 rfl rfl), by omega, by omega, by omega, by omega, c214714, c214716⟩
    rintro n268325 l268324 g268321 ⟨x268320, hm268344, hI268322, hF268323, e268327, e268328, r268329, q268330, q268331, q268332, q268333, q268334, q268335, q268336⟩ ih268326
    have tv268345 := congrArg Int32.toInt e268327
    have x268346 := HI.eqI hI268322 (p := 231) (b := 8) (((q268330.1 231 8 (by decide)).trans hv1))
    have x268347 := HI.eqI hI268322 (p := 231) (b := 9) (e268327)
    obtain ⟨v268348, hv268348⟩ : ∃ v, gI g268321 231 10 = v := ⟨_, rfl⟩
    have rv268348 := RgF.at hI268322.2.1 (p := 231) (b := 10) rfl
    rw [hv268348] at rv268348
    dsimp only at rv268348
    have tv268348 := congrArg Int32.toInt hv268348
    have x268349 := HI.eqI hI268322 (p := 231) (b := 10) (hv268348)
    obtain ⟨v268350, hv268350⟩ : ∃ v, gI g268321 231 11 = v := ⟨_, rfl⟩
    have tv268350 := congrArg Int32.toInt hv268350
    have x268351 := HI.eqI hI268322 (p := 231) (b := 11) (hv268350)
    obtain ⟨v268352, hv268352⟩ : ∃ v, gI g268321 231 14 = v := ⟨_, rfl⟩
    have tv268352 := congrArg Int32.toInt hv268352
    have x268353 := HI.eqI hI268322 (p := 231) (b := 14) (hv268352)
    obtain ⟨v268354, hv268354⟩ : ∃ v, gI g268321 231 15 = v := ⟨_, rfl⟩
    have rv268354 := RgF.at hI268322.2.1 (p := 231) (b := 15) rfl
    rw [hv268354] at rv268354
    dsimp only at rv268354
    have tv268354 := congrArg Int32.toInt hv268354
    have x268355 := HI.eqI hI268322 (p := 231) (b := 15) (hv268354)
    obtain ⟨v268356, hv268356⟩ : ∃ v, gI g268321 231 17 = v := ⟨_, rfl⟩
    have rv268356 := RgF.at hI268322.2.1 (p := 231) (b := 17) rfl
    rw [hv268356] at rv268356
    dsimp only at rv268356
    have tv268356 := congrArg Int32.toInt hv268356
    have x268357 := HI.eqI hI268322 (p := 231) (b := 17) (hv268356)
    refine At.enter rfl ?_
    refine r_aload_n e268328 ?_
    refine q_getI (Sh.int hI268322.1 kx_231 rfl) v268352 hv268352 ?_
    refine r_ifs 58 rfl (fun c268358 => ?_) (fun c268358 => ?_)
    · have c268358_ : v268352.toInt ≠ 0 := en_k_ne_t c268358
      refine At.enter rfl ?_
      refine r_aload_n e268328 ?_
      refine q_getI (Sh.int hI268322.1 kx_231 rfl) v268352 hv268352 ?_
      refine r_ifs 85 rfl (fun c268359 => ?_) (fun c268359 => ?_)
      · have c268359_ : v268352.toInt ≠ 0 := en_k_ne_t c268359
        refine At.enter rfl ?_
        refine r_aload_n e268328 ?_
        refine r_iconst 0 rfl ?_
        refine q_putI (Sh.int hI268322.1 kx_231 rfl) rfl ?_
        have hI268360 := HI.wI1 hI268322 kx_231 rfl (p := 231) (b := 8) (v := 0) rfl (by decide)
        have hF268361 := Fr.wI (p := 231) (b := 8) (v := 0) hF268323 rfl
        refine r_aload_n e268328 ?_
        refine q_getI (Sh.int hI268360.1 kx_231 rfl) v268352 ((gI_sI_ne (by decide)).trans hv268352) ?_
        refine r_ifs 109 rfl (fun c268362 => ?_) (fun c268362 => ?_)
        · have c268362_ : v268352.toInt = 0 := en_k_eq_t c268362
          refine At.enter rfl ?_
          refine r_bipush 110 rfl ?_
          refine r_sipush 900 rfl ?_
          refine r_aload_n e268328 ?_
          refine q_getR (Sh.ref hI268360.1 kx_231 rfl) ?_
          refine r_iconst 2 rfl ?_
          refine q_iald (Sh.arr hI268360.1 ka_233) 2 rfl (by decide) v214640 ((eA_c ((gA_sI).trans (q268330.2.1 233 (by decide)))).trans hv214640) ?_
          refine q_imul (900 * v214640.toInt) rfl (by omega) (fun v268363 hv268363 => ?_)
          refine q_iadd (110 + v268363.toInt) rfl (by omega) (fun v268364 hv268364 => ?_)
          refine r_istore_n _ rfl ?_
          refine r_aload_n (w_p1 (by decide) (Or.inr rfl) e268328) ?_
          refine q_getR (Sh.ref hI268360.1 kx_231 rfl) ?_
          refine r_iload_n (w_e1 _ _ _) ?_
          refine r_iconst 1 rfl ?_
          refine q_iadd (v268364.toInt + 1) rfl (by omega) (fun v268365 hv268365 => ?_)
          refine r_aload_n (w_p1 (by decide) (Or.inr rfl) e268328) ?_
          refine q_getI (Sh.int hI268360.1 kx_231 rfl) v268354 ((gI_sI_ne (by decide)).trans hv268354) ?_
          refine q_iast (Sh.arr hI268360.1 ka_233) ((900 * v214640.toInt + 111)) (by omega) (by omega) ?_
          have x268368 := HI.eqA hI268360 (p := 233) (j := 2) ((((eA_c gA_sI).trans (eA_c (q268330.2.1 233 (by decide)))).trans hv214640))
          have hI268366 := HI.wfree hI268360 (j := (900 * v214640.toInt + 111)) (v := v268354) ⟨by omega, by omega⟩
          have hF268367 := Fr.wA (p := 233) (j := (900 * v214640.toInt + 111)) (v := v268354) hF268361 rfl
          refine r_iconst 0 rfl ?_
          refine r_istore_n _ rfl ?_
          refine Ar.fall 144 rfl ?_
          have z_278375 : (0 : Int32).toInt = 0 := rfl
          have x278376 := HI.eqI hI268322 (p := 231) (b := 15) (hv268354)
          have x278377 := HI.eqI hI268322 (p := 231) (b := 17) (hv268356)
          refine w_loopI (fun n_ l_ g_ => ∃ x278359 : Int32, n_ = 96 - x278359.toInt ∧ HI g_ ∧ Fr F_X11_law_231 A_X11_law_231 g0 g_ ∧ gI g_ 231 8 = 0 ∧ en_get 0 l_ = some (.ref 231) ∧ en_get 1 l_ = some (.int v268364) ∧ en_get 2 l_ = some (.int x278359) ∧ (0 ≤ x278359.toInt ∧ x278359.toInt ≤ 96) ∧ (Fr [(231, 8)] [233] g268321 g_) ∧ ((eA g_ 233 (v268364.toInt + 1)).toInt = (gI g268321 231 15).toInt) ∧ (∀ i : Int, 0 ≤ i → i < x278359.toInt → (eA g_ 233 (v268364.toInt + 2 + i)).toInt = (eA g268321 237 i).toInt) ∧ (∀ i : Int, 0 ≤ i → i < 110 → eA g_ 233 i = eA g268321 233 i)) ?_ (96 - 0) ⟨0, by first | rfl | omega, hI268366, hF268367, ((gI_sW).trans (gI_sI_eq hI268322.1 kx_231 rfl _)), (w_p1 (by decide) (Or.inr rfl) (w_p1 (by decide) (Or.inr rfl) e268328)), (w_p1 (by decide) (Or.inr rfl) (w_e1 _ _ _)), (w_e1 _ _ _), by decide, (Fr.wA (p := 233) (Fr.wI (p := 231) (b := 8) Fr.rf rfl) rfl), ((congrArg Int32.toInt (eA_sA_eq hI268360.1 ka_233 (by omega) (by omega) (by omega))).trans (by omega)), (fun i i0 i1 => absurd i1 (by omega)), (fun i i0 i1 => ((eA_sA_ne (i := i) hI268360.1 ka_233 (by omega) (by omega) (by omega)).trans (eA_c gA_sI)))⟩
          rintro n278364 l278363 g278360 ⟨x278359, hm278378, hI278361, hF278362, e278366, e278367, e278368, e278369, r278370, q278371, q278372, q278373, q278374⟩ ih278365
          have tv278379 := congrArg Int32.toInt e278366
          have x278380 := HI.eqI hI268322 (p := 231) (b := 15) (hv268354)
          have x278381 := HI.eqI hI268322 (p := 231) (b := 17) (hv268356)
          have t278382 := congrArg Int32.toInt ((q278374 2 (by decide) (by decide)).trans ((eA_c (q268330.2.1 233 (by decide))).trans hv214640))
          refine At.enter rfl ?_
          refine r_iload_n e278369 ?_
          refine r_bipush 8 rfl ?_
          refine r_aload_n e278367 ?_
          refine q_getI (Sh.int hI278361.1 kx_231 rfl) v268354 ((q278371.1 231 15 (by decide)).trans hv268354) ?_
          refine q_imul (8 * v268354.toInt) rfl (by omega) (fun v278383 hv278383 => ?_)
          have bv278385 := q_bnd x278359
          have bv278386 := q_bnd v278383
          refine r_ics 155 rfl (fun c278384 => ?_) (fun c278384 => ?_)
          · have c278384_ : x278359.toInt ≥ v278383.toInt := en_i_ge_t c278384
            refine At.enter rfl ?_
            refine r_iconst 0 rfl ?_
            refine r_istore_n _ rfl ?_
            refine Ar.fall 179 rfl ?_
            have z_278999 : (0 : Int32).toInt = 0 := rfl
            have x279000 := HI.eqI hI268322 (p := 231) (b := 15) (hv268354)
            have x279001 := HI.eqI hI268322 (p := 231) (b := 17) (hv268356)
            refine w_loopI (fun n_ l_ g_ => ∃ x278982 : Int32, n_ = 400 - x278982.toInt ∧ HI g_ ∧ Fr F_X11_law_231 A_X11_law_231 g0 g_ ∧ gI g_ 231 8 = 0 ∧ en_get 0 l_ = some (.ref 231) ∧ en_get 1 l_ = some (.int v268364) ∧ en_get 2 l_ = some (.int x278982) ∧ (0 ≤ x278982.toInt ∧ x278982.toInt ≤ 400) ∧ (Fr [(231, 8)] [233] g268321 g_) ∧ ((eA g_ 233 (v268364.toInt + 1)).toInt = (gI g268321 231 15).toInt) ∧ (∀ i : Int, 0 ≤ i → i < 8 * (gI g268321 231 15).toInt → (eA g_ 233 (v268364.toInt + 2 + i)).toInt = (eA g268321 237 i).toInt) ∧ (∀ i : Int, 0 ≤ i → i < 110 → eA g_ 233 i = eA g268321 233 i) ∧ (∀ i : Int, 0 ≤ i → i < x278982.toInt → (eA g_ 233 (v268364.toInt + 98 + 2 * i)).toInt = (eA g268321 238 i).toInt ∧ (eA g_ 233 (v268364.toInt + 98 + 2 * i + 1)).toInt = (eA g268321 239 i).toInt)) ?_ (400 - 0) ⟨0, by first | rfl | omega, hI278361, hF278362, e278366, (w_p1 (by decide) (Or.inr rfl) e278367), (w_p1 (by decide) (Or.inr rfl) e278368), (w_e1 _ _ _), by decide, (Fr.tr Fr.rf q278371 rfl rfl), ((congrArg Int32.toInt (rfl)).trans q278372), (fun i i0 i1 => q278373 i i0 (by omega)), (fun i i0 i1 => (rfl).trans (q278374 i i0 i1)), (fun i i0 i1 => absurd i1 (by omega))⟩
            rintro n278987 l278986 g278983 ⟨x278982, hm279002, hI278984, hF278985, e278989, e278990, e278991, e278992, r278993, q278994, q278995, q278996, q278997, q278998⟩ ih278988
            have tv279003 := congrArg Int32.toInt e278989
            have x279004 := HI.eqI hI268322 (p := 231) (b := 15) (hv268354)
            have x279005 := HI.eqI hI268322 (p := 231) (b := 17) (hv268356)
            have t279006 := congrArg Int32.toInt ((q278997 2 (by decide) (by decide)).trans ((eA_c (q268330.2.1 233 (by decide))).trans hv214640))
            refine At.enter rfl ?_
            refine r_iload_n e278992 ?_
            refine r_aload_n e278990 ?_
            refine q_getI (Sh.int hI278984.1 kx_231 rfl) v268356 ((q278994.1 231 17 (by decide)).trans hv268356) ?_
            have bv279008 := q_bnd x278982
            have bv279009 := q_bnd v268356
            refine r_ics 187 rfl (fun c279007 => ?_) (fun c279007 => ?_)
            · have c279007_ : x278982.toInt ≥ v268356.toInt := en_i_ge_t c279007
              refine At.enter rfl ?_
              refine r_aload_n e278990 ?_
              refine q_getR (Sh.ref hI278984.1 kx_231 rfl) ?_
              refine r_iconst 2 rfl ?_
              refine r_dup2 ⟨rfl, rfl⟩ ?_
              refine q_iald (Sh.arr hI278984.1 ka_233) 2 rfl (by decide) v214640 ((q278997 2 (by decide) (by decide)).trans ((eA_c (q268330.2.1 233 (by decide))).trans hv214640)) ?_
              refine r_iconst 1 rfl ?_
              refine q_iadd (v214640.toInt + 1) rfl (by omega) (fun v279010 hv279010 => ?_)
              refine q_iast (Sh.arr hI278984.1 ka_233) (2) rfl (by decide) ?_
              have x279013 := HI.eqA hI278984 (p := 233) (j := 2) (((q278997 2 (by decide) (by decide)).trans ((eA_c (q268330.2.1 233 (by decide))).trans hv214640)))
              have hI279011 := HI.wt2 hI278984 (v := v279010) (by omega) (by omega) (by rw [show 110 + 900 * (eA _ 233 2).toInt = v268364.toInt by omega]; exact LAW.mk (q268336 (by omega)).2 ⟨by omega, by omega⟩ (by omega) q278995 q278996 (fun i i0 i1 => q278998 i i0 (by omega)))
              have hF279012 := Fr.wA (p := 233) (j := 2) (v := v279010) hF278985 rfl
              refine r_aload_n e278990 ?_
              refine r_aload_n e278990 ?_
              refine q_getR (Sh.ref hI279011.1 kx_231 rfl) ?_
              refine r_iconst 2 rfl ?_
              refine q_iald (Sh.arr hI279011.1 ka_233) 2 rfl (by decide) v279010 (eA_sA_eq hI278984.1 ka_233 (by first | rfl | omega) (by first | decide | omega) (by first | decide | omega)) ?_
              refine r_iconst 1 rfl ?_
              refine q_isub (v279010.toInt - 1) rfl (by omega) (fun v279014 hv279014 => ?_)
              refine r_callV 255 rfl [.ref 231, .int v279014] [] (Nat.le_of_ble_eq_true rfl) rfl (T_X11_tell_231 _ hI279011 v279014 (by omega)) ?_
              rintro _ _ ⟨g279015, rfl, hI279016, hF279017, v279018, rfl, hr279019⟩
              refine At.sti ?_
              have hF279020 := Fr.tr hF279012 hF279017 rfl rfl
              refine At.enter rfl ?_
              refine r_ireti ?_
              have x279021 := HI.eqI hI279016 (p := 231) (b := 8) ((((hF279017.1 231 8 (by decide)).trans (gI_sW)).trans e278989))
              have zv279022 : (0 : Int32).toInt = 0 := rfl
              exact ⟨_, rfl, hI279016, hF279020, _, rfl, by omega, ⟨(fun i i0 i1 i2 => ((eA_c (hF279017.2.1 233 (by decide))).trans ((eA_sA_ne (i := i) hI278984.1 ka_233 (by omega) (by omega) (by omega)).trans ((q278997 i i0 i1).trans (eA_c ((q268330.2.1 233 (by decide)))))))), by omega⟩⟩
            · have c279007_ : x278982.toInt < v268356.toInt := en_i_ge_f c279007
              refine At.enter rfl ?_
              refine r_aload_n e278990 ?_
              refine q_getR (Sh.ref hI278984.1 kx_231 rfl) ?_
              refine r_iload_n e278991 ?_
              refine r_bipush 98 rfl ?_
              refine q_iadd (v268364.toInt + 98) rfl (by omega) (fun v279023 hv279023 => ?_)
              refine r_iconst 2 rfl ?_
              refine r_iload_n e278992 ?_
              refine q_imul (2 * x278982.toInt) rfl (by omega) (fun v279024 hv279024 => ?_)
              refine q_iadd (v279023.toInt + v279024.toInt) rfl (by omega) (fun v279025 hv279025 => ?_)
              refine r_aload_n e278990 ?_
              refine q_getR (Sh.ref hI278984.1 kx_231 rfl) ?_
              refine r_iload_n e278992 ?_
              obtain ⟨v279026, hv279026⟩ : ∃ v, eA g268321 238 x278982.toInt = v := ⟨_, rfl⟩
              refine q_iald (Sh.arr hI278984.1 ka_238) x278982.toInt rfl (by omega) v279026 ((eA_c (q278994.2.1 238 (by decide))).trans hv279026) ?_
              refine q_iast (Sh.arr hI278984.1 ka_233) ((900 * v214640.toInt + 2 * x278982.toInt + 208)) (by omega) (by omega) ?_
              have x279029 := HI.eqA hI278984 (p := 233) (j := 2) (((q278997 2 (by decide) (by decide)).trans ((eA_c (q268330.2.1 233 (by decide))).trans hv214640)))
              have hI279027 := HI.wfree hI278984 (j := (900 * v214640.toInt + 2 * x278982.toInt + 208)) (v := v279026) ⟨by omega, by omega⟩
              have hF279028 := Fr.wA (p := 233) (j := (900 * v214640.toInt + 2 * x278982.toInt + 208)) (v := v279026) hF278985 rfl
              refine r_aload_n e278990 ?_
              refine q_getR (Sh.ref hI279027.1 kx_231 rfl) ?_
              refine r_iload_n e278991 ?_
              refine r_bipush 98 rfl ?_
              refine q_iadd (v268364.toInt + 98) rfl (by omega) (fun v279030 hv279030 => ?_)
              refine r_iconst 2 rfl ?_
              refine r_iload_n e278992 ?_
              refine q_imul (2 * x278982.toInt) rfl (by omega) (fun v279031 hv279031 => ?_)
              refine q_iadd (v279030.toInt + v279031.toInt) rfl (by omega) (fun v279032 hv279032 => ?_)
              refine r_iconst 1 rfl ?_
              refine q_iadd (v279032.toInt + 1) rfl (by omega) (fun v279033 hv279033 => ?_)
              refine r_aload_n e278990 ?_
              refine q_getR (Sh.ref hI279027.1 kx_231 rfl) ?_
              refine r_iload_n e278992 ?_
              obtain ⟨v279034, hv279034⟩ : ∃ v, eA g268321 239 x278982.toInt = v := ⟨_, rfl⟩
              refine q_iald (Sh.arr hI279027.1 ka_239) x278982.toInt rfl (by omega) v279034 ((eA_c ((gA_sA_ne (by decide)).trans (q278994.2.1 239 (by decide)))).trans hv279034) ?_
              refine q_iast (Sh.arr hI279027.1 ka_233) ((900 * v214640.toInt + 2 * x278982.toInt + 209)) (by omega) (by omega) ?_
              have x279037 := HI.eqA hI279027 (p := 233) (j := 2) (((eA_sA_ne hI278984.1 ka_233 (by first | decide | omega) (by first | decide | omega) (by first | decide | omega)).trans ((q278997 2 (by decide) (by decide)).trans ((eA_c (q268330.2.1 233 (by decide))).trans hv214640))))
              have hI279035 := HI.wfree hI279027 (j := (900 * v214640.toInt + 2 * x278982.toInt + 209)) (v := v279034) ⟨by omega, by omega⟩
              have hF279036 := Fr.wA (p := 233) (j := (900 * v214640.toInt + 2 * x278982.toInt + 209)) (v := v279034) hF279028 rfl
              refine q_iinc e278992 (x278982.toInt + 1) rfl (by omega) (fun v279038 hv279038 => ?_)
              refine r_goto ?_
              exact ih278988 (400 - v279038.toInt) _ _ ⟨v279038, by first | rfl | omega, hI279035, hF279036, (((gI_sW).trans (gI_sW)).trans e278989), (w_p1 (by decide) (Or.inr rfl) e278990), (w_p1 (by decide) (Or.inr rfl) e278991), (w_e1 _ _ _), by omega, (Fr.wA (p := 233) (Fr.wA (p := 233) q278994 rfl) rfl), ((congrArg Int32.toInt (((eA_sA_ne (i := v268364.toInt + 1) hI279027.1 ka_233 (by omega) (by omega) (by omega)).trans (eA_sA_ne (i := v268364.toInt + 1) hI278984.1 ka_233 (by omega) (by omega) (by omega))))).trans q278995), (fun i i0 i1 => (congrArg Int32.toInt (((eA_sA_ne (i := v268364.toInt + 2 + i) hI279027.1 ka_233 (by omega) (by omega) (by omega)).trans (eA_sA_ne (i := v268364.toInt + 2 + i) hI278984.1 ka_233 (by omega) (by omega) (by omega))))).trans (q278996 i i0 i1)), (fun i i0 i1 => (((eA_sA_ne (i := i) hI279027.1 ka_233 (by omega) (by omega) (by omega)).trans (eA_sA_ne (i := i) hI278984.1 ka_233 (by omega) (by omega) (by omega)))).trans (q278997 i i0 i1)), (fun i i0 i1 => (Decidable.em (i = x278982.toInt)).elim (fun e => by rw [e]; exact ⟨((congrArg Int32.toInt ((eA_sA_ne (i := v268364.toInt + 98 + 2 * x278982.toInt) hI279027.1 ka_233 (by omega) (by omega) (by omega)).trans (eA_sA_eq hI278984.1 ka_233 (by omega) (by omega) (by omega)))).trans (congrArg Int32.toInt hv279026).symm), ((congrArg Int32.toInt (eA_sA_eq hI279027.1 ka_233 (by omega) (by omega) (by omega))).trans (congrArg Int32.toInt hv279034).symm)⟩) (fun e => ⟨(congrArg Int32.toInt (((eA_sA_ne (i := v268364.toInt + 98 + 2 * i) hI279027.1 ka_233 (by omega) (by omega) (by omega)).trans (eA_sA_ne (i := v268364.toInt + 98 + 2 * i) hI278984.1 ka_233 (by omega) (by omega) (by omega))))).trans (q278998 i i0 (by omega)).1, (congrArg Int32.toInt (((eA_sA_ne (i := v268364.toInt + 98 + 2 * i + 1) hI279027.1 ka_233 (by omega) (by omega) (by omega)).trans (eA_sA_ne (i := v268364.toInt + 98 + 2 * i + 1) hI278984.1 ka_233 (by omega) (by omega) (by omega))))).trans (q278998 i i0 (by omega)).2⟩))⟩ ⟨by omega, by omega⟩
          · have c278384_ : x278359.toInt < v278383.toInt := en_i_ge_f c278384
            refine At.enter rfl ?_
            refine r_aload_n e278367 ?_
            refine q_getR (Sh.ref hI278361.1 kx_231 rfl) ?_
            refine r_iload_n e278368 ?_
            refine r_iconst 2 rfl ?_
            refine q_iadd (v268364.toInt + 2) rfl (by omega) (fun v279039 hv279039 => ?_)
            refine r_iload_n e278369 ?_
            refine q_iadd (v279039.toInt + x278359.toInt) rfl (by omega) (fun v279040 hv279040 => ?_)
            refine r_aload_n e278367 ?_
            refine q_getR (Sh.ref hI278361.1 kx_231 rfl) ?_
            refine r_iload_n e278369 ?_
            obtain ⟨v279041, hv279041⟩ : ∃ v, eA g268321 237 x278359.toInt = v := ⟨_, rfl⟩
            refine q_iald (Sh.arr hI278361.1 ka_237) x278359.toInt rfl (by omega) v279041 ((eA_c (q278371.2.1 237 (by decide))).trans hv279041) ?_
            refine q_iast (Sh.arr hI278361.1 ka_233) ((900 * v214640.toInt + x278359.toInt + 112)) (by omega) (by omega) ?_
            have x279044 := HI.eqA hI278361 (p := 233) (j := 2) (((q278374 2 (by decide) (by decide)).trans ((eA_c (q268330.2.1 233 (by decide))).trans hv214640)))
            have hI279042 := HI.wfree hI278361 (j := (900 * v214640.toInt + x278359.toInt + 112)) (v := v279041) ⟨by omega, by omega⟩
            have hF279043 := Fr.wA (p := 233) (j := (900 * v214640.toInt + x278359.toInt + 112)) (v := v279041) hF278362 rfl
            refine q_iinc e278369 (x278359.toInt + 1) rfl (by omega) (fun v279045 hv279045 => ?_)
            refine r_goto ?_
            exact ih278365 (96 - v279045.toInt) _ _ ⟨v279045, by first | rfl | omega, hI279042, hF279043, ((gI_sW).trans e278366), (w_p1 (by decide) (Or.inr rfl) e278367), (w_p1 (by decide) (Or.inr rfl) e278368), (w_e1 _ _ _), by omega, (Fr.wA (p := 233) q278371 rfl), ((congrArg Int32.toInt ((eA_sA_ne (i := v268364.toInt + 1) hI278361.1 ka_233 (by omega) (by omega) (by omega)))).trans q278372), (fun i i0 i1 => (Decidable.em (i = x278359.toInt)).elim (fun e => by rw [e]; exact (congrArg Int32.toInt (eA_sA_eq hI278361.1 ka_233 (by omega) (by omega) (by omega))).trans (congrArg Int32.toInt hv279041).symm) (fun e => (congrArg Int32.toInt ((eA_sA_ne (i := v268364.toInt + 2 + i) hI278361.1 ka_233 (by omega) (by omega) (by omega)))).trans (q278373 i i0 (by omega)))), (fun i i0 i1 => ((eA_sA_ne (i := i) hI278361.1 ka_233 (by omega) (by omega) (by omega))).trans (q278374 i i0 i1))⟩ ⟨by omega, by omega⟩
        · have c268362_ : v268352.toInt ≠ 0 := en_k_eq_f c268362
          refine At.enter rfl ?_
          refine r_aload_n e268328 ?_
          refine r_bipush (-6) rfl ?_
          refine r_callV 115 rfl [.ref 231, .int (-6)] [] (Nat.le_of_ble_eq_true rfl) rfl (T_X11_tell_231 _ hI268360 (-6) (by decide)) ?_
          rintro _ _ ⟨g279046, rfl, hI279047, hF279048, v279049, rfl, hr279050⟩
          refine At.sti ?_
          have hF279051 := Fr.tr hF268361 hF279048 rfl rfl
          have zv279052 : ((-6) : Int32).toInt = (-6) := rfl
          refine At.enter rfl ?_
          refine r_ireti ?_
          have x279053 := HI.eqI hI279047 (p := 231) (b := 8) (((hF279048.1 231 8 (by decide)).trans (gI_sI_eq hI268322.1 kx_231 rfl _)))
          have zv279054 : (0 : Int32).toInt = 0 := rfl
          exact ⟨_, rfl, hI279047, hF279051, _, rfl, by omega, ⟨(fun i i0 i1 i2 => eA_c (((hF279048.2.1 233 (by decide)).trans ((gA_sI).trans (q268330.2.1 233 (by decide)))))), by omega⟩⟩
      · have c268359_ : v268352.toInt = 0 := en_k_ne_f c268359
        refine At.enter rfl ?_
        refine r_aload_n e268328 ?_
        refine q_getI (Sh.int hI268322.1 kx_231 rfl) v268350 hv268350 ?_
        refine r_ifs 92 rfl (fun c279055 => ?_) (fun c279055 => ?_)
        · have c279055_ : v268350.toInt = 0 := en_k_eq_t c279055
          refine At.enter rfl ?_
          refine r_aload_n e268328 ?_
          refine r_iconst 0 rfl ?_
          refine q_putI (Sh.int hI268322.1 kx_231 rfl) rfl ?_
          have hI279056 := HI.wI1 hI268322 kx_231 rfl (p := 231) (b := 8) (v := 0) rfl (by decide)
          have hF279057 := Fr.wI (p := 231) (b := 8) (v := 0) hF268323 rfl
          refine r_aload_n e268328 ?_
          refine q_getI (Sh.int hI279056.1 kx_231 rfl) v268352 ((gI_sI_ne (by decide)).trans hv268352) ?_
          refine r_ifs 109 rfl (fun c279058 => ?_) (fun c279058 => ?_)
          · have c279058_ : v268352.toInt = 0 := en_k_eq_t c279058
            refine At.enter rfl ?_
            refine r_bipush 110 rfl ?_
            refine r_sipush 900 rfl ?_
            refine r_aload_n e268328 ?_
            refine q_getR (Sh.ref hI279056.1 kx_231 rfl) ?_
            refine r_iconst 2 rfl ?_
            refine q_iald (Sh.arr hI279056.1 ka_233) 2 rfl (by decide) v214640 ((eA_c ((gA_sI).trans (q268330.2.1 233 (by decide)))).trans hv214640) ?_
            refine q_imul (900 * v214640.toInt) rfl (by omega) (fun v279059 hv279059 => ?_)
            refine q_iadd (110 + v279059.toInt) rfl (by omega) (fun v279060 hv279060 => ?_)
            refine r_istore_n _ rfl ?_
            refine r_aload_n (w_p1 (by decide) (Or.inr rfl) e268328) ?_
            refine q_getR (Sh.ref hI279056.1 kx_231 rfl) ?_
            refine r_iload_n (w_e1 _ _ _) ?_
            refine r_iconst 1 rfl ?_
            refine q_iadd (v279060.toInt + 1) rfl (by omega) (fun v279061 hv279061 => ?_)
            refine r_aload_n (w_p1 (by decide) (Or.inr rfl) e268328) ?_
            refine q_getI (Sh.int hI279056.1 kx_231 rfl) v268354 ((gI_sI_ne (by decide)).trans hv268354) ?_
            refine q_iast (Sh.arr hI279056.1 ka_233) ((900 * v214640.toInt + 111)) (by omega) (by omega) ?_
            have x279064 := HI.eqA hI279056 (p := 233) (j := 2) ((((eA_c gA_sI).trans (eA_c (q268330.2.1 233 (by decide)))).trans hv214640))
            have hI279062 := HI.wfree hI279056 (j := (900 * v214640.toInt + 111)) (v := v268354) ⟨by omega, by omega⟩
            have hF279063 := Fr.wA (p := 233) (j := (900 * v214640.toInt + 111)) (v := v268354) hF279057 rfl
            refine r_iconst 0 rfl ?_
            refine r_istore_n _ rfl ?_
            refine Ar.fall 144 rfl ?_
            have z_289071 : (0 : Int32).toInt = 0 := rfl
            have x289072 := HI.eqI hI268322 (p := 231) (b := 15) (hv268354)
            have x289073 := HI.eqI hI268322 (p := 231) (b := 17) (hv268356)
            refine w_loopI (fun n_ l_ g_ => ∃ x289055 : Int32, n_ = 96 - x289055.toInt ∧ HI g_ ∧ Fr F_X11_law_231 A_X11_law_231 g0 g_ ∧ gI g_ 231 8 = 0 ∧ en_get 0 l_ = some (.ref 231) ∧ en_get 1 l_ = some (.int v279060) ∧ en_get 2 l_ = some (.int x289055) ∧ (0 ≤ x289055.toInt ∧ x289055.toInt ≤ 96) ∧ (Fr [(231, 8)] [233] g268321 g_) ∧ ((eA g_ 233 (v279060.toInt + 1)).toInt = (gI g268321 231 15).toInt) ∧ (∀ i : Int, 0 ≤ i → i < x289055.toInt → (eA g_ 233 (v279060.toInt + 2 + i)).toInt = (eA g268321 237 i).toInt) ∧ (∀ i : Int, 0 ≤ i → i < 110 → eA g_ 233 i = eA g268321 233 i)) ?_ (96 - 0) ⟨0, by first | rfl | omega, hI279062, hF279063, ((gI_sW).trans (gI_sI_eq hI268322.1 kx_231 rfl _)), (w_p1 (by decide) (Or.inr rfl) (w_p1 (by decide) (Or.inr rfl) e268328)), (w_p1 (by decide) (Or.inr rfl) (w_e1 _ _ _)), (w_e1 _ _ _), by decide, (Fr.wA (p := 233) (Fr.wI (p := 231) (b := 8) Fr.rf rfl) rfl), ((congrArg Int32.toInt (eA_sA_eq hI279056.1 ka_233 (by omega) (by omega) (by omega))).trans (by omega)), (fun i i0 i1 => absurd i1 (by omega)), (fun i i0 i1 => ((eA_sA_ne (i := i) hI279056.1 ka_233 (by omega) (by omega) (by omega)).trans (eA_c gA_sI)))⟩
            rintro n289060 l289059 g289056 ⟨x289055, hm289074, hI289057, hF289058, e289062, e289063, e289064, e289065, r289066, q289067, q289068, q289069, q289070⟩ ih289061
            have tv289075 := congrArg Int32.toInt e289062
            have x289076 := HI.eqI hI268322 (p := 231) (b := 15) (hv268354)
            have x289077 := HI.eqI hI268322 (p := 231) (b := 17) (hv268356)
            have t289078 := congrArg Int32.toInt ((q289070 2 (by decide) (by decide)).trans ((eA_c (q268330.2.1 233 (by decide))).trans hv214640))
            refine At.enter rfl ?_
            refine r_iload_n e289065 ?_
            refine r_bipush 8 rfl ?_
            refine r_aload_n e289063 ?_
            refine q_getI (Sh.int hI289057.1 kx_231 rfl) v268354 ((q289067.1 231 15 (by decide)).trans hv268354) ?_
            refine q_imul (8 * v268354.toInt) rfl (by omega) (fun v289079 hv289079 => ?_)
            have bv289081 := q_bnd x289055
            have bv289082 := q_bnd v289079
            refine r_ics 155 rfl (fun c289080 => ?_) (fun c289080 => ?_)
            · have c289080_ : x289055.toInt ≥ v289079.toInt := en_i_ge_t c289080
              refine At.enter rfl ?_
              refine r_iconst 0 rfl ?_
              refine r_istore_n _ rfl ?_
              refine Ar.fall 179 rfl ?_
              have z_289695 : (0 : Int32).toInt = 0 := rfl
              have x289696 := HI.eqI hI268322 (p := 231) (b := 15) (hv268354)
              have x289697 := HI.eqI hI268322 (p := 231) (b := 17) (hv268356)
              refine w_loopI (fun n_ l_ g_ => ∃ x289678 : Int32, n_ = 400 - x289678.toInt ∧ HI g_ ∧ Fr F_X11_law_231 A_X11_law_231 g0 g_ ∧ gI g_ 231 8 = 0 ∧ en_get 0 l_ = some (.ref 231) ∧ en_get 1 l_ = some (.int v279060) ∧ en_get 2 l_ = some (.int x289678) ∧ (0 ≤ x289678.toInt ∧ x289678.toInt ≤ 400) ∧ (Fr [(231, 8)] [233] g268321 g_) ∧ ((eA g_ 233 (v279060.toInt + 1)).toInt = (gI g268321 231 15).toInt) ∧ (∀ i : Int, 0 ≤ i → i < 8 * (gI g268321 231 15).toInt → (eA g_ 233 (v279060.toInt + 2 + i)).toInt = (eA g268321 237 i).toInt) ∧ (∀ i : Int, 0 ≤ i → i < 110 → eA g_ 233 i = eA g268321 233 i) ∧ (∀ i : Int, 0 ≤ i → i < x289678.toInt → (eA g_ 233 (v279060.toInt + 98 + 2 * i)).toInt = (eA g268321 238 i).toInt ∧ (eA g_ 233 (v279060.toInt + 98 + 2 * i + 1)).toInt = (eA g268321 239 i).toInt)) ?_ (400 - 0) ⟨0, by first | rfl | omega, hI289057, hF289058, e289062, (w_p1 (by decide) (Or.inr rfl) e289063), (w_p1 (by decide) (Or.inr rfl) e289064), (w_e1 _ _ _), by decide, (Fr.tr Fr.rf q289067 rfl rfl), ((congrArg Int32.toInt (rfl)).trans q289068), (fun i i0 i1 => q289069 i i0 (by omega)), (fun i i0 i1 => (rfl).trans (q289070 i i0 i1)), (fun i i0 i1 => absurd i1 (by omega))⟩
              rintro n289683 l289682 g289679 ⟨x289678, hm289698, hI289680, hF289681, e289685, e289686, e289687, e289688, r289689, q289690, q289691, q289692, q289693, q289694⟩ ih289684
              have tv289699 := congrArg Int32.toInt e289685
              have x289700 := HI.eqI hI268322 (p := 231) (b := 15) (hv268354)
              have x289701 := HI.eqI hI268322 (p := 231) (b := 17) (hv268356)
              have t289702 := congrArg Int32.toInt ((q289693 2 (by decide) (by decide)).trans ((eA_c (q268330.2.1 233 (by decide))).trans hv214640))
              refine At.enter rfl ?_
              refine r_iload_n e289688 ?_
              refine r_aload_n e289686 ?_
              refine q_getI (Sh.int hI289680.1 kx_231 rfl) v268356 ((q289690.1 231 17 (by decide)).trans hv268356) ?_
              have bv289704 := q_bnd x289678
              have bv289705 := q_bnd v268356
              refine r_ics 187 rfl (fun c289703 => ?_) (fun c289703 => ?_)
              · have c289703_ : x289678.toInt ≥ v268356.toInt := en_i_ge_t c289703
                refine At.enter rfl ?_
                refine r_aload_n e289686 ?_
                refine q_getR (Sh.ref hI289680.1 kx_231 rfl) ?_
                refine r_iconst 2 rfl ?_
                refine r_dup2 ⟨rfl, rfl⟩ ?_
                refine q_iald (Sh.arr hI289680.1 ka_233) 2 rfl (by decide) v214640 ((q289693 2 (by decide) (by decide)).trans ((eA_c (q268330.2.1 233 (by decide))).trans hv214640)) ?_
                refine r_iconst 1 rfl ?_
                refine q_iadd (v214640.toInt + 1) rfl (by omega) (fun v289706 hv289706 => ?_)
                refine q_iast (Sh.arr hI289680.1 ka_233) (2) rfl (by decide) ?_
                have x289709 := HI.eqA hI289680 (p := 233) (j := 2) (((q289693 2 (by decide) (by decide)).trans ((eA_c (q268330.2.1 233 (by decide))).trans hv214640)))
                have hI289707 := HI.wt2 hI289680 (v := v289706) (by omega) (by omega) (by rw [show 110 + 900 * (eA _ 233 2).toInt = v279060.toInt by omega]; exact LAW.mk (q268336 (by omega)).2 ⟨by omega, by omega⟩ (by omega) q289691 q289692 (fun i i0 i1 => q289694 i i0 (by omega)))
                have hF289708 := Fr.wA (p := 233) (j := 2) (v := v289706) hF289681 rfl
                refine r_aload_n e289686 ?_
                refine r_aload_n e289686 ?_
                refine q_getR (Sh.ref hI289707.1 kx_231 rfl) ?_
                refine r_iconst 2 rfl ?_
                refine q_iald (Sh.arr hI289707.1 ka_233) 2 rfl (by decide) v289706 (eA_sA_eq hI289680.1 ka_233 (by first | rfl | omega) (by first | decide | omega) (by first | decide | omega)) ?_
                refine r_iconst 1 rfl ?_
                refine q_isub (v289706.toInt - 1) rfl (by omega) (fun v289710 hv289710 => ?_)
                refine r_callV 255 rfl [.ref 231, .int v289710] [] (Nat.le_of_ble_eq_true rfl) rfl (T_X11_tell_231 _ hI289707 v289710 (by omega)) ?_
                rintro _ _ ⟨g289711, rfl, hI289712, hF289713, v289714, rfl, hr289715⟩
                refine At.sti ?_
                have hF289716 := Fr.tr hF289708 hF289713 rfl rfl
                refine At.enter rfl ?_
                refine r_ireti ?_
                have x289717 := HI.eqI hI289712 (p := 231) (b := 8) ((((hF289713.1 231 8 (by decide)).trans (gI_sW)).trans e289685))
                have zv289718 : (0 : Int32).toInt = 0 := rfl
                exact ⟨_, rfl, hI289712, hF289716, _, rfl, by omega, ⟨(fun i i0 i1 i2 => ((eA_c (hF289713.2.1 233 (by decide))).trans ((eA_sA_ne (i := i) hI289680.1 ka_233 (by omega) (by omega) (by omega)).trans ((q289693 i i0 i1).trans (eA_c ((q268330.2.1 233 (by decide)))))))), by omega⟩⟩
              · have c289703_ : x289678.toInt < v268356.toInt := en_i_ge_f c289703
                refine At.enter rfl ?_
                refine r_aload_n e289686 ?_
                refine q_getR (Sh.ref hI289680.1 kx_231 rfl) ?_
                refine r_iload_n e289687 ?_
                refine r_bipush 98 rfl ?_
                refine q_iadd (v279060.toInt + 98) rfl (by omega) (fun v289719 hv289719 => ?_)
                refine r_iconst 2 rfl ?_
                refine r_iload_n e289688 ?_
                refine q_imul (2 * x289678.toInt) rfl (by omega) (fun v289720 hv289720 => ?_)
                refine q_iadd (v289719.toInt + v289720.toInt) rfl (by omega) (fun v289721 hv289721 => ?_)
                refine r_aload_n e289686 ?_
                refine q_getR (Sh.ref hI289680.1 kx_231 rfl) ?_
                refine r_iload_n e289688 ?_
                obtain ⟨v289722, hv289722⟩ : ∃ v, eA g268321 238 x289678.toInt = v := ⟨_, rfl⟩
                refine q_iald (Sh.arr hI289680.1 ka_238) x289678.toInt rfl (by omega) v289722 ((eA_c (q289690.2.1 238 (by decide))).trans hv289722) ?_
                refine q_iast (Sh.arr hI289680.1 ka_233) ((900 * v214640.toInt + 2 * x289678.toInt + 208)) (by omega) (by omega) ?_
                have x289725 := HI.eqA hI289680 (p := 233) (j := 2) (((q289693 2 (by decide) (by decide)).trans ((eA_c (q268330.2.1 233 (by decide))).trans hv214640)))
                have hI289723 := HI.wfree hI289680 (j := (900 * v214640.toInt + 2 * x289678.toInt + 208)) (v := v289722) ⟨by omega, by omega⟩
                have hF289724 := Fr.wA (p := 233) (j := (900 * v214640.toInt + 2 * x289678.toInt + 208)) (v := v289722) hF289681 rfl
                refine r_aload_n e289686 ?_
                refine q_getR (Sh.ref hI289723.1 kx_231 rfl) ?_
                refine r_iload_n e289687 ?_
                refine r_bipush 98 rfl ?_
                refine q_iadd (v279060.toInt + 98) rfl (by omega) (fun v289726 hv289726 => ?_)
                refine r_iconst 2 rfl ?_
                refine r_iload_n e289688 ?_
                refine q_imul (2 * x289678.toInt) rfl (by omega) (fun v289727 hv289727 => ?_)
                refine q_iadd (v289726.toInt + v289727.toInt) rfl (by omega) (fun v289728 hv289728 => ?_)
                refine r_iconst 1 rfl ?_
                refine q_iadd (v289728.toInt + 1) rfl (by omega) (fun v289729 hv289729 => ?_)
                refine r_aload_n e289686 ?_
                refine q_getR (Sh.ref hI289723.1 kx_231 rfl) ?_
                refine r_iload_n e289688 ?_
                obtain ⟨v289730, hv289730⟩ : ∃ v, eA g268321 239 x289678.toInt = v := ⟨_, rfl⟩
                refine q_iald (Sh.arr hI289723.1 ka_239) x289678.toInt rfl (by omega) v289730 ((eA_c ((gA_sA_ne (by decide)).trans (q289690.2.1 239 (by decide)))).trans hv289730) ?_
                refine q_iast (Sh.arr hI289723.1 ka_233) ((900 * v214640.toInt + 2 * x289678.toInt + 209)) (by omega) (by omega) ?_
                have x289733 := HI.eqA hI289723 (p := 233) (j := 2) (((eA_sA_ne hI289680.1 ka_233 (by first | decide | omega) (by first | decide | omega) (by first | decide | omega)).trans ((q289693 2 (by decide) (by decide)).trans ((eA_c (q268330.2.1 233 (by decide))).trans hv214640))))
                have hI289731 := HI.wfree hI289723 (j := (900 * v214640.toInt + 2 * x289678.toInt + 209)) (v := v289730) ⟨by omega, by omega⟩
                have hF289732 := Fr.wA (p := 233) (j := (900 * v214640.toInt + 2 * x289678.toInt + 209)) (v := v289730) hF289724 rfl
                refine q_iinc e289688 (x289678.toInt + 1) rfl (by omega) (fun v289734 hv289734 => ?_)
                refine r_goto ?_
                exact ih289684 (400 - v289734.toInt) _ _ ⟨v289734, by first | rfl | omega, hI289731, hF289732, (((gI_sW).trans (gI_sW)).trans e289685), (w_p1 (by decide) (Or.inr rfl) e289686), (w_p1 (by decide) (Or.inr rfl) e289687), (w_e1 _ _ _), by omega, (Fr.wA (p := 233) (Fr.wA (p := 233) q289690 rfl) rfl), ((congrArg Int32.toInt (((eA_sA_ne (i := v279060.toInt + 1) hI289723.1 ka_233 (by omega) (by omega) (by omega)).trans (eA_sA_ne (i := v279060.toInt + 1) hI289680.1 ka_233 (by omega) (by omega) (by omega))))).trans q289691), (fun i i0 i1 => (congrArg Int32.toInt (((eA_sA_ne (i := v279060.toInt + 2 + i) hI289723.1 ka_233 (by omega) (by omega) (by omega)).trans (eA_sA_ne (i := v279060.toInt + 2 + i) hI289680.1 ka_233 (by omega) (by omega) (by omega))))).trans (q289692 i i0 i1)), (fun i i0 i1 => (((eA_sA_ne (i := i) hI289723.1 ka_233 (by omega) (by omega) (by omega)).trans (eA_sA_ne (i := i) hI289680.1 ka_233 (by omega) (by omega) (by omega)))).trans (q289693 i i0 i1)), (fun i i0 i1 => (Decidable.em (i = x289678.toInt)).elim (fun e => by rw [e]; exact ⟨((congrArg Int32.toInt ((eA_sA_ne (i := v279060.toInt + 98 + 2 * x289678.toInt) hI289723.1 ka_233 (by omega) (by omega) (by omega)).trans (eA_sA_eq hI289680.1 ka_233 (by omega) (by omega) (by omega)))).trans (congrArg Int32.toInt hv289722).symm), ((congrArg Int32.toInt (eA_sA_eq hI289723.1 ka_233 (by omega) (by omega) (by omega))).trans (congrArg Int32.toInt hv289730).symm)⟩) (fun e => ⟨(congrArg Int32.toInt (((eA_sA_ne (i := v279060.toInt + 98 + 2 * i) hI289723.1 ka_233 (by omega) (by omega) (by omega)).trans (eA_sA_ne (i := v279060.toInt + 98 + 2 * i) hI289680.1 ka_233 (by omega) (by omega) (by omega))))).trans (q289694 i i0 (by omega)).1, (congrArg Int32.toInt (((eA_sA_ne (i := v279060.toInt + 98 + 2 * i + 1) hI289723.1 ka_233 (by omega) (by omega) (by omega)).trans (eA_sA_ne (i := v279060.toInt + 98 + 2 * i + 1) hI289680.1 ka_233 (by omega) (by omega) (by omega))))).trans (q289694 i i0 (by omega)).2⟩))⟩ ⟨by omega, by omega⟩
            · have c289080_ : x289055.toInt < v289079.toInt := en_i_ge_f c289080
              refine At.enter rfl ?_
              refine r_aload_n e289063 ?_
              refine q_getR (Sh.ref hI289057.1 kx_231 rfl) ?_
              refine r_iload_n e289064 ?_
              refine r_iconst 2 rfl ?_
              refine q_iadd (v279060.toInt + 2) rfl (by omega) (fun v289735 hv289735 => ?_)
              refine r_iload_n e289065 ?_
              refine q_iadd (v289735.toInt + x289055.toInt) rfl (by omega) (fun v289736 hv289736 => ?_)
              refine r_aload_n e289063 ?_
              refine q_getR (Sh.ref hI289057.1 kx_231 rfl) ?_
              refine r_iload_n e289065 ?_
              obtain ⟨v289737, hv289737⟩ : ∃ v, eA g268321 237 x289055.toInt = v := ⟨_, rfl⟩
              refine q_iald (Sh.arr hI289057.1 ka_237) x289055.toInt rfl (by omega) v289737 ((eA_c (q289067.2.1 237 (by decide))).trans hv289737) ?_
              refine q_iast (Sh.arr hI289057.1 ka_233) ((900 * v214640.toInt + x289055.toInt + 112)) (by omega) (by omega) ?_
              have x289740 := HI.eqA hI289057 (p := 233) (j := 2) (((q289070 2 (by decide) (by decide)).trans ((eA_c (q268330.2.1 233 (by decide))).trans hv214640)))
              have hI289738 := HI.wfree hI289057 (j := (900 * v214640.toInt + x289055.toInt + 112)) (v := v289737) ⟨by omega, by omega⟩
              have hF289739 := Fr.wA (p := 233) (j := (900 * v214640.toInt + x289055.toInt + 112)) (v := v289737) hF289058 rfl
              refine q_iinc e289065 (x289055.toInt + 1) rfl (by omega) (fun v289741 hv289741 => ?_)
              refine r_goto ?_
              exact ih289061 (96 - v289741.toInt) _ _ ⟨v289741, by first | rfl | omega, hI289738, hF289739, ((gI_sW).trans e289062), (w_p1 (by decide) (Or.inr rfl) e289063), (w_p1 (by decide) (Or.inr rfl) e289064), (w_e1 _ _ _), by omega, (Fr.wA (p := 233) q289067 rfl), ((congrArg Int32.toInt ((eA_sA_ne (i := v279060.toInt + 1) hI289057.1 ka_233 (by omega) (by omega) (by omega)))).trans q289068), (fun i i0 i1 => (Decidable.em (i = x289055.toInt)).elim (fun e => by rw [e]; exact (congrArg Int32.toInt (eA_sA_eq hI289057.1 ka_233 (by omega) (by omega) (by omega))).trans (congrArg Int32.toInt hv289737).symm) (fun e => (congrArg Int32.toInt ((eA_sA_ne (i := v279060.toInt + 2 + i) hI289057.1 ka_233 (by omega) (by omega) (by omega)))).trans (q289069 i i0 (by omega)))), (fun i i0 i1 => ((eA_sA_ne (i := i) hI289057.1 ka_233 (by omega) (by omega) (by omega))).trans (q289070 i i0 i1))⟩ ⟨by omega, by omega⟩
          · have c279058_ : v268352.toInt ≠ 0 := en_k_eq_f c279058
            exfalso; omega
        · have c279055_ : v268350.toInt ≠ 0 := en_k_eq_f c279055
          refine At.enter rfl ?_
          refine r_aload_n e268328 ?_
          refine r_iconst 0 rfl ?_
          have x289742 := HI.eqI hI268322 (p := 231) (b := 8) (((q268330.1 231 8 (by decide)).trans hv1))
          have x289743 := HI.eqI hI268322 (p := 231) (b := 9) (e268327)
          have x289744 := HI.eqI hI268322 (p := 231) (b := 10) (hv268348)
          have x289745 := HI.eqI hI268322 (p := 231) (b := 11) (hv268350)
          have zv289746 : (0 : Int32).toInt = 0 := rfl
          refine r_callV 97 rfl [.ref 231, .int 0] [] (Nat.le_of_ble_eq_true rfl) rfl (T_X11_must_231 _ hI268322 0 (by decide) (by refine ⟨?_, ?_, ?_, ?_⟩ <;> omega) q268335) ?_
          rintro _ _ ⟨g289747, rfl, hI289748, hF289749, rfl, hr289751⟩
          refine At.stn ?_
          have hF289752 := Fr.tr hF268323 hF289749 rfl rfl
          have zv289753 : (0 : Int32).toInt = 0 := rfl
          have x289754 := HI.eqI hI268322 (p := 231) (b := 8) (((q268330.1 231 8 (by decide)).trans hv1))
          have x289755 := HI.eqI hI268322 (p := 231) (b := 9) (e268327)
          have x289756 := HI.eqI hI268322 (p := 231) (b := 10) (hv268348)
          have x289757 := HI.eqI hI268322 (p := 231) (b := 11) (hv268350)
          have x289758 := HI.eqI hI268322 (p := 231) (b := 14) (hv268352)
          have x289759 := HI.eqI hI289748 (p := 231) (b := 8) ((((hF289749.1 231 8 (by decide)).trans (q268330.1 231 8 (by decide))).trans hv1))
          obtain ⟨v289760, hv289760⟩ : ∃ v, gI g289747 231 9 = v := ⟨_, rfl⟩
          have rv289760 := RgF.at hI289748.2.1 (p := 231) (b := 9) rfl
          rw [hv289760] at rv289760
          dsimp only at rv289760
          have tv289760 := congrArg Int32.toInt hv289760
          have x289761 := HI.eqI hI289748 (p := 231) (b := 9) (hv289760)
          obtain ⟨v289762, hv289762⟩ : ∃ v, gI g289747 231 10 = v := ⟨_, rfl⟩
          have rv289762 := RgF.at hI289748.2.1 (p := 231) (b := 10) rfl
          rw [hv289762] at rv289762
          dsimp only at rv289762
          have tv289762 := congrArg Int32.toInt hv289762
          have x289763 := HI.eqI hI289748 (p := 231) (b := 10) (hv289762)
          obtain ⟨v289764, hv289764⟩ : ∃ v, gI g289747 231 11 = v := ⟨_, rfl⟩
          have tv289764 := congrArg Int32.toInt hv289764
          have x289765 := HI.eqI hI289748 (p := 231) (b := 11) (hv289764)
          obtain ⟨v289766, hv289766⟩ : ∃ v, gI g289747 231 14 = v := ⟨_, rfl⟩
          have tv289766 := congrArg Int32.toInt hv289766
          have x289767 := HI.eqI hI289748 (p := 231) (b := 14) (hv289766)
          obtain ⟨c289768, c289769, c289770, c289771, c289772, c289773, c289774⟩ := hr289751
          refine At.enter rfl ?_
          refine r_aload_n e268328 ?_
          refine r_iconst 0 rfl ?_
          refine q_putI (Sh.int hI289748.1 kx_231 rfl) rfl ?_
          have hI289775 := HI.wI1 hI289748 kx_231 rfl (p := 231) (b := 8) (v := 0) rfl (by decide)
          have hF289776 := Fr.wI (p := 231) (b := 8) (v := 0) hF289752 rfl
          refine r_aload_n e268328 ?_
          refine q_getI (Sh.int hI289775.1 kx_231 rfl) v289766 ((gI_sI_ne (by decide)).trans hv289766) ?_
          refine r_ifs 109 rfl (fun c289777 => ?_) (fun c289777 => ?_)
          · have c289777_ : v289766.toInt = 0 := en_k_eq_t c289777
            obtain ⟨i289778, i289779, i289780⟩ := c289774 (by omega)
            refine At.enter rfl ?_
            refine r_bipush 110 rfl ?_
            refine r_sipush 900 rfl ?_
            refine r_aload_n e268328 ?_
            refine q_getR (Sh.ref hI289775.1 kx_231 rfl) ?_
            refine r_iconst 2 rfl ?_
            refine q_iald (Sh.arr hI289775.1 ka_233) 2 rfl (by decide) v214640 ((eA_c ((gA_sI).trans ((hF289749.2.1 233 (by decide)).trans (q268330.2.1 233 (by decide))))).trans hv214640) ?_
            refine q_imul (900 * v214640.toInt) rfl (by omega) (fun v289781 hv289781 => ?_)
            refine q_iadd (110 + v289781.toInt) rfl (by omega) (fun v289782 hv289782 => ?_)
            refine r_istore_n _ rfl ?_
            refine r_aload_n (w_p1 (by decide) (Or.inr rfl) e268328) ?_
            refine q_getR (Sh.ref hI289775.1 kx_231 rfl) ?_
            refine r_iload_n (w_e1 _ _ _) ?_
            refine r_iconst 1 rfl ?_
            refine q_iadd (v289782.toInt + 1) rfl (by omega) (fun v289783 hv289783 => ?_)
            refine r_aload_n (w_p1 (by decide) (Or.inr rfl) e268328) ?_
            refine q_getI (Sh.int hI289775.1 kx_231 rfl) v268354 (((gI_sI_ne (by decide)).trans (hF289749.1 231 15 (by decide))).trans hv268354) ?_
            refine q_iast (Sh.arr hI289775.1 ka_233) ((900 * v214640.toInt + 111)) (by omega) (by omega) ?_
            have x289786 := HI.eqA hI289775 (p := 233) (j := 2) ((((eA_c gA_sI).trans ((eA_c (hF289749.2.1 233 (by decide))).trans (eA_c (q268330.2.1 233 (by decide))))).trans hv214640))
            have hI289784 := HI.wfree hI289775 (j := (900 * v214640.toInt + 111)) (v := v268354) ⟨by omega, by omega⟩
            have hF289785 := Fr.wA (p := 233) (j := (900 * v214640.toInt + 111)) (v := v268354) hF289776 rfl
            refine r_iconst 0 rfl ?_
            refine r_istore_n _ rfl ?_
            refine Ar.fall 144 rfl ?_
            have z_299793 : (0 : Int32).toInt = 0 := rfl
            have x299794 := HI.eqI hI289748 (p := 231) (b := 15) (((hF289749.1 231 15 (by decide)).trans hv268354))
            have x299795 := HI.eqI hI289748 (p := 231) (b := 17) (((hF289749.1 231 17 (by decide)).trans hv268356))
            refine w_loopI (fun n_ l_ g_ => ∃ x299777 : Int32, n_ = 96 - x299777.toInt ∧ HI g_ ∧ Fr F_X11_law_231 A_X11_law_231 g0 g_ ∧ gI g_ 231 8 = 0 ∧ en_get 0 l_ = some (.ref 231) ∧ en_get 1 l_ = some (.int v289782) ∧ en_get 2 l_ = some (.int x299777) ∧ (0 ≤ x299777.toInt ∧ x299777.toInt ≤ 96) ∧ (Fr [(231, 8)] [233] g289747 g_) ∧ ((eA g_ 233 (v289782.toInt + 1)).toInt = (gI g289747 231 15).toInt) ∧ (∀ i : Int, 0 ≤ i → i < x299777.toInt → (eA g_ 233 (v289782.toInt + 2 + i)).toInt = (eA g289747 237 i).toInt) ∧ (∀ i : Int, 0 ≤ i → i < 110 → eA g_ 233 i = eA g289747 233 i)) ?_ (96 - 0) ⟨0, by first | rfl | omega, hI289784, hF289785, ((gI_sW).trans (gI_sI_eq hI289748.1 kx_231 rfl _)), (w_p1 (by decide) (Or.inr rfl) (w_p1 (by decide) (Or.inr rfl) e268328)), (w_p1 (by decide) (Or.inr rfl) (w_e1 _ _ _)), (w_e1 _ _ _), by decide, (Fr.wA (p := 233) (Fr.wI (p := 231) (b := 8) Fr.rf rfl) rfl), ((congrArg Int32.toInt (eA_sA_eq hI289775.1 ka_233 (by omega) (by omega) (by omega))).trans (by omega)), (fun i i0 i1 => absurd i1 (by omega)), (fun i i0 i1 => ((eA_sA_ne (i := i) hI289775.1 ka_233 (by omega) (by omega) (by omega)).trans (eA_c gA_sI)))⟩
            rintro n299782 l299781 g299778 ⟨x299777, hm299796, hI299779, hF299780, e299784, e299785, e299786, e299787, r299788, q299789, q299790, q299791, q299792⟩ ih299783
            have tv299797 := congrArg Int32.toInt e299784
            have x299798 := HI.eqI hI289748 (p := 231) (b := 15) (((hF289749.1 231 15 (by decide)).trans hv268354))
            have x299799 := HI.eqI hI289748 (p := 231) (b := 17) (((hF289749.1 231 17 (by decide)).trans hv268356))
            have t299800 := congrArg Int32.toInt ((q299792 2 (by decide) (by decide)).trans (((eA_c (hF289749.2.1 233 (by decide))).trans (eA_c (q268330.2.1 233 (by decide)))).trans hv214640))
            refine At.enter rfl ?_
            refine r_iload_n e299787 ?_
            refine r_bipush 8 rfl ?_
            refine r_aload_n e299785 ?_
            refine q_getI (Sh.int hI299779.1 kx_231 rfl) v268354 (((q299789.1 231 15 (by decide)).trans (hF289749.1 231 15 (by decide))).trans hv268354) ?_
            refine q_imul (8 * v268354.toInt) rfl (by omega) (fun v299801 hv299801 => ?_)
            have bv299803 := q_bnd x299777
            have bv299804 := q_bnd v299801
            refine r_ics 155 rfl (fun c299802 => ?_) (fun c299802 => ?_)
            · have c299802_ : x299777.toInt ≥ v299801.toInt := en_i_ge_t c299802
              refine At.enter rfl ?_
              refine r_iconst 0 rfl ?_
              refine r_istore_n _ rfl ?_
              refine Ar.fall 179 rfl ?_
              have z_300417 : (0 : Int32).toInt = 0 := rfl
              have x300418 := HI.eqI hI289748 (p := 231) (b := 15) (((hF289749.1 231 15 (by decide)).trans hv268354))
              have x300419 := HI.eqI hI289748 (p := 231) (b := 17) (((hF289749.1 231 17 (by decide)).trans hv268356))
              refine w_loopI (fun n_ l_ g_ => ∃ x300400 : Int32, n_ = 400 - x300400.toInt ∧ HI g_ ∧ Fr F_X11_law_231 A_X11_law_231 g0 g_ ∧ gI g_ 231 8 = 0 ∧ en_get 0 l_ = some (.ref 231) ∧ en_get 1 l_ = some (.int v289782) ∧ en_get 2 l_ = some (.int x300400) ∧ (0 ≤ x300400.toInt ∧ x300400.toInt ≤ 400) ∧ (Fr [(231, 8)] [233] g289747 g_) ∧ ((eA g_ 233 (v289782.toInt + 1)).toInt = (gI g289747 231 15).toInt) ∧ (∀ i : Int, 0 ≤ i → i < 8 * (gI g289747 231 15).toInt → (eA g_ 233 (v289782.toInt + 2 + i)).toInt = (eA g289747 237 i).toInt) ∧ (∀ i : Int, 0 ≤ i → i < 110 → eA g_ 233 i = eA g289747 233 i) ∧ (∀ i : Int, 0 ≤ i → i < x300400.toInt → (eA g_ 233 (v289782.toInt + 98 + 2 * i)).toInt = (eA g289747 238 i).toInt ∧ (eA g_ 233 (v289782.toInt + 98 + 2 * i + 1)).toInt = (eA g289747 239 i).toInt)) ?_ (400 - 0) ⟨0, by first | rfl | omega, hI299779, hF299780, e299784, (w_p1 (by decide) (Or.inr rfl) e299785), (w_p1 (by decide) (Or.inr rfl) e299786), (w_e1 _ _ _), by decide, (Fr.tr Fr.rf q299789 rfl rfl), ((congrArg Int32.toInt (rfl)).trans q299790), (fun i i0 i1 => q299791 i i0 (by omega)), (fun i i0 i1 => (rfl).trans (q299792 i i0 i1)), (fun i i0 i1 => absurd i1 (by omega))⟩
              rintro n300405 l300404 g300401 ⟨x300400, hm300420, hI300402, hF300403, e300407, e300408, e300409, e300410, r300411, q300412, q300413, q300414, q300415, q300416⟩ ih300406
              have tv300421 := congrArg Int32.toInt e300407
              have x300422 := HI.eqI hI289748 (p := 231) (b := 15) (((hF289749.1 231 15 (by decide)).trans hv268354))
              have x300423 := HI.eqI hI289748 (p := 231) (b := 17) (((hF289749.1 231 17 (by decide)).trans hv268356))
              have t300424 := congrArg Int32.toInt ((q300415 2 (by decide) (by decide)).trans (((eA_c (hF289749.2.1 233 (by decide))).trans (eA_c (q268330.2.1 233 (by decide)))).trans hv214640))
              refine At.enter rfl ?_
              refine r_iload_n e300410 ?_
              refine r_aload_n e300408 ?_
              refine q_getI (Sh.int hI300402.1 kx_231 rfl) v268356 (((q300412.1 231 17 (by decide)).trans (hF289749.1 231 17 (by decide))).trans hv268356) ?_
              have bv300426 := q_bnd x300400
              have bv300427 := q_bnd v268356
              refine r_ics 187 rfl (fun c300425 => ?_) (fun c300425 => ?_)
              · have c300425_ : x300400.toInt ≥ v268356.toInt := en_i_ge_t c300425
                refine At.enter rfl ?_
                refine r_aload_n e300408 ?_
                refine q_getR (Sh.ref hI300402.1 kx_231 rfl) ?_
                refine r_iconst 2 rfl ?_
                refine r_dup2 ⟨rfl, rfl⟩ ?_
                refine q_iald (Sh.arr hI300402.1 ka_233) 2 rfl (by decide) v214640 ((q300415 2 (by decide) (by decide)).trans (((eA_c (hF289749.2.1 233 (by decide))).trans (eA_c (q268330.2.1 233 (by decide)))).trans hv214640)) ?_
                refine r_iconst 1 rfl ?_
                refine q_iadd (v214640.toInt + 1) rfl (by omega) (fun v300428 hv300428 => ?_)
                refine q_iast (Sh.arr hI300402.1 ka_233) (2) rfl (by decide) ?_
                have x300431 := HI.eqA hI300402 (p := 233) (j := 2) (((q300415 2 (by decide) (by decide)).trans (((eA_c (hF289749.2.1 233 (by decide))).trans (eA_c (q268330.2.1 233 (by decide)))).trans hv214640)))
                have hI300429 := HI.wt2 hI300402 (v := v300428) (by omega) (by omega) (by rw [show 110 + 900 * (eA _ 233 2).toInt = v289782.toInt by omega]; exact LAW.mk (CLS.cong2 (q268336 (by omega)).2 hI289748 ((hF289749.2.1 238 (by decide))) ((hF289749.2.1 239 (by decide))) ((hF289749.2.1 237 (by decide))) ((hF289749.1 231 15 (by decide))) ((hF289749.1 231 17 (by decide)))) ⟨by omega, by omega⟩ (by omega) q300413 q300414 (fun i i0 i1 => q300416 i i0 (by omega)))
                have hF300430 := Fr.wA (p := 233) (j := 2) (v := v300428) hF300403 rfl
                refine r_aload_n e300408 ?_
                refine r_aload_n e300408 ?_
                refine q_getR (Sh.ref hI300429.1 kx_231 rfl) ?_
                refine r_iconst 2 rfl ?_
                refine q_iald (Sh.arr hI300429.1 ka_233) 2 rfl (by decide) v300428 (eA_sA_eq hI300402.1 ka_233 (by first | rfl | omega) (by first | decide | omega) (by first | decide | omega)) ?_
                refine r_iconst 1 rfl ?_
                refine q_isub (v300428.toInt - 1) rfl (by omega) (fun v300432 hv300432 => ?_)
                refine r_callV 255 rfl [.ref 231, .int v300432] [] (Nat.le_of_ble_eq_true rfl) rfl (T_X11_tell_231 _ hI300429 v300432 (by omega)) ?_
                rintro _ _ ⟨g300433, rfl, hI300434, hF300435, v300436, rfl, hr300437⟩
                refine At.sti ?_
                have hF300438 := Fr.tr hF300430 hF300435 rfl rfl
                refine At.enter rfl ?_
                refine r_ireti ?_
                have x300439 := HI.eqI hI300434 (p := 231) (b := 8) ((((hF300435.1 231 8 (by decide)).trans (gI_sW)).trans e300407))
                have zv300440 : (0 : Int32).toInt = 0 := rfl
                exact ⟨_, rfl, hI300434, hF300438, _, rfl, by omega, ⟨(fun i i0 i1 i2 => ((eA_c (hF300435.2.1 233 (by decide))).trans ((eA_sA_ne (i := i) hI300402.1 ka_233 (by omega) (by omega) (by omega)).trans ((q300415 i i0 i1).trans (eA_c (((hF289749.2.1 233 (by decide)).trans (q268330.2.1 233 (by decide))))))))), by omega⟩⟩
              · have c300425_ : x300400.toInt < v268356.toInt := en_i_ge_f c300425
                refine At.enter rfl ?_
                refine r_aload_n e300408 ?_
                refine q_getR (Sh.ref hI300402.1 kx_231 rfl) ?_
                refine r_iload_n e300409 ?_
                refine r_bipush 98 rfl ?_
                refine q_iadd (v289782.toInt + 98) rfl (by omega) (fun v300441 hv300441 => ?_)
                refine r_iconst 2 rfl ?_
                refine r_iload_n e300410 ?_
                refine q_imul (2 * x300400.toInt) rfl (by omega) (fun v300442 hv300442 => ?_)
                refine q_iadd (v300441.toInt + v300442.toInt) rfl (by omega) (fun v300443 hv300443 => ?_)
                refine r_aload_n e300408 ?_
                refine q_getR (Sh.ref hI300402.1 kx_231 rfl) ?_
                refine r_iload_n e300410 ?_
                obtain ⟨v300444, hv300444⟩ : ∃ v, eA g268321 238 x300400.toInt = v := ⟨_, rfl⟩
                refine q_iald (Sh.arr hI300402.1 ka_238) x300400.toInt rfl (by omega) v300444 ((eA_c ((q300412.2.1 238 (by decide)).trans (hF289749.2.1 238 (by decide)))).trans hv300444) ?_
                refine q_iast (Sh.arr hI300402.1 ka_233) ((900 * v214640.toInt + 2 * x300400.toInt + 208)) (by omega) (by omega) ?_
                have x300447 := HI.eqA hI300402 (p := 233) (j := 2) (((q300415 2 (by decide) (by decide)).trans (((eA_c (hF289749.2.1 233 (by decide))).trans (eA_c (q268330.2.1 233 (by decide)))).trans hv214640)))
                have hI300445 := HI.wfree hI300402 (j := (900 * v214640.toInt + 2 * x300400.toInt + 208)) (v := v300444) ⟨by omega, by omega⟩
                have hF300446 := Fr.wA (p := 233) (j := (900 * v214640.toInt + 2 * x300400.toInt + 208)) (v := v300444) hF300403 rfl
                refine r_aload_n e300408 ?_
                refine q_getR (Sh.ref hI300445.1 kx_231 rfl) ?_
                refine r_iload_n e300409 ?_
                refine r_bipush 98 rfl ?_
                refine q_iadd (v289782.toInt + 98) rfl (by omega) (fun v300448 hv300448 => ?_)
                refine r_iconst 2 rfl ?_
                refine r_iload_n e300410 ?_
                refine q_imul (2 * x300400.toInt) rfl (by omega) (fun v300449 hv300449 => ?_)
                refine q_iadd (v300448.toInt + v300449.toInt) rfl (by omega) (fun v300450 hv300450 => ?_)
                refine r_iconst 1 rfl ?_
                refine q_iadd (v300450.toInt + 1) rfl (by omega) (fun v300451 hv300451 => ?_)
                refine r_aload_n e300408 ?_
                refine q_getR (Sh.ref hI300445.1 kx_231 rfl) ?_
                refine r_iload_n e300410 ?_
                obtain ⟨v300452, hv300452⟩ : ∃ v, eA g268321 239 x300400.toInt = v := ⟨_, rfl⟩
                refine q_iald (Sh.arr hI300445.1 ka_239) x300400.toInt rfl (by omega) v300452 ((eA_c ((gA_sA_ne (by decide)).trans ((q300412.2.1 239 (by decide)).trans (hF289749.2.1 239 (by decide))))).trans hv300452) ?_
                refine q_iast (Sh.arr hI300445.1 ka_233) ((900 * v214640.toInt + 2 * x300400.toInt + 209)) (by omega) (by omega) ?_
                have x300455 := HI.eqA hI300445 (p := 233) (j := 2) (((eA_sA_ne hI300402.1 ka_233 (by first | decide | omega) (by first | decide | omega) (by first | decide | omega)).trans ((q300415 2 (by decide) (by decide)).trans (((eA_c (hF289749.2.1 233 (by decide))).trans (eA_c (q268330.2.1 233 (by decide)))).trans hv214640))))
                have hI300453 := HI.wfree hI300445 (j := (900 * v214640.toInt + 2 * x300400.toInt + 209)) (v := v300452) ⟨by omega, by omega⟩
                have hF300454 := Fr.wA (p := 233) (j := (900 * v214640.toInt + 2 * x300400.toInt + 209)) (v := v300452) hF300446 rfl
                refine q_iinc e300410 (x300400.toInt + 1) rfl (by omega) (fun v300456 hv300456 => ?_)
                refine r_goto ?_
                exact ih300406 (400 - v300456.toInt) _ _ ⟨v300456, by first | rfl | omega, hI300453, hF300454, (((gI_sW).trans (gI_sW)).trans e300407), (w_p1 (by decide) (Or.inr rfl) e300408), (w_p1 (by decide) (Or.inr rfl) e300409), (w_e1 _ _ _), by omega, (Fr.wA (p := 233) (Fr.wA (p := 233) q300412 rfl) rfl), ((congrArg Int32.toInt (((eA_sA_ne (i := v289782.toInt + 1) hI300445.1 ka_233 (by omega) (by omega) (by omega)).trans (eA_sA_ne (i := v289782.toInt + 1) hI300402.1 ka_233 (by omega) (by omega) (by omega))))).trans q300413), (fun i i0 i1 => (congrArg Int32.toInt (((eA_sA_ne (i := v289782.toInt + 2 + i) hI300445.1 ka_233 (by omega) (by omega) (by omega)).trans (eA_sA_ne (i := v289782.toInt + 2 + i) hI300402.1 ka_233 (by omega) (by omega) (by omega))))).trans (q300414 i i0 i1)), (fun i i0 i1 => (((eA_sA_ne (i := i) hI300445.1 ka_233 (by omega) (by omega) (by omega)).trans (eA_sA_ne (i := i) hI300402.1 ka_233 (by omega) (by omega) (by omega)))).trans (q300415 i i0 i1)), (fun i i0 i1 => (Decidable.em (i = x300400.toInt)).elim (fun e => by rw [e]; exact ⟨((congrArg Int32.toInt ((eA_sA_ne (i := v289782.toInt + 98 + 2 * x300400.toInt) hI300445.1 ka_233 (by omega) (by omega) (by omega)).trans (eA_sA_eq hI300402.1 ka_233 (by omega) (by omega) (by omega)))).trans (congrArg Int32.toInt ((eA_c ((hF289749.2.1 238 (by decide)))).trans hv300444)).symm), ((congrArg Int32.toInt (eA_sA_eq hI300445.1 ka_233 (by omega) (by omega) (by omega))).trans (congrArg Int32.toInt ((eA_c ((hF289749.2.1 239 (by decide)))).trans hv300452)).symm)⟩) (fun e => ⟨(congrArg Int32.toInt (((eA_sA_ne (i := v289782.toInt + 98 + 2 * i) hI300445.1 ka_233 (by omega) (by omega) (by omega)).trans (eA_sA_ne (i := v289782.toInt + 98 + 2 * i) hI300402.1 ka_233 (by omega) (by omega) (by omega))))).trans (q300416 i i0 (by omega)).1, (congrArg Int32.toInt (((eA_sA_ne (i := v289782.toInt + 98 + 2 * i + 1) hI300445.1 ka_233 (by omega) (by omega) (by omega)).trans (eA_sA_ne (i := v289782.toInt + 98 + 2 * i + 1) hI300402.1 ka_233 (by omega) (by omega) (by omega))))).trans (q300416 i i0 (by omega)).2⟩))⟩ ⟨by omega, by omega⟩
            · have c299802_ : x299777.toInt < v299801.toInt := en_i_ge_f c299802
              refine At.enter rfl ?_
              refine r_aload_n e299785 ?_
              refine q_getR (Sh.ref hI299779.1 kx_231 rfl) ?_
              refine r_iload_n e299786 ?_
              refine r_iconst 2 rfl ?_
              refine q_iadd (v289782.toInt + 2) rfl (by omega) (fun v300457 hv300457 => ?_)
              refine r_iload_n e299787 ?_
              refine q_iadd (v300457.toInt + x299777.toInt) rfl (by omega) (fun v300458 hv300458 => ?_)
              refine r_aload_n e299785 ?_
              refine q_getR (Sh.ref hI299779.1 kx_231 rfl) ?_
              refine r_iload_n e299787 ?_
              obtain ⟨v300459, hv300459⟩ : ∃ v, eA g268321 237 x299777.toInt = v := ⟨_, rfl⟩
              refine q_iald (Sh.arr hI299779.1 ka_237) x299777.toInt rfl (by omega) v300459 ((eA_c ((q299789.2.1 237 (by decide)).trans (hF289749.2.1 237 (by decide)))).trans hv300459) ?_
              refine q_iast (Sh.arr hI299779.1 ka_233) ((900 * v214640.toInt + x299777.toInt + 112)) (by omega) (by omega) ?_
              have x300462 := HI.eqA hI299779 (p := 233) (j := 2) (((q299792 2 (by decide) (by decide)).trans (((eA_c (hF289749.2.1 233 (by decide))).trans (eA_c (q268330.2.1 233 (by decide)))).trans hv214640)))
              have hI300460 := HI.wfree hI299779 (j := (900 * v214640.toInt + x299777.toInt + 112)) (v := v300459) ⟨by omega, by omega⟩
              have hF300461 := Fr.wA (p := 233) (j := (900 * v214640.toInt + x299777.toInt + 112)) (v := v300459) hF299780 rfl
              refine q_iinc e299787 (x299777.toInt + 1) rfl (by omega) (fun v300463 hv300463 => ?_)
              refine r_goto ?_
              exact ih299783 (96 - v300463.toInt) _ _ ⟨v300463, by first | rfl | omega, hI300460, hF300461, ((gI_sW).trans e299784), (w_p1 (by decide) (Or.inr rfl) e299785), (w_p1 (by decide) (Or.inr rfl) e299786), (w_e1 _ _ _), by omega, (Fr.wA (p := 233) q299789 rfl), ((congrArg Int32.toInt ((eA_sA_ne (i := v289782.toInt + 1) hI299779.1 ka_233 (by omega) (by omega) (by omega)))).trans q299790), (fun i i0 i1 => (Decidable.em (i = x299777.toInt)).elim (fun e => by rw [e]; exact (congrArg Int32.toInt (eA_sA_eq hI299779.1 ka_233 (by omega) (by omega) (by omega))).trans (congrArg Int32.toInt ((eA_c ((hF289749.2.1 237 (by decide)))).trans hv300459)).symm) (fun e => (congrArg Int32.toInt ((eA_sA_ne (i := v289782.toInt + 2 + i) hI299779.1 ka_233 (by omega) (by omega) (by omega)))).trans (q299791 i i0 (by omega)))), (fun i i0 i1 => ((eA_sA_ne (i := i) hI299779.1 ka_233 (by omega) (by omega) (by omega))).trans (q299792 i i0 i1))⟩ ⟨by omega, by omega⟩
          · have c289777_ : v289766.toInt ≠ 0 := en_k_eq_f c289777
            clear c289774
            refine At.enter rfl ?_
            refine r_aload_n e268328 ?_
            refine r_bipush (-6) rfl ?_
            refine r_callV 115 rfl [.ref 231, .int (-6)] [] (Nat.le_of_ble_eq_true rfl) rfl (T_X11_tell_231 _ hI289775 (-6) (by decide)) ?_
            rintro _ _ ⟨g300464, rfl, hI300465, hF300466, v300467, rfl, hr300468⟩
            refine At.sti ?_
            have hF300469 := Fr.tr hF289776 hF300466 rfl rfl
            have zv300470 : ((-6) : Int32).toInt = (-6) := rfl
            refine At.enter rfl ?_
            refine r_ireti ?_
            have x300471 := HI.eqI hI300465 (p := 231) (b := 8) (((hF300466.1 231 8 (by decide)).trans (gI_sI_eq hI289748.1 kx_231 rfl _)))
            have zv300472 : (0 : Int32).toInt = 0 := rfl
            exact ⟨_, rfl, hI300465, hF300469, _, rfl, by omega, ⟨(fun i i0 i1 i2 => eA_c (((hF300466.2.1 233 (by decide)).trans ((gA_sI).trans ((hF289749.2.1 233 (by decide)).trans (q268330.2.1 233 (by decide))))))), by omega⟩⟩
    · have c268358_ : v268352.toInt = 0 := en_k_ne_f c268358
      refine At.enter rfl ?_
      refine r_aload_n e268328 ?_
      refine r_bipush 59 rfl ?_
      have x300473 := HI.eqI hI268322 (p := 231) (b := 11) (hv268350)
      have zv300474 : (59 : Int32).toInt = 59 := rfl
      refine r_callV 64 rfl [.ref 231, .int 59] [] (Nat.le_of_ble_eq_true rfl) rfl (T_X11_isSign_231 _ hI268322 59 (by omega)) ?_
      rintro _ _ ⟨g300475, rfl, hI300476, hF300477, v300478, rfl, hr300479⟩
      refine At.sti ?_
      have hF300480 := Fr.tr hF268323 hF300477 rfl rfl
      have zv300481 : (59 : Int32).toInt = 59 := rfl
      have x300482 := HI.eqI hI268322 (p := 231) (b := 11) (hv268350)
      have x300483 := HI.eqI hI300476 (p := 231) (b := 11) (((hF300477.1 231 11 (by decide)).trans hv268350))
      refine At.enter rfl ?_
      refine r_ifs 67 rfl (fun c300484 => ?_) (fun c300484 => ?_)
      · have c300484_ : v300478.toInt = 0 := en_k_eq_t c300484
        refine At.enter rfl ?_
        refine r_aload_n e268328 ?_
        refine q_getI (Sh.int hI300476.1 kx_231 rfl) v268352 ((hF300477.1 231 14 (by decide)).trans hv268352) ?_
        refine r_ifs 85 rfl (fun c300485 => ?_) (fun c300485 => ?_)
        · have c300485_ : v268352.toInt ≠ 0 := en_k_ne_t c300485
          exfalso; omega
        · have c300485_ : v268352.toInt = 0 := en_k_ne_f c300485
          refine At.enter rfl ?_
          refine r_aload_n e268328 ?_
          refine q_getI (Sh.int hI300476.1 kx_231 rfl) v268350 ((hF300477.1 231 11 (by decide)).trans hv268350) ?_
          refine r_ifs 92 rfl (fun c300486 => ?_) (fun c300486 => ?_)
          · have c300486_ : v268350.toInt = 0 := en_k_eq_t c300486
            refine At.enter rfl ?_
            refine r_aload_n e268328 ?_
            refine r_iconst 0 rfl ?_
            refine q_putI (Sh.int hI300476.1 kx_231 rfl) rfl ?_
            have hI300487 := HI.wI1 hI300476 kx_231 rfl (p := 231) (b := 8) (v := 0) rfl (by decide)
            have hF300488 := Fr.wI (p := 231) (b := 8) (v := 0) hF300480 rfl
            refine r_aload_n e268328 ?_
            refine q_getI (Sh.int hI300487.1 kx_231 rfl) v268352 (((gI_sI_ne (by decide)).trans (hF300477.1 231 14 (by decide))).trans hv268352) ?_
            refine r_ifs 109 rfl (fun c300489 => ?_) (fun c300489 => ?_)
            · have c300489_ : v268352.toInt = 0 := en_k_eq_t c300489
              refine At.enter rfl ?_
              refine r_bipush 110 rfl ?_
              refine r_sipush 900 rfl ?_
              refine r_aload_n e268328 ?_
              refine q_getR (Sh.ref hI300487.1 kx_231 rfl) ?_
              refine r_iconst 2 rfl ?_
              refine q_iald (Sh.arr hI300487.1 ka_233) 2 rfl (by decide) v214640 ((eA_c ((gA_sI).trans ((hF300477.2.1 233 (by decide)).trans (q268330.2.1 233 (by decide))))).trans hv214640) ?_
              refine q_imul (900 * v214640.toInt) rfl (by omega) (fun v300490 hv300490 => ?_)
              refine q_iadd (110 + v300490.toInt) rfl (by omega) (fun v300491 hv300491 => ?_)
              refine r_istore_n _ rfl ?_
              refine r_aload_n (w_p1 (by decide) (Or.inr rfl) e268328) ?_
              refine q_getR (Sh.ref hI300487.1 kx_231 rfl) ?_
              refine r_iload_n (w_e1 _ _ _) ?_
              refine r_iconst 1 rfl ?_
              refine q_iadd (v300491.toInt + 1) rfl (by omega) (fun v300492 hv300492 => ?_)
              refine r_aload_n (w_p1 (by decide) (Or.inr rfl) e268328) ?_
              refine q_getI (Sh.int hI300487.1 kx_231 rfl) v268354 (((gI_sI_ne (by decide)).trans (hF300477.1 231 15 (by decide))).trans hv268354) ?_
              refine q_iast (Sh.arr hI300487.1 ka_233) ((900 * v214640.toInt + 111)) (by omega) (by omega) ?_
              have x300495 := HI.eqA hI300487 (p := 233) (j := 2) ((((eA_c gA_sI).trans ((eA_c (hF300477.2.1 233 (by decide))).trans (eA_c (q268330.2.1 233 (by decide))))).trans hv214640))
              have hI300493 := HI.wfree hI300487 (j := (900 * v214640.toInt + 111)) (v := v268354) ⟨by omega, by omega⟩
              have hF300494 := Fr.wA (p := 233) (j := (900 * v214640.toInt + 111)) (v := v268354) hF300488 rfl
              refine r_iconst 0 rfl ?_
              refine r_istore_n _ rfl ?_
              refine Ar.fall 144 rfl ?_
              have z_310502 : (0 : Int32).toInt = 0 := rfl
              have x310503 := HI.eqI hI300476 (p := 231) (b := 15) (((hF300477.1 231 15 (by decide)).trans hv268354))
              have x310504 := HI.eqI hI300476 (p := 231) (b := 17) (((hF300477.1 231 17 (by decide)).trans hv268356))
              refine w_loopI (fun n_ l_ g_ => ∃ x310486 : Int32, n_ = 96 - x310486.toInt ∧ HI g_ ∧ Fr F_X11_law_231 A_X11_law_231 g0 g_ ∧ gI g_ 231 8 = 0 ∧ en_get 0 l_ = some (.ref 231) ∧ en_get 1 l_ = some (.int v300491) ∧ en_get 2 l_ = some (.int x310486) ∧ (0 ≤ x310486.toInt ∧ x310486.toInt ≤ 96) ∧ (Fr [(231, 8)] [233] g300475 g_) ∧ ((eA g_ 233 (v300491.toInt + 1)).toInt = (gI g300475 231 15).toInt) ∧ (∀ i : Int, 0 ≤ i → i < x310486.toInt → (eA g_ 233 (v300491.toInt + 2 + i)).toInt = (eA g300475 237 i).toInt) ∧ (∀ i : Int, 0 ≤ i → i < 110 → eA g_ 233 i = eA g300475 233 i)) ?_ (96 - 0) ⟨0, by first | rfl | omega, hI300493, hF300494, ((gI_sW).trans (gI_sI_eq hI300476.1 kx_231 rfl _)), (w_p1 (by decide) (Or.inr rfl) (w_p1 (by decide) (Or.inr rfl) e268328)), (w_p1 (by decide) (Or.inr rfl) (w_e1 _ _ _)), (w_e1 _ _ _), by decide, (Fr.wA (p := 233) (Fr.wI (p := 231) (b := 8) Fr.rf rfl) rfl), ((congrArg Int32.toInt (eA_sA_eq hI300487.1 ka_233 (by omega) (by omega) (by omega))).trans (by omega)), (fun i i0 i1 => absurd i1 (by omega)), (fun i i0 i1 => ((eA_sA_ne (i := i) hI300487.1 ka_233 (by omega) (by omega) (by omega)).trans (eA_c gA_sI)))⟩
              rintro n310491 l310490 g310487 ⟨x310486, hm310505, hI310488, hF310489, e310493, e310494, e310495, e310496, r310497, q310498, q310499, q310500, q310501⟩ ih310492
              have tv310506 := congrArg Int32.toInt e310493
              have x310507 := HI.eqI hI300476 (p := 231) (b := 15) (((hF300477.1 231 15 (by decide)).trans hv268354))
              have x310508 := HI.eqI hI300476 (p := 231) (b := 17) (((hF300477.1 231 17 (by decide)).trans hv268356))
              have t310509 := congrArg Int32.toInt ((q310501 2 (by decide) (by decide)).trans (((eA_c (hF300477.2.1 233 (by decide))).trans (eA_c (q268330.2.1 233 (by decide)))).trans hv214640))
              refine At.enter rfl ?_
              refine r_iload_n e310496 ?_
              refine r_bipush 8 rfl ?_
              refine r_aload_n e310494 ?_
              refine q_getI (Sh.int hI310488.1 kx_231 rfl) v268354 (((q310498.1 231 15 (by decide)).trans (hF300477.1 231 15 (by decide))).trans hv268354) ?_
              refine q_imul (8 * v268354.toInt) rfl (by omega) (fun v310510 hv310510 => ?_)
              have bv310512 := q_bnd x310486
              have bv310513 := q_bnd v310510
              refine r_ics 155 rfl (fun c310511 => ?_) (fun c310511 => ?_)
              · have c310511_ : x310486.toInt ≥ v310510.toInt := en_i_ge_t c310511
                refine At.enter rfl ?_
                refine r_iconst 0 rfl ?_
                refine r_istore_n _ rfl ?_
                refine Ar.fall 179 rfl ?_
                have z_311126 : (0 : Int32).toInt = 0 := rfl
                have x311127 := HI.eqI hI300476 (p := 231) (b := 15) (((hF300477.1 231 15 (by decide)).trans hv268354))
                have x311128 := HI.eqI hI300476 (p := 231) (b := 17) (((hF300477.1 231 17 (by decide)).trans hv268356))
                refine w_loopI (fun n_ l_ g_ => ∃ x311109 : Int32, n_ = 400 - x311109.toInt ∧ HI g_ ∧ Fr F_X11_law_231 A_X11_law_231 g0 g_ ∧ gI g_ 231 8 = 0 ∧ en_get 0 l_ = some (.ref 231) ∧ en_get 1 l_ = some (.int v300491) ∧ en_get 2 l_ = some (.int x311109) ∧ (0 ≤ x311109.toInt ∧ x311109.toInt ≤ 400) ∧ (Fr [(231, 8)] [233] g300475 g_) ∧ ((eA g_ 233 (v300491.toInt + 1)).toInt = (gI g300475 231 15).toInt) ∧ (∀ i : Int, 0 ≤ i → i < 8 * (gI g300475 231 15).toInt → (eA g_ 233 (v300491.toInt + 2 + i)).toInt = (eA g300475 237 i).toInt) ∧ (∀ i : Int, 0 ≤ i → i < 110 → eA g_ 233 i = eA g300475 233 i) ∧ (∀ i : Int, 0 ≤ i → i < x311109.toInt → (eA g_ 233 (v300491.toInt + 98 + 2 * i)).toInt = (eA g300475 238 i).toInt ∧ (eA g_ 233 (v300491.toInt + 98 + 2 * i + 1)).toInt = (eA g300475 239 i).toInt)) ?_ (400 - 0) ⟨0, by first | rfl | omega, hI310488, hF310489, e310493, (w_p1 (by decide) (Or.inr rfl) e310494), (w_p1 (by decide) (Or.inr rfl) e310495), (w_e1 _ _ _), by decide, (Fr.tr Fr.rf q310498 rfl rfl), ((congrArg Int32.toInt (rfl)).trans q310499), (fun i i0 i1 => q310500 i i0 (by omega)), (fun i i0 i1 => (rfl).trans (q310501 i i0 i1)), (fun i i0 i1 => absurd i1 (by omega))⟩
                rintro n311114 l311113 g311110 ⟨x311109, hm311129, hI311111, hF311112, e311116, e311117, e311118, e311119, r311120, q311121, q311122, q311123, q311124, q311125⟩ ih311115
                have tv311130 := congrArg Int32.toInt e311116
                have x311131 := HI.eqI hI300476 (p := 231) (b := 15) (((hF300477.1 231 15 (by decide)).trans hv268354))
                have x311132 := HI.eqI hI300476 (p := 231) (b := 17) (((hF300477.1 231 17 (by decide)).trans hv268356))
                have t311133 := congrArg Int32.toInt ((q311124 2 (by decide) (by decide)).trans (((eA_c (hF300477.2.1 233 (by decide))).trans (eA_c (q268330.2.1 233 (by decide)))).trans hv214640))
                refine At.enter rfl ?_
                refine r_iload_n e311119 ?_
                refine r_aload_n e311117 ?_
                refine q_getI (Sh.int hI311111.1 kx_231 rfl) v268356 (((q311121.1 231 17 (by decide)).trans (hF300477.1 231 17 (by decide))).trans hv268356) ?_
                have bv311135 := q_bnd x311109
                have bv311136 := q_bnd v268356
                refine r_ics 187 rfl (fun c311134 => ?_) (fun c311134 => ?_)
                · have c311134_ : x311109.toInt ≥ v268356.toInt := en_i_ge_t c311134
                  refine At.enter rfl ?_
                  refine r_aload_n e311117 ?_
                  refine q_getR (Sh.ref hI311111.1 kx_231 rfl) ?_
                  refine r_iconst 2 rfl ?_
                  refine r_dup2 ⟨rfl, rfl⟩ ?_
                  refine q_iald (Sh.arr hI311111.1 ka_233) 2 rfl (by decide) v214640 ((q311124 2 (by decide) (by decide)).trans (((eA_c (hF300477.2.1 233 (by decide))).trans (eA_c (q268330.2.1 233 (by decide)))).trans hv214640)) ?_
                  refine r_iconst 1 rfl ?_
                  refine q_iadd (v214640.toInt + 1) rfl (by omega) (fun v311137 hv311137 => ?_)
                  refine q_iast (Sh.arr hI311111.1 ka_233) (2) rfl (by decide) ?_
                  have x311140 := HI.eqA hI311111 (p := 233) (j := 2) (((q311124 2 (by decide) (by decide)).trans (((eA_c (hF300477.2.1 233 (by decide))).trans (eA_c (q268330.2.1 233 (by decide)))).trans hv214640)))
                  have hI311138 := HI.wt2 hI311111 (v := v311137) (by omega) (by omega) (by rw [show 110 + 900 * (eA _ 233 2).toInt = v300491.toInt by omega]; exact LAW.mk (CLS.cong2 (q268336 (by omega)).2 hI300476 ((hF300477.2.1 238 (by decide))) ((hF300477.2.1 239 (by decide))) ((hF300477.2.1 237 (by decide))) ((hF300477.1 231 15 (by decide))) ((hF300477.1 231 17 (by decide)))) ⟨by omega, by omega⟩ (by omega) q311122 q311123 (fun i i0 i1 => q311125 i i0 (by omega)))
                  have hF311139 := Fr.wA (p := 233) (j := 2) (v := v311137) hF311112 rfl
                  refine r_aload_n e311117 ?_
                  refine r_aload_n e311117 ?_
                  refine q_getR (Sh.ref hI311138.1 kx_231 rfl) ?_
                  refine r_iconst 2 rfl ?_
                  refine q_iald (Sh.arr hI311138.1 ka_233) 2 rfl (by decide) v311137 (eA_sA_eq hI311111.1 ka_233 (by first | rfl | omega) (by first | decide | omega) (by first | decide | omega)) ?_
                  refine r_iconst 1 rfl ?_
                  refine q_isub (v311137.toInt - 1) rfl (by omega) (fun v311141 hv311141 => ?_)
                  refine r_callV 255 rfl [.ref 231, .int v311141] [] (Nat.le_of_ble_eq_true rfl) rfl (T_X11_tell_231 _ hI311138 v311141 (by omega)) ?_
                  rintro _ _ ⟨g311142, rfl, hI311143, hF311144, v311145, rfl, hr311146⟩
                  refine At.sti ?_
                  have hF311147 := Fr.tr hF311139 hF311144 rfl rfl
                  refine At.enter rfl ?_
                  refine r_ireti ?_
                  have x311148 := HI.eqI hI311143 (p := 231) (b := 8) ((((hF311144.1 231 8 (by decide)).trans (gI_sW)).trans e311116))
                  have zv311149 : (0 : Int32).toInt = 0 := rfl
                  exact ⟨_, rfl, hI311143, hF311147, _, rfl, by omega, ⟨(fun i i0 i1 i2 => ((eA_c (hF311144.2.1 233 (by decide))).trans ((eA_sA_ne (i := i) hI311111.1 ka_233 (by omega) (by omega) (by omega)).trans ((q311124 i i0 i1).trans (eA_c (((hF300477.2.1 233 (by decide)).trans (q268330.2.1 233 (by decide))))))))), by omega⟩⟩
                · have c311134_ : x311109.toInt < v268356.toInt := en_i_ge_f c311134
                  refine At.enter rfl ?_
                  refine r_aload_n e311117 ?_
                  refine q_getR (Sh.ref hI311111.1 kx_231 rfl) ?_
                  refine r_iload_n e311118 ?_
                  refine r_bipush 98 rfl ?_
                  refine q_iadd (v300491.toInt + 98) rfl (by omega) (fun v311150 hv311150 => ?_)
                  refine r_iconst 2 rfl ?_
                  refine r_iload_n e311119 ?_
                  refine q_imul (2 * x311109.toInt) rfl (by omega) (fun v311151 hv311151 => ?_)
                  refine q_iadd (v311150.toInt + v311151.toInt) rfl (by omega) (fun v311152 hv311152 => ?_)
                  refine r_aload_n e311117 ?_
                  refine q_getR (Sh.ref hI311111.1 kx_231 rfl) ?_
                  refine r_iload_n e311119 ?_
                  obtain ⟨v311153, hv311153⟩ : ∃ v, eA g268321 238 x311109.toInt = v := ⟨_, rfl⟩
                  refine q_iald (Sh.arr hI311111.1 ka_238) x311109.toInt rfl (by omega) v311153 ((eA_c ((q311121.2.1 238 (by decide)).trans (hF300477.2.1 238 (by decide)))).trans hv311153) ?_
                  refine q_iast (Sh.arr hI311111.1 ka_233) ((900 * v214640.toInt + 2 * x311109.toInt + 208)) (by omega) (by omega) ?_
                  have x311156 := HI.eqA hI311111 (p := 233) (j := 2) (((q311124 2 (by decide) (by decide)).trans (((eA_c (hF300477.2.1 233 (by decide))).trans (eA_c (q268330.2.1 233 (by decide)))).trans hv214640)))
                  have hI311154 := HI.wfree hI311111 (j := (900 * v214640.toInt + 2 * x311109.toInt + 208)) (v := v311153) ⟨by omega, by omega⟩
                  have hF311155 := Fr.wA (p := 233) (j := (900 * v214640.toInt + 2 * x311109.toInt + 208)) (v := v311153) hF311112 rfl
                  refine r_aload_n e311117 ?_
                  refine q_getR (Sh.ref hI311154.1 kx_231 rfl) ?_
                  refine r_iload_n e311118 ?_
                  refine r_bipush 98 rfl ?_
                  refine q_iadd (v300491.toInt + 98) rfl (by omega) (fun v311157 hv311157 => ?_)
                  refine r_iconst 2 rfl ?_
                  refine r_iload_n e311119 ?_
                  refine q_imul (2 * x311109.toInt) rfl (by omega) (fun v311158 hv311158 => ?_)
                  refine q_iadd (v311157.toInt + v311158.toInt) rfl (by omega) (fun v311159 hv311159 => ?_)
                  refine r_iconst 1 rfl ?_
                  refine q_iadd (v311159.toInt + 1) rfl (by omega) (fun v311160 hv311160 => ?_)
                  refine r_aload_n e311117 ?_
                  refine q_getR (Sh.ref hI311154.1 kx_231 rfl) ?_
                  refine r_iload_n e311119 ?_
                  obtain ⟨v311161, hv311161⟩ : ∃ v, eA g268321 239 x311109.toInt = v := ⟨_, rfl⟩
                  refine q_iald (Sh.arr hI311154.1 ka_239) x311109.toInt rfl (by omega) v311161 ((eA_c ((gA_sA_ne (by decide)).trans ((q311121.2.1 239 (by decide)).trans (hF300477.2.1 239 (by decide))))).trans hv311161) ?_
                  refine q_iast (Sh.arr hI311154.1 ka_233) ((900 * v214640.toInt + 2 * x311109.toInt + 209)) (by omega) (by omega) ?_
                  have x311164 := HI.eqA hI311154 (p := 233) (j := 2) (((eA_sA_ne hI311111.1 ka_233 (by first | decide | omega) (by first | decide | omega) (by first | decide | omega)).trans ((q311124 2 (by decide) (by decide)).trans (((eA_c (hF300477.2.1 233 (by decide))).trans (eA_c (q268330.2.1 233 (by decide)))).trans hv214640))))
                  have hI311162 := HI.wfree hI311154 (j := (900 * v214640.toInt + 2 * x311109.toInt + 209)) (v := v311161) ⟨by omega, by omega⟩
                  have hF311163 := Fr.wA (p := 233) (j := (900 * v214640.toInt + 2 * x311109.toInt + 209)) (v := v311161) hF311155 rfl
                  refine q_iinc e311119 (x311109.toInt + 1) rfl (by omega) (fun v311165 hv311165 => ?_)
                  refine r_goto ?_
                  exact ih311115 (400 - v311165.toInt) _ _ ⟨v311165, by first | rfl | omega, hI311162, hF311163, (((gI_sW).trans (gI_sW)).trans e311116), (w_p1 (by decide) (Or.inr rfl) e311117), (w_p1 (by decide) (Or.inr rfl) e311118), (w_e1 _ _ _), by omega, (Fr.wA (p := 233) (Fr.wA (p := 233) q311121 rfl) rfl), ((congrArg Int32.toInt (((eA_sA_ne (i := v300491.toInt + 1) hI311154.1 ka_233 (by omega) (by omega) (by omega)).trans (eA_sA_ne (i := v300491.toInt + 1) hI311111.1 ka_233 (by omega) (by omega) (by omega))))).trans q311122), (fun i i0 i1 => (congrArg Int32.toInt (((eA_sA_ne (i := v300491.toInt + 2 + i) hI311154.1 ka_233 (by omega) (by omega) (by omega)).trans (eA_sA_ne (i := v300491.toInt + 2 + i) hI311111.1 ka_233 (by omega) (by omega) (by omega))))).trans (q311123 i i0 i1)), (fun i i0 i1 => (((eA_sA_ne (i := i) hI311154.1 ka_233 (by omega) (by omega) (by omega)).trans (eA_sA_ne (i := i) hI311111.1 ka_233 (by omega) (by omega) (by omega)))).trans (q311124 i i0 i1)), (fun i i0 i1 => (Decidable.em (i = x311109.toInt)).elim (fun e => by rw [e]; exact ⟨((congrArg Int32.toInt ((eA_sA_ne (i := v300491.toInt + 98 + 2 * x311109.toInt) hI311154.1 ka_233 (by omega) (by omega) (by omega)).trans (eA_sA_eq hI311111.1 ka_233 (by omega) (by omega) (by omega)))).trans (congrArg Int32.toInt ((eA_c ((hF300477.2.1 238 (by decide)))).trans hv311153)).symm), ((congrArg Int32.toInt (eA_sA_eq hI311154.1 ka_233 (by omega) (by omega) (by omega))).trans (congrArg Int32.toInt ((eA_c ((hF300477.2.1 239 (by decide)))).trans hv311161)).symm)⟩) (fun e => ⟨(congrArg Int32.toInt (((eA_sA_ne (i := v300491.toInt + 98 + 2 * i) hI311154.1 ka_233 (by omega) (by omega) (by omega)).trans (eA_sA_ne (i := v300491.toInt + 98 + 2 * i) hI311111.1 ka_233 (by omega) (by omega) (by omega))))).trans (q311125 i i0 (by omega)).1, (congrArg Int32.toInt (((eA_sA_ne (i := v300491.toInt + 98 + 2 * i + 1) hI311154.1 ka_233 (by omega) (by omega) (by omega)).trans (eA_sA_ne (i := v300491.toInt + 98 + 2 * i + 1) hI311111.1 ka_233 (by omega) (by omega) (by omega))))).trans (q311125 i i0 (by omega)).2⟩))⟩ ⟨by omega, by omega⟩
              · have c310511_ : x310486.toInt < v310510.toInt := en_i_ge_f c310511
                refine At.enter rfl ?_
                refine r_aload_n e310494 ?_
                refine q_getR (Sh.ref hI310488.1 kx_231 rfl) ?_
                refine r_iload_n e310495 ?_
                refine r_iconst 2 rfl ?_
                refine q_iadd (v300491.toInt + 2) rfl (by omega) (fun v311166 hv311166 => ?_)
                refine r_iload_n e310496 ?_
                refine q_iadd (v311166.toInt + x310486.toInt) rfl (by omega) (fun v311167 hv311167 => ?_)
                refine r_aload_n e310494 ?_
                refine q_getR (Sh.ref hI310488.1 kx_231 rfl) ?_
                refine r_iload_n e310496 ?_
                obtain ⟨v311168, hv311168⟩ : ∃ v, eA g268321 237 x310486.toInt = v := ⟨_, rfl⟩
                refine q_iald (Sh.arr hI310488.1 ka_237) x310486.toInt rfl (by omega) v311168 ((eA_c ((q310498.2.1 237 (by decide)).trans (hF300477.2.1 237 (by decide)))).trans hv311168) ?_
                refine q_iast (Sh.arr hI310488.1 ka_233) ((900 * v214640.toInt + x310486.toInt + 112)) (by omega) (by omega) ?_
                have x311171 := HI.eqA hI310488 (p := 233) (j := 2) (((q310501 2 (by decide) (by decide)).trans (((eA_c (hF300477.2.1 233 (by decide))).trans (eA_c (q268330.2.1 233 (by decide)))).trans hv214640)))
                have hI311169 := HI.wfree hI310488 (j := (900 * v214640.toInt + x310486.toInt + 112)) (v := v311168) ⟨by omega, by omega⟩
                have hF311170 := Fr.wA (p := 233) (j := (900 * v214640.toInt + x310486.toInt + 112)) (v := v311168) hF310489 rfl
                refine q_iinc e310496 (x310486.toInt + 1) rfl (by omega) (fun v311172 hv311172 => ?_)
                refine r_goto ?_
                exact ih310492 (96 - v311172.toInt) _ _ ⟨v311172, by first | rfl | omega, hI311169, hF311170, ((gI_sW).trans e310493), (w_p1 (by decide) (Or.inr rfl) e310494), (w_p1 (by decide) (Or.inr rfl) e310495), (w_e1 _ _ _), by omega, (Fr.wA (p := 233) q310498 rfl), ((congrArg Int32.toInt ((eA_sA_ne (i := v300491.toInt + 1) hI310488.1 ka_233 (by omega) (by omega) (by omega)))).trans q310499), (fun i i0 i1 => (Decidable.em (i = x310486.toInt)).elim (fun e => by rw [e]; exact (congrArg Int32.toInt (eA_sA_eq hI310488.1 ka_233 (by omega) (by omega) (by omega))).trans (congrArg Int32.toInt ((eA_c ((hF300477.2.1 237 (by decide)))).trans hv311168)).symm) (fun e => (congrArg Int32.toInt ((eA_sA_ne (i := v300491.toInt + 2 + i) hI310488.1 ka_233 (by omega) (by omega) (by omega)))).trans (q310500 i i0 (by omega)))), (fun i i0 i1 => ((eA_sA_ne (i := i) hI310488.1 ka_233 (by omega) (by omega) (by omega))).trans (q310501 i i0 i1))⟩ ⟨by omega, by omega⟩
            · have c300489_ : v268352.toInt ≠ 0 := en_k_eq_f c300489
              exfalso; omega
          · have c300486_ : v268350.toInt ≠ 0 := en_k_eq_f c300486
            refine At.enter rfl ?_
            refine r_aload_n e268328 ?_
            refine r_iconst 0 rfl ?_
            have x311173 := HI.eqI hI300476 (p := 231) (b := 8) ((((hF300477.1 231 8 (by decide)).trans (q268330.1 231 8 (by decide))).trans hv1))
            have x311174 := HI.eqI hI300476 (p := 231) (b := 9) (((hF300477.1 231 9 (by decide)).trans e268327))
            have x311175 := HI.eqI hI300476 (p := 231) (b := 10) (((hF300477.1 231 10 (by decide)).trans hv268348))
            have x311176 := HI.eqI hI300476 (p := 231) (b := 11) (((hF300477.1 231 11 (by decide)).trans hv268350))
            have w26311177 := W26.cong q268335 hI300476 ((hF300477.1 231 9 (by decide))) ((hF300477.1 231 10 (by decide))) ((hF300477.1 231 11 (by decide))) ((hF300477.2.2 231 12 (by decide)))
            have zv311178 : (0 : Int32).toInt = 0 := rfl
            refine r_callV 97 rfl [.ref 231, .int 0] [] (Nat.le_of_ble_eq_true rfl) rfl (T_X11_must_231 _ hI300476 0 (by decide) (by refine ⟨?_, ?_, ?_, ?_⟩ <;> omega) w26311177) ?_
            rintro _ _ ⟨g311179, rfl, hI311180, hF311181, rfl, hr311183⟩
            refine At.stn ?_
            have hF311184 := Fr.tr hF300480 hF311181 rfl rfl
            have zv311185 : (0 : Int32).toInt = 0 := rfl
            have x311186 := HI.eqI hI300476 (p := 231) (b := 8) ((((hF300477.1 231 8 (by decide)).trans (q268330.1 231 8 (by decide))).trans hv1))
            have x311187 := HI.eqI hI300476 (p := 231) (b := 9) (((hF300477.1 231 9 (by decide)).trans e268327))
            have x311188 := HI.eqI hI300476 (p := 231) (b := 10) (((hF300477.1 231 10 (by decide)).trans hv268348))
            have x311189 := HI.eqI hI300476 (p := 231) (b := 11) (((hF300477.1 231 11 (by decide)).trans hv268350))
            have x311190 := HI.eqI hI300476 (p := 231) (b := 14) (((hF300477.1 231 14 (by decide)).trans hv268352))
            have x311191 := HI.eqI hI311180 (p := 231) (b := 8) ((((hF311181.1 231 8 (by decide)).trans ((hF300477.1 231 8 (by decide)).trans (q268330.1 231 8 (by decide)))).trans hv1))
            obtain ⟨v311192, hv311192⟩ : ∃ v, gI g311179 231 9 = v := ⟨_, rfl⟩
            have rv311192 := RgF.at hI311180.2.1 (p := 231) (b := 9) rfl
            rw [hv311192] at rv311192
            dsimp only at rv311192
            have tv311192 := congrArg Int32.toInt hv311192
            have x311193 := HI.eqI hI311180 (p := 231) (b := 9) (hv311192)
            obtain ⟨v311194, hv311194⟩ : ∃ v, gI g311179 231 10 = v := ⟨_, rfl⟩
            have rv311194 := RgF.at hI311180.2.1 (p := 231) (b := 10) rfl
            rw [hv311194] at rv311194
            dsimp only at rv311194
            have tv311194 := congrArg Int32.toInt hv311194
            have x311195 := HI.eqI hI311180 (p := 231) (b := 10) (hv311194)
            obtain ⟨v311196, hv311196⟩ : ∃ v, gI g311179 231 11 = v := ⟨_, rfl⟩
            have tv311196 := congrArg Int32.toInt hv311196
            have x311197 := HI.eqI hI311180 (p := 231) (b := 11) (hv311196)
            obtain ⟨v311198, hv311198⟩ : ∃ v, gI g311179 231 14 = v := ⟨_, rfl⟩
            have tv311198 := congrArg Int32.toInt hv311198
            have x311199 := HI.eqI hI311180 (p := 231) (b := 14) (hv311198)
            obtain ⟨c311200, c311201, c311202, c311203, c311204, c311205, c311206⟩ := hr311183
            refine At.enter rfl ?_
            refine r_aload_n e268328 ?_
            refine r_iconst 0 rfl ?_
            refine q_putI (Sh.int hI311180.1 kx_231 rfl) rfl ?_
            have hI311207 := HI.wI1 hI311180 kx_231 rfl (p := 231) (b := 8) (v := 0) rfl (by decide)
            have hF311208 := Fr.wI (p := 231) (b := 8) (v := 0) hF311184 rfl
            refine r_aload_n e268328 ?_
            refine q_getI (Sh.int hI311207.1 kx_231 rfl) v311198 ((gI_sI_ne (by decide)).trans hv311198) ?_
            refine r_ifs 109 rfl (fun c311209 => ?_) (fun c311209 => ?_)
            · have c311209_ : v311198.toInt = 0 := en_k_eq_t c311209
              obtain ⟨i311210, i311211, i311212⟩ := c311206 (by omega)
              refine At.enter rfl ?_
              refine r_bipush 110 rfl ?_
              refine r_sipush 900 rfl ?_
              refine r_aload_n e268328 ?_
              refine q_getR (Sh.ref hI311207.1 kx_231 rfl) ?_
              refine r_iconst 2 rfl ?_
              refine q_iald (Sh.arr hI311207.1 ka_233) 2 rfl (by decide) v214640 ((eA_c ((gA_sI).trans ((hF311181.2.1 233 (by decide)).trans ((hF300477.2.1 233 (by decide)).trans (q268330.2.1 233 (by decide)))))).trans hv214640) ?_
              refine q_imul (900 * v214640.toInt) rfl (by omega) (fun v311213 hv311213 => ?_)
              refine q_iadd (110 + v311213.toInt) rfl (by omega) (fun v311214 hv311214 => ?_)
              refine r_istore_n _ rfl ?_
              refine r_aload_n (w_p1 (by decide) (Or.inr rfl) e268328) ?_
              refine q_getR (Sh.ref hI311207.1 kx_231 rfl) ?_
              refine r_iload_n (w_e1 _ _ _) ?_
              refine r_iconst 1 rfl ?_
              refine q_iadd (v311214.toInt + 1) rfl (by omega) (fun v311215 hv311215 => ?_)
              refine r_aload_n (w_p1 (by decide) (Or.inr rfl) e268328) ?_
              refine q_getI (Sh.int hI311207.1 kx_231 rfl) v268354 (((gI_sI_ne (by decide)).trans ((hF311181.1 231 15 (by decide)).trans (hF300477.1 231 15 (by decide)))).trans hv268354) ?_
              refine q_iast (Sh.arr hI311207.1 ka_233) ((900 * v214640.toInt + 111)) (by omega) (by omega) ?_
              have x311218 := HI.eqA hI311207 (p := 233) (j := 2) ((((eA_c gA_sI).trans ((eA_c (hF311181.2.1 233 (by decide))).trans ((eA_c (hF300477.2.1 233 (by decide))).trans (eA_c (q268330.2.1 233 (by decide)))))).trans hv214640))
              have hI311216 := HI.wfree hI311207 (j := (900 * v214640.toInt + 111)) (v := v268354) ⟨by omega, by omega⟩
              have hF311217 := Fr.wA (p := 233) (j := (900 * v214640.toInt + 111)) (v := v268354) hF311208 rfl
              refine r_iconst 0 rfl ?_
              refine r_istore_n _ rfl ?_
              refine Ar.fall 144 rfl ?_
              have z_321225 : (0 : Int32).toInt = 0 := rfl
              have x321226 := HI.eqI hI311180 (p := 231) (b := 15) ((((hF311181.1 231 15 (by decide)).trans (hF300477.1 231 15 (by decide))).trans hv268354))
              have x321227 := HI.eqI hI311180 (p := 231) (b := 17) ((((hF311181.1 231 17 (by decide)).trans (hF300477.1 231 17 (by decide))).trans hv268356))
              refine w_loopI (fun n_ l_ g_ => ∃ x321209 : Int32, n_ = 96 - x321209.toInt ∧ HI g_ ∧ Fr F_X11_law_231 A_X11_law_231 g0 g_ ∧ gI g_ 231 8 = 0 ∧ en_get 0 l_ = some (.ref 231) ∧ en_get 1 l_ = some (.int v311214) ∧ en_get 2 l_ = some (.int x321209) ∧ (0 ≤ x321209.toInt ∧ x321209.toInt ≤ 96) ∧ (Fr [(231, 8)] [233] g311179 g_) ∧ ((eA g_ 233 (v311214.toInt + 1)).toInt = (gI g311179 231 15).toInt) ∧ (∀ i : Int, 0 ≤ i → i < x321209.toInt → (eA g_ 233 (v311214.toInt + 2 + i)).toInt = (eA g311179 237 i).toInt) ∧ (∀ i : Int, 0 ≤ i → i < 110 → eA g_ 233 i = eA g311179 233 i)) ?_ (96 - 0) ⟨0, by first | rfl | omega, hI311216, hF311217, ((gI_sW).trans (gI_sI_eq hI311180.1 kx_231 rfl _)), (w_p1 (by decide) (Or.inr rfl) (w_p1 (by decide) (Or.inr rfl) e268328)), (w_p1 (by decide) (Or.inr rfl) (w_e1 _ _ _)), (w_e1 _ _ _), by decide, (Fr.wA (p := 233) (Fr.wI (p := 231) (b := 8) Fr.rf rfl) rfl), ((congrArg Int32.toInt (eA_sA_eq hI311207.1 ka_233 (by omega) (by omega) (by omega))).trans (by omega)), (fun i i0 i1 => absurd i1 (by omega)), (fun i i0 i1 => ((eA_sA_ne (i := i) hI311207.1 ka_233 (by omega) (by omega) (by omega)).trans (eA_c gA_sI)))⟩
              rintro n321214 l321213 g321210 ⟨x321209, hm321228, hI321211, hF321212, e321216, e321217, e321218, e321219, r321220, q321221, q321222, q321223, q321224⟩ ih321215
              have tv321229 := congrArg Int32.toInt e321216
              have x321230 := HI.eqI hI311180 (p := 231) (b := 15) ((((hF311181.1 231 15 (by decide)).trans (hF300477.1 231 15 (by decide))).trans hv268354))
              have x321231 := HI.eqI hI311180 (p := 231) (b := 17) ((((hF311181.1 231 17 (by decide)).trans (hF300477.1 231 17 (by decide))).trans hv268356))
              have t321232 := congrArg Int32.toInt ((q321224 2 (by decide) (by decide)).trans (((eA_c (hF311181.2.1 233 (by decide))).trans ((eA_c (hF300477.2.1 233 (by decide))).trans (eA_c (q268330.2.1 233 (by decide))))).trans hv214640))
              refine At.enter rfl ?_
              refine r_iload_n e321219 ?_
              refine r_bipush 8 rfl ?_
              refine r_aload_n e321217 ?_
              refine q_getI (Sh.int hI321211.1 kx_231 rfl) v268354 (((q321221.1 231 15 (by decide)).trans ((hF311181.1 231 15 (by decide)).trans (hF300477.1 231 15 (by decide)))).trans hv268354) ?_
              refine q_imul (8 * v268354.toInt) rfl (by omega) (fun v321233 hv321233 => ?_)
              have bv321235 := q_bnd x321209
              have bv321236 := q_bnd v321233
              refine r_ics 155 rfl (fun c321234 => ?_) (fun c321234 => ?_)
              · have c321234_ : x321209.toInt ≥ v321233.toInt := en_i_ge_t c321234
                refine At.enter rfl ?_
                refine r_iconst 0 rfl ?_
                refine r_istore_n _ rfl ?_
                refine Ar.fall 179 rfl ?_
                have z_321849 : (0 : Int32).toInt = 0 := rfl
                have x321850 := HI.eqI hI311180 (p := 231) (b := 15) ((((hF311181.1 231 15 (by decide)).trans (hF300477.1 231 15 (by decide))).trans hv268354))
                have x321851 := HI.eqI hI311180 (p := 231) (b := 17) ((((hF311181.1 231 17 (by decide)).trans (hF300477.1 231 17 (by decide))).trans hv268356))
                refine w_loopI (fun n_ l_ g_ => ∃ x321832 : Int32, n_ = 400 - x321832.toInt ∧ HI g_ ∧ Fr F_X11_law_231 A_X11_law_231 g0 g_ ∧ gI g_ 231 8 = 0 ∧ en_get 0 l_ = some (.ref 231) ∧ en_get 1 l_ = some (.int v311214) ∧ en_get 2 l_ = some (.int x321832) ∧ (0 ≤ x321832.toInt ∧ x321832.toInt ≤ 400) ∧ (Fr [(231, 8)] [233] g311179 g_) ∧ ((eA g_ 233 (v311214.toInt + 1)).toInt = (gI g311179 231 15).toInt) ∧ (∀ i : Int, 0 ≤ i → i < 8 * (gI g311179 231 15).toInt → (eA g_ 233 (v311214.toInt + 2 + i)).toInt = (eA g311179 237 i).toInt) ∧ (∀ i : Int, 0 ≤ i → i < 110 → eA g_ 233 i = eA g311179 233 i) ∧ (∀ i : Int, 0 ≤ i → i < x321832.toInt → (eA g_ 233 (v311214.toInt + 98 + 2 * i)).toInt = (eA g311179 238 i).toInt ∧ (eA g_ 233 (v311214.toInt + 98 + 2 * i + 1)).toInt = (eA g311179 239 i).toInt)) ?_ (400 - 0) ⟨0, by first | rfl | omega, hI321211, hF321212, e321216, (w_p1 (by decide) (Or.inr rfl) e321217), (w_p1 (by decide) (Or.inr rfl) e321218), (w_e1 _ _ _), by decide, (Fr.tr Fr.rf q321221 rfl rfl), ((congrArg Int32.toInt (rfl)).trans q321222), (fun i i0 i1 => q321223 i i0 (by omega)), (fun i i0 i1 => (rfl).trans (q321224 i i0 i1)), (fun i i0 i1 => absurd i1 (by omega))⟩
                rintro n321837 l321836 g321833 ⟨x321832, hm321852, hI321834, hF321835, e321839, e321840, e321841, e321842, r321843, q321844, q321845, q321846, q321847, q321848⟩ ih321838
                have tv321853 := congrArg Int32.toInt e321839
                have x321854 := HI.eqI hI311180 (p := 231) (b := 15) ((((hF311181.1 231 15 (by decide)).trans (hF300477.1 231 15 (by decide))).trans hv268354))
                have x321855 := HI.eqI hI311180 (p := 231) (b := 17) ((((hF311181.1 231 17 (by decide)).trans (hF300477.1 231 17 (by decide))).trans hv268356))
                have t321856 := congrArg Int32.toInt ((q321847 2 (by decide) (by decide)).trans (((eA_c (hF311181.2.1 233 (by decide))).trans ((eA_c (hF300477.2.1 233 (by decide))).trans (eA_c (q268330.2.1 233 (by decide))))).trans hv214640))
                refine At.enter rfl ?_
                refine r_iload_n e321842 ?_
                refine r_aload_n e321840 ?_
                refine q_getI (Sh.int hI321834.1 kx_231 rfl) v268356 (((q321844.1 231 17 (by decide)).trans ((hF311181.1 231 17 (by decide)).trans (hF300477.1 231 17 (by decide)))).trans hv268356) ?_
                have bv321858 := q_bnd x321832
                have bv321859 := q_bnd v268356
                refine r_ics 187 rfl (fun c321857 => ?_) (fun c321857 => ?_)
                · have c321857_ : x321832.toInt ≥ v268356.toInt := en_i_ge_t c321857
                  refine At.enter rfl ?_
                  refine r_aload_n e321840 ?_
                  refine q_getR (Sh.ref hI321834.1 kx_231 rfl) ?_
                  refine r_iconst 2 rfl ?_
                  refine r_dup2 ⟨rfl, rfl⟩ ?_
                  refine q_iald (Sh.arr hI321834.1 ka_233) 2 rfl (by decide) v214640 ((q321847 2 (by decide) (by decide)).trans (((eA_c (hF311181.2.1 233 (by decide))).trans ((eA_c (hF300477.2.1 233 (by decide))).trans (eA_c (q268330.2.1 233 (by decide))))).trans hv214640)) ?_
                  refine r_iconst 1 rfl ?_
                  refine q_iadd (v214640.toInt + 1) rfl (by omega) (fun v321860 hv321860 => ?_)
                  refine q_iast (Sh.arr hI321834.1 ka_233) (2) rfl (by decide) ?_
                  have x321863 := HI.eqA hI321834 (p := 233) (j := 2) (((q321847 2 (by decide) (by decide)).trans (((eA_c (hF311181.2.1 233 (by decide))).trans ((eA_c (hF300477.2.1 233 (by decide))).trans (eA_c (q268330.2.1 233 (by decide))))).trans hv214640)))
                  have hI321861 := HI.wt2 hI321834 (v := v321860) (by omega) (by omega) (by rw [show 110 + 900 * (eA _ 233 2).toInt = v311214.toInt by omega]; exact LAW.mk (CLS.cong2 (q268336 (by omega)).2 hI311180 (((hF311181.2.1 238 (by decide)).trans (hF300477.2.1 238 (by decide)))) (((hF311181.2.1 239 (by decide)).trans (hF300477.2.1 239 (by decide)))) (((hF311181.2.1 237 (by decide)).trans (hF300477.2.1 237 (by decide)))) (((hF311181.1 231 15 (by decide)).trans (hF300477.1 231 15 (by decide)))) (((hF311181.1 231 17 (by decide)).trans (hF300477.1 231 17 (by decide))))) ⟨by omega, by omega⟩ (by omega) q321845 q321846 (fun i i0 i1 => q321848 i i0 (by omega)))
                  have hF321862 := Fr.wA (p := 233) (j := 2) (v := v321860) hF321835 rfl
                  refine r_aload_n e321840 ?_
                  refine r_aload_n e321840 ?_
                  refine q_getR (Sh.ref hI321861.1 kx_231 rfl) ?_
                  refine r_iconst 2 rfl ?_
                  refine q_iald (Sh.arr hI321861.1 ka_233) 2 rfl (by decide) v321860 (eA_sA_eq hI321834.1 ka_233 (by first | rfl | omega) (by first | decide | omega) (by first | decide | omega)) ?_
                  refine r_iconst 1 rfl ?_
                  refine q_isub (v321860.toInt - 1) rfl (by omega) (fun v321864 hv321864 => ?_)
                  refine r_callV 255 rfl [.ref 231, .int v321864] [] (Nat.le_of_ble_eq_true rfl) rfl (T_X11_tell_231 _ hI321861 v321864 (by omega)) ?_
                  rintro _ _ ⟨g321865, rfl, hI321866, hF321867, v321868, rfl, hr321869⟩
                  refine At.sti ?_
                  have hF321870 := Fr.tr hF321862 hF321867 rfl rfl
                  refine At.enter rfl ?_
                  refine r_ireti ?_
                  have x321871 := HI.eqI hI321866 (p := 231) (b := 8) ((((hF321867.1 231 8 (by decide)).trans (gI_sW)).trans e321839))
                  have zv321872 : (0 : Int32).toInt = 0 := rfl
                  exact ⟨_, rfl, hI321866, hF321870, _, rfl, by omega, ⟨(fun i i0 i1 i2 => ((eA_c (hF321867.2.1 233 (by decide))).trans ((eA_sA_ne (i := i) hI321834.1 ka_233 (by omega) (by omega) (by omega)).trans ((q321847 i i0 i1).trans (eA_c (((hF311181.2.1 233 (by decide)).trans ((hF300477.2.1 233 (by decide)).trans (q268330.2.1 233 (by decide)))))))))), by omega⟩⟩
                · have c321857_ : x321832.toInt < v268356.toInt := en_i_ge_f c321857
                  refine At.enter rfl ?_
                  refine r_aload_n e321840 ?_
                  refine q_getR (Sh.ref hI321834.1 kx_231 rfl) ?_
                  refine r_iload_n e321841 ?_
                  refine r_bipush 98 rfl ?_
                  refine q_iadd (v311214.toInt + 98) rfl (by omega) (fun v321873 hv321873 => ?_)
                  refine r_iconst 2 rfl ?_
                  refine r_iload_n e321842 ?_
                  refine q_imul (2 * x321832.toInt) rfl (by omega) (fun v321874 hv321874 => ?_)
                  refine q_iadd (v321873.toInt + v321874.toInt) rfl (by omega) (fun v321875 hv321875 => ?_)
                  refine r_aload_n e321840 ?_
                  refine q_getR (Sh.ref hI321834.1 kx_231 rfl) ?_
                  refine r_iload_n e321842 ?_
                  obtain ⟨v321876, hv321876⟩ : ∃ v, eA g268321 238 x321832.toInt = v := ⟨_, rfl⟩
                  refine q_iald (Sh.arr hI321834.1 ka_238) x321832.toInt rfl (by omega) v321876 ((eA_c ((q321844.2.1 238 (by decide)).trans ((hF311181.2.1 238 (by decide)).trans (hF300477.2.1 238 (by decide))))).trans hv321876) ?_
                  refine q_iast (Sh.arr hI321834.1 ka_233) ((900 * v214640.toInt + 2 * x321832.toInt + 208)) (by omega) (by omega) ?_
                  have x321879 := HI.eqA hI321834 (p := 233) (j := 2) (((q321847 2 (by decide) (by decide)).trans (((eA_c (hF311181.2.1 233 (by decide))).trans ((eA_c (hF300477.2.1 233 (by decide))).trans (eA_c (q268330.2.1 233 (by decide))))).trans hv214640)))
                  have hI321877 := HI.wfree hI321834 (j := (900 * v214640.toInt + 2 * x321832.toInt + 208)) (v := v321876) ⟨by omega, by omega⟩
                  have hF321878 := Fr.wA (p := 233) (j := (900 * v214640.toInt + 2 * x321832.toInt + 208)) (v := v321876) hF321835 rfl
                  refine r_aload_n e321840 ?_
                  refine q_getR (Sh.ref hI321877.1 kx_231 rfl) ?_
                  refine r_iload_n e321841 ?_
                  refine r_bipush 98 rfl ?_
                  refine q_iadd (v311214.toInt + 98) rfl (by omega) (fun v321880 hv321880 => ?_)
                  refine r_iconst 2 rfl ?_
                  refine r_iload_n e321842 ?_
                  refine q_imul (2 * x321832.toInt) rfl (by omega) (fun v321881 hv321881 => ?_)
                  refine q_iadd (v321880.toInt + v321881.toInt) rfl (by omega) (fun v321882 hv321882 => ?_)
                  refine r_iconst 1 rfl ?_
                  refine q_iadd (v321882.toInt + 1) rfl (by omega) (fun v321883 hv321883 => ?_)
                  refine r_aload_n e321840 ?_
                  refine q_getR (Sh.ref hI321877.1 kx_231 rfl) ?_
                  refine r_iload_n e321842 ?_
                  obtain ⟨v321884, hv321884⟩ : ∃ v, eA g268321 239 x321832.toInt = v := ⟨_, rfl⟩
                  refine q_iald (Sh.arr hI321877.1 ka_239) x321832.toInt rfl (by omega) v321884 ((eA_c ((gA_sA_ne (by decide)).trans ((q321844.2.1 239 (by decide)).trans ((hF311181.2.1 239 (by decide)).trans (hF300477.2.1 239 (by decide)))))).trans hv321884) ?_
                  refine q_iast (Sh.arr hI321877.1 ka_233) ((900 * v214640.toInt + 2 * x321832.toInt + 209)) (by omega) (by omega) ?_
                  have x321887 := HI.eqA hI321877 (p := 233) (j := 2) (((eA_sA_ne hI321834.1 ka_233 (by first | decide | omega) (by first | decide | omega) (by first | decide | omega)).trans ((q321847 2 (by decide) (by decide)).trans (((eA_c (hF311181.2.1 233 (by decide))).trans ((eA_c (hF300477.2.1 233 (by decide))).trans (eA_c (q268330.2.1 233 (by decide))))).trans hv214640))))
                  have hI321885 := HI.wfree hI321877 (j := (900 * v214640.toInt + 2 * x321832.toInt + 209)) (v := v321884) ⟨by omega, by omega⟩
                  have hF321886 := Fr.wA (p := 233) (j := (900 * v214640.toInt + 2 * x321832.toInt + 209)) (v := v321884) hF321878 rfl
                  refine q_iinc e321842 (x321832.toInt + 1) rfl (by omega) (fun v321888 hv321888 => ?_)
                  refine r_goto ?_
                  exact ih321838 (400 - v321888.toInt) _ _ ⟨v321888, by first | rfl | omega, hI321885, hF321886, (((gI_sW).trans (gI_sW)).trans e321839), (w_p1 (by decide) (Or.inr rfl) e321840), (w_p1 (by decide) (Or.inr rfl) e321841), (w_e1 _ _ _), by omega, (Fr.wA (p := 233) (Fr.wA (p := 233) q321844 rfl) rfl), ((congrArg Int32.toInt (((eA_sA_ne (i := v311214.toInt + 1) hI321877.1 ka_233 (by omega) (by omega) (by omega)).trans (eA_sA_ne (i := v311214.toInt + 1) hI321834.1 ka_233 (by omega) (by omega) (by omega))))).trans q321845), (fun i i0 i1 => (congrArg Int32.toInt (((eA_sA_ne (i := v311214.toInt + 2 + i) hI321877.1 ka_233 (by omega) (by omega) (by omega)).trans (eA_sA_ne (i := v311214.toInt + 2 + i) hI321834.1 ka_233 (by omega) (by omega) (by omega))))).trans (q321846 i i0 i1)), (fun i i0 i1 => (((eA_sA_ne (i := i) hI321877.1 ka_233 (by omega) (by omega) (by omega)).trans (eA_sA_ne (i := i) hI321834.1 ka_233 (by omega) (by omega) (by omega)))).trans (q321847 i i0 i1)), (fun i i0 i1 => (Decidable.em (i = x321832.toInt)).elim (fun e => by rw [e]; exact ⟨((congrArg Int32.toInt ((eA_sA_ne (i := v311214.toInt + 98 + 2 * x321832.toInt) hI321877.1 ka_233 (by omega) (by omega) (by omega)).trans (eA_sA_eq hI321834.1 ka_233 (by omega) (by omega) (by omega)))).trans (congrArg Int32.toInt ((eA_c (((hF311181.2.1 238 (by decide)).trans (hF300477.2.1 238 (by decide))))).trans hv321876)).symm), ((congrArg Int32.toInt (eA_sA_eq hI321877.1 ka_233 (by omega) (by omega) (by omega))).trans (congrArg Int32.toInt ((eA_c (((hF311181.2.1 239 (by decide)).trans (hF300477.2.1 239 (by decide))))).trans hv321884)).symm)⟩) (fun e => ⟨(congrArg Int32.toInt (((eA_sA_ne (i := v311214.toInt + 98 + 2 * i) hI321877.1 ka_233 (by omega) (by omega) (by omega)).trans (eA_sA_ne (i := v311214.toInt + 98 + 2 * i) hI321834.1 ka_233 (by omega) (by omega) (by omega))))).trans (q321848 i i0 (by omega)).1, (congrArg Int32.toInt (((eA_sA_ne (i := v311214.toInt + 98 + 2 * i + 1) hI321877.1 ka_233 (by omega) (by omega) (by omega)).trans (eA_sA_ne (i := v311214.toInt + 98 + 2 * i + 1) hI321834.1 ka_233 (by omega) (by omega) (by omega))))).trans (q321848 i i0 (by omega)).2⟩))⟩ ⟨by omega, by omega⟩
              · have c321234_ : x321209.toInt < v321233.toInt := en_i_ge_f c321234
                refine At.enter rfl ?_
                refine r_aload_n e321217 ?_
                refine q_getR (Sh.ref hI321211.1 kx_231 rfl) ?_
                refine r_iload_n e321218 ?_
                refine r_iconst 2 rfl ?_
                refine q_iadd (v311214.toInt + 2) rfl (by omega) (fun v321889 hv321889 => ?_)
                refine r_iload_n e321219 ?_
                refine q_iadd (v321889.toInt + x321209.toInt) rfl (by omega) (fun v321890 hv321890 => ?_)
                refine r_aload_n e321217 ?_
                refine q_getR (Sh.ref hI321211.1 kx_231 rfl) ?_
                refine r_iload_n e321219 ?_
                obtain ⟨v321891, hv321891⟩ : ∃ v, eA g268321 237 x321209.toInt = v := ⟨_, rfl⟩
                refine q_iald (Sh.arr hI321211.1 ka_237) x321209.toInt rfl (by omega) v321891 ((eA_c ((q321221.2.1 237 (by decide)).trans ((hF311181.2.1 237 (by decide)).trans (hF300477.2.1 237 (by decide))))).trans hv321891) ?_
                refine q_iast (Sh.arr hI321211.1 ka_233) ((900 * v214640.toInt + x321209.toInt + 112)) (by omega) (by omega) ?_
                have x321894 := HI.eqA hI321211 (p := 233) (j := 2) (((q321224 2 (by decide) (by decide)).trans (((eA_c (hF311181.2.1 233 (by decide))).trans ((eA_c (hF300477.2.1 233 (by decide))).trans (eA_c (q268330.2.1 233 (by decide))))).trans hv214640)))
                have hI321892 := HI.wfree hI321211 (j := (900 * v214640.toInt + x321209.toInt + 112)) (v := v321891) ⟨by omega, by omega⟩
                have hF321893 := Fr.wA (p := 233) (j := (900 * v214640.toInt + x321209.toInt + 112)) (v := v321891) hF321212 rfl
                refine q_iinc e321219 (x321209.toInt + 1) rfl (by omega) (fun v321895 hv321895 => ?_)
                refine r_goto ?_
                exact ih321215 (96 - v321895.toInt) _ _ ⟨v321895, by first | rfl | omega, hI321892, hF321893, ((gI_sW).trans e321216), (w_p1 (by decide) (Or.inr rfl) e321217), (w_p1 (by decide) (Or.inr rfl) e321218), (w_e1 _ _ _), by omega, (Fr.wA (p := 233) q321221 rfl), ((congrArg Int32.toInt ((eA_sA_ne (i := v311214.toInt + 1) hI321211.1 ka_233 (by omega) (by omega) (by omega)))).trans q321222), (fun i i0 i1 => (Decidable.em (i = x321209.toInt)).elim (fun e => by rw [e]; exact (congrArg Int32.toInt (eA_sA_eq hI321211.1 ka_233 (by omega) (by omega) (by omega))).trans (congrArg Int32.toInt ((eA_c (((hF311181.2.1 237 (by decide)).trans (hF300477.2.1 237 (by decide))))).trans hv321891)).symm) (fun e => (congrArg Int32.toInt ((eA_sA_ne (i := v311214.toInt + 2 + i) hI321211.1 ka_233 (by omega) (by omega) (by omega)))).trans (q321223 i i0 (by omega)))), (fun i i0 i1 => ((eA_sA_ne (i := i) hI321211.1 ka_233 (by omega) (by omega) (by omega))).trans (q321224 i i0 i1))⟩ ⟨by omega, by omega⟩
            · have c311209_ : v311198.toInt ≠ 0 := en_k_eq_f c311209
              clear c311206
              refine At.enter rfl ?_
              refine r_aload_n e268328 ?_
              refine r_bipush (-6) rfl ?_
              refine r_callV 115 rfl [.ref 231, .int (-6)] [] (Nat.le_of_ble_eq_true rfl) rfl (T_X11_tell_231 _ hI311207 (-6) (by decide)) ?_
              rintro _ _ ⟨g321896, rfl, hI321897, hF321898, v321899, rfl, hr321900⟩
              refine At.sti ?_
              have hF321901 := Fr.tr hF311208 hF321898 rfl rfl
              have zv321902 : ((-6) : Int32).toInt = (-6) := rfl
              refine At.enter rfl ?_
              refine r_ireti ?_
              have x321903 := HI.eqI hI321897 (p := 231) (b := 8) (((hF321898.1 231 8 (by decide)).trans (gI_sI_eq hI311180.1 kx_231 rfl _)))
              have zv321904 : (0 : Int32).toInt = 0 := rfl
              exact ⟨_, rfl, hI321897, hF321901, _, rfl, by omega, ⟨(fun i i0 i1 i2 => eA_c (((hF321898.2.1 233 (by decide)).trans ((gA_sI).trans ((hF311181.2.1 233 (by decide)).trans ((hF300477.2.1 233 (by decide)).trans (q268330.2.1 233 (by decide)))))))), by omega⟩⟩
      · have c300484_ : v300478.toInt ≠ 0 := en_k_eq_f c300484
        refine At.enter rfl ?_
        refine r_aload_n e268328 ?_
        have x321905 := HI.eqI hI300476 (p := 231) (b := 8) ((((hF300477.1 231 8 (by decide)).trans (q268330.1 231 8 (by decide))).trans hv1))
        have x321906 := HI.eqI hI300476 (p := 231) (b := 10) (((hF300477.1 231 10 (by decide)).trans hv268348))
        refine r_callV 71 rfl [.ref 231] [] (Nat.le_of_ble_eq_true rfl) rfl (T_X11_next_231 _ hI300476 (by omega)) ?_
        rintro _ _ ⟨g321907, rfl, hI321908, hF321909, rfl, hr321911⟩
        refine At.stn ?_
        have hF321912 := Fr.tr hF300480 hF321909 rfl rfl
        have x321913 := HI.eqI hI300476 (p := 231) (b := 8) ((((hF300477.1 231 8 (by decide)).trans (q268330.1 231 8 (by decide))).trans hv1))
        have x321914 := HI.eqI hI300476 (p := 231) (b := 10) (((hF300477.1 231 10 (by decide)).trans hv268348))
        have x321915 := HI.eqI hI321908 (p := 231) (b := 8) ((((hF321909.1 231 8 (by decide)).trans ((hF300477.1 231 8 (by decide)).trans (q268330.1 231 8 (by decide)))).trans hv1))
        obtain ⟨v321916, hv321916⟩ : ∃ v, gI g321907 231 9 = v := ⟨_, rfl⟩
        have rv321916 := RgF.at hI321908.2.1 (p := 231) (b := 9) rfl
        rw [hv321916] at rv321916
        dsimp only at rv321916
        have tv321916 := congrArg Int32.toInt hv321916
        have x321917 := HI.eqI hI321908 (p := 231) (b := 9) (hv321916)
        obtain ⟨v321918, hv321918⟩ : ∃ v, gI g321907 231 10 = v := ⟨_, rfl⟩
        have rv321918 := RgF.at hI321908.2.1 (p := 231) (b := 10) rfl
        rw [hv321918] at rv321918
        dsimp only at rv321918
        have tv321918 := congrArg Int32.toInt hv321918
        have x321919 := HI.eqI hI321908 (p := 231) (b := 10) (hv321918)
        obtain ⟨v321920, hv321920⟩ : ∃ v, gI g321907 231 11 = v := ⟨_, rfl⟩
        have tv321920 := congrArg Int32.toInt hv321920
        have x321921 := HI.eqI hI321908 (p := 231) (b := 11) (hv321920)
        obtain ⟨c321922, c321923, c321924, c321925, c321926, c321927⟩ := hr321911
        refine At.enter rfl ?_
        refine r_aload_n e268328 ?_
        have x321928 := HI.eqI hI321908 (p := 231) (b := 8) ((((hF321909.1 231 8 (by decide)).trans ((hF300477.1 231 8 (by decide)).trans (q268330.1 231 8 (by decide)))).trans hv1))
        have x321929 := HI.eqI hI321908 (p := 231) (b := 9) (hv321916)
        have x321930 := HI.eqI hI321908 (p := 231) (b := 10) (hv321918)
        have x321931 := HI.eqI hI321908 (p := 231) (b := 11) (hv321920)
        have x321932 := HI.eqI hI321908 (p := 231) (b := 14) ((((hF321909.1 231 14 (by decide)).trans (hF300477.1 231 14 (by decide))).trans hv268352))
        have x321933 := HI.eqI hI321908 (p := 231) (b := 15) ((((hF321909.1 231 15 (by decide)).trans (hF300477.1 231 15 (by decide))).trans hv268354))
        have x321934 := HI.eqI hI321908 (p := 231) (b := 17) ((((hF321909.1 231 17 (by decide)).trans (hF300477.1 231 17 (by decide))).trans hv268356))
        have y321935 := (q268336 (by omega)).1
        refine r_callV 75 rfl [.ref 231] [] (Nat.le_of_ble_eq_true rfl) rfl (T_X11_readClause_231 _ hI321908 (by refine ⟨?_, ?_, ?_, ?_⟩ <;> omega) (by omega) (by omega) c321927 (CLS.cong2 (q268336 (by omega)).2 hI321908 (((hF321909.2.1 238 (by decide)).trans (hF300477.2.1 238 (by decide)))) (((hF321909.2.1 239 (by decide)).trans (hF300477.2.1 239 (by decide)))) (((hF321909.2.1 237 (by decide)).trans (hF300477.2.1 237 (by decide)))) (((hF321909.1 231 15 (by decide)).trans (hF300477.1 231 15 (by decide)))) (((hF321909.1 231 17 (by decide)).trans (hF300477.1 231 17 (by decide)))))) ?_
        rintro _ _ ⟨g321936, rfl, hI321937, hF321938, rfl, hr321940⟩
        refine At.stn ?_
        have hF321941 := Fr.tr hF321912 hF321938 rfl rfl
        have x321942 := HI.eqI hI321908 (p := 231) (b := 9) (hv321916)
        have x321943 := HI.eqI hI321937 (p := 231) (b := 8) ((((hF321938.1 231 8 (by decide)).trans ((hF321909.1 231 8 (by decide)).trans ((hF300477.1 231 8 (by decide)).trans (q268330.1 231 8 (by decide))))).trans hv1))
        obtain ⟨v321944, hv321944⟩ : ∃ v, gI g321936 231 9 = v := ⟨_, rfl⟩
        have rv321944 := RgF.at hI321937.2.1 (p := 231) (b := 9) rfl
        rw [hv321944] at rv321944
        dsimp only at rv321944
        have tv321944 := congrArg Int32.toInt hv321944
        have x321945 := HI.eqI hI321937 (p := 231) (b := 9) (hv321944)
        obtain ⟨v321946, hv321946⟩ : ∃ v, gI g321936 231 10 = v := ⟨_, rfl⟩
        have rv321946 := RgF.at hI321937.2.1 (p := 231) (b := 10) rfl
        rw [hv321946] at rv321946
        dsimp only at rv321946
        have tv321946 := congrArg Int32.toInt hv321946
        have x321947 := HI.eqI hI321937 (p := 231) (b := 10) (hv321946)
        obtain ⟨v321948, hv321948⟩ : ∃ v, gI g321936 231 11 = v := ⟨_, rfl⟩
        have tv321948 := congrArg Int32.toInt hv321948
        have x321949 := HI.eqI hI321937 (p := 231) (b := 11) (hv321948)
        obtain ⟨v321950, hv321950⟩ : ∃ v, gI g321936 231 14 = v := ⟨_, rfl⟩
        have tv321950 := congrArg Int32.toInt hv321950
        have x321951 := HI.eqI hI321937 (p := 231) (b := 14) (hv321950)
        obtain ⟨v321952, hv321952⟩ : ∃ v, gI g321936 231 15 = v := ⟨_, rfl⟩
        have rv321952 := RgF.at hI321937.2.1 (p := 231) (b := 15) rfl
        rw [hv321952] at rv321952
        dsimp only at rv321952
        have tv321952 := congrArg Int32.toInt hv321952
        have x321953 := HI.eqI hI321937 (p := 231) (b := 15) (hv321952)
        obtain ⟨v321954, hv321954⟩ : ∃ v, gI g321936 231 17 = v := ⟨_, rfl⟩
        have rv321954 := RgF.at hI321937.2.1 (p := 231) (b := 17) rfl
        rw [hv321954] at rv321954
        dsimp only at rv321954
        have tv321954 := congrArg Int32.toInt hv321954
        have x321955 := HI.eqI hI321937 (p := 231) (b := 17) (hv321954)
        obtain ⟨c321956, c321957, c321958, c321959, c321960, c321961, c321962⟩ := hr321940
        refine At.enter rfl ?_
        refine r_goto ?_
        have x321963 := HI.eqI hI321937 (p := 231) (b := 8) ((((hF321938.1 231 8 (by decide)).trans ((hF321909.1 231 8 (by decide)).trans ((hF300477.1 231 8 (by decide)).trans (q268330.1 231 8 (by decide))))).trans hv1))
        have x321964 := HI.eqI hI321937 (p := 231) (b := 9) (hv321944)
        have x321965 := HI.eqI hI321937 (p := 231) (b := 10) (hv321946)
        have x321966 := HI.eqI hI321937 (p := 231) (b := 11) (hv321948)
        have x321967 := HI.eqI hI321937 (p := 231) (b := 14) (hv321950)
        have x321968 := HI.eqI hI321937 (p := 231) (b := 15) (hv321952)
        have x321969 := HI.eqI hI321937 (p := 231) (b := 17) (hv321954)
        exact ih268326 (400 - v321944.toInt) _ _ ⟨v321944, by first | rfl | omega, hI321937, hF321941, hv321944, e268328, by omega, (Fr.tr (Fr.tr (Fr.tr q268330 hF300477 rfl rfl) hF321909 rfl rfl) hF321938 rfl rfl), by omega, by omega, by omega, by omega, c321960, c321962⟩ ⟨by omega, by omega⟩
  · have c214641_ : v214640.toInt = 6 := en_i_ne_f c214641
    refine At.enter rfl ?_
    refine r_aload_n rfl ?_
    refine r_iconst 0 rfl ?_
    refine q_putI (Sh.int hI214638.1 kx_231 rfl) rfl ?_
    have hI321970 := HI.wI1 hI214638 kx_231 rfl (p := 231) (b := 8) (v := 0) rfl (by decide)
    have hF321971 := Fr.wI (p := 231) (b := 8) (v := 0) hF214639 rfl
    refine r_aload_n rfl ?_
    refine r_bipush (-5) rfl ?_
    refine r_callV 27 rfl [.ref 231, .int (-5)] [] (Nat.le_of_ble_eq_true rfl) rfl (T_X11_tell_231 _ hI321970 (-5) (by decide)) ?_
    rintro _ _ ⟨g321972, rfl, hI321973, hF321974, v321975, rfl, hr321976⟩
    refine At.sti ?_
    have hF321977 := Fr.tr hF321971 hF321974 rfl rfl
    have zv321978 : ((-5) : Int32).toInt = (-5) := rfl
    refine At.enter rfl ?_
    refine r_ireti ?_
    have x321979 := HI.eqI hI321973 (p := 231) (b := 8) (((hF321974.1 231 8 (by decide)).trans (gI_sI_eq hI214638.1 kx_231 rfl _)))
    have zv321980 : (0 : Int32).toInt = 0 := rfl
    exact ⟨_, rfl, hI321973, hF321977, _, rfl, by omega, ⟨(fun i i0 i1 i2 => eA_c (((hF321974.2.1 233 (by decide)).trans ((gA_sI).trans (gA_sI))))), by omega⟩⟩
