def F_X11_behindSum_231 : List (Nat × Nat) := [(231, 9), (231, 10), (231, 11), (231, 12), (231, 13), (231, 14), (231, 17), (231, 23), (231, 24)]
def A_X11_behindSum_231 : List Nat := [238, 239, 240, 241]
set_option maxRecDepth 100000 in
set_option maxHeartbeats 4000000 in
theorem T_X11_behindSum_231 (d : Nat) {N : Nat} {g0 : List en_E} (hI0 : HI g0) (a1 : Int32) (h_a1 : 0 ≤ a1.toInt ∧ a1.toInt ≤ 1) (b : Int) (o0 : Int → Int) (a0 : Int → Int) (h1 : ((gI g0 231 9).toInt ≤ (gI g0 231 10).toInt ∧ (gI g0 231 10).toInt ≤ (gI g0 231 8).toInt ∧ 0 ≤ (gI g0 231 11).toInt ∧ (gI g0 231 11).toInt ≤ 3 * ((gI g0 231 10).toInt - (gI g0 231 9).toInt))) (h2 : (gI g0 231 14).toInt = 0) (h3 : (gI g0 231 17).toInt + (gI g0 231 23).toInt ≤ (gI g0 231 9).toInt) (hW : W26 g0) (hP : PT g0 b 3 o0 a0) (hK : TKM g0) : Ev (d + 4) 206 [.ref 231, .int a1] (g0, N) (fun w h' => ∃ g', h' = (g', N) ∧ HI g' ∧ Fr F_X11_behindSum_231 A_X11_behindSum_231 g0 g' ∧ ∃ r : Int32, w = some (.int r) ∧ (1 ≤ r.toInt ∧ r.toInt ≤ 4) ∧ ((gI g' 231 9).toInt ≤ (gI g' 231 10).toInt ∧ (gI g' 231 10).toInt ≤ (gI g' 231 8).toInt ∧ 0 ≤ (gI g' 231 11).toInt ∧ (gI g' 231 11).toInt ≤ 3 * ((gI g' 231 10).toInt - (gI g' 231 9).toInt) ∧ W26 g' ∧ (gI g' 231 17).toInt + (gI g' 231 23).toInt ≤ 400 ∧ (gI g0 231 9).toInt ≤ (gI g' 231 9).toInt ∧ TURN g' b r.toInt o0 a0 ∧ PRG (gI g' 231 14).toInt (gI g0 231 9).toInt (gI g' 231 9).toInt r.toInt 2 ∧ TKM g' ∧ MTP g0 g' 3 r.toInt (HBT a1.toInt) ∧ MGT g0 g' 3 r.toInt (HBG a1.toInt))) := by
  have hF0 : Fr F_X11_behindSum_231 A_X11_behindSum_231 g0 g0 := Fr.rf
  obtain ⟨v1, hv1⟩ : ∃ v, gI g0 231 8 = v := ⟨_, rfl⟩
  have rv1 := RgF.at hI0.2.1 (p := 231) (b := 8) rfl
  rw [hv1] at rv1
  dsimp only at rv1
  have tv1 := congrArg Int32.toInt hv1
  obtain ⟨v2, hv2⟩ : ∃ v, gI g0 231 9 = v := ⟨_, rfl⟩
  have rv2 := RgF.at hI0.2.1 (p := 231) (b := 9) rfl
  rw [hv2] at rv2
  dsimp only at rv2
  have tv2 := congrArg Int32.toInt hv2
  obtain ⟨v3, hv3⟩ : ∃ v, gI g0 231 10 = v := ⟨_, rfl⟩
  have rv3 := RgF.at hI0.2.1 (p := 231) (b := 10) rfl
  rw [hv3] at rv3
  dsimp only at rv3
  have tv3 := congrArg Int32.toInt hv3
  obtain ⟨v4, hv4⟩ : ∃ v, gI g0 231 11 = v := ⟨_, rfl⟩
  have tv4 := congrArg Int32.toInt hv4
  obtain ⟨v5, hv5⟩ : ∃ v, gJ g0 231 12 = v := ⟨_, rfl⟩
  have tv5 := congrArg Int64.toInt hv5
  obtain ⟨v6, hv6⟩ : ∃ v, gI g0 231 14 = v := ⟨_, rfl⟩
  have tv6 := congrArg Int32.toInt hv6
  obtain ⟨v7, hv7⟩ : ∃ v, gI g0 231 17 = v := ⟨_, rfl⟩
  have rv7 := RgF.at hI0.2.1 (p := 231) (b := 17) rfl
  rw [hv7] at rv7
  dsimp only at rv7
  have tv7 := congrArg Int32.toInt hv7
  obtain ⟨v8, hv8⟩ : ∃ v, gI g0 231 23 = v := ⟨_, rfl⟩
  have rv8 := RgF.at hI0.2.1 (p := 231) (b := 23) rfl
  rw [hv8] at rv8
  dsimp only at rv8
  have tv8 := congrArg Int32.toInt hv8
  refine Ev.mk rfl rfl ⟨Nat.le_of_ble_eq_true rfl, Or.inr (q_rc hI0.1 kx_231 rfl)⟩ ?_
  show At _ none _ _ (0, [(0, .ref 231), (1, .int a1)], [], (_, _)) _
  refine At.enter rfl ?_
  refine r_aload_n rfl ?_
  refine r_bipush 43 rfl ?_
  have x2709 := HI.eqI hI0 (p := 231) (b := 11) (hv4)
  have zv2710 : (43 : Int32).toInt = 43 := rfl
  refine r_callV 6 rfl [.ref 231, .int 43] [] (Nat.le_of_ble_eq_true rfl) rfl (T_X11_isSign_231 _ hI0 43 (by omega)) ?_
  rintro _ _ ⟨g2711, rfl, hI2712, hF2713, v2714, rfl, hr2715⟩
  refine At.sti ?_
  have hF2716 := Fr.tr hF0 hF2713 rfl rfl
  have x2719 := HI.eqI hI2712 (p := 231) (b := 11) (((hF2713.1 231 11 (by decide)).trans hv4))
  have hb2720 : BL (CDM g0 = 20) v2714.toInt := ISM.sign (c := 20) hr2715.2.2 hK (isSC_d (by omega)) (by decide +kernel)
  refine At.enter rfl ?_
  refine r_ifs 9 rfl (fun c2721 => ?_) (fun c2721 => ?_)
  · have c2721_ : v2714.toInt = 0 := en_k_eq_t c2721
    have i2722 := BL.no hb2720 (by omega)
    refine At.enter rfl ?_
    refine r_aload_n rfl ?_
    refine r_bipush 45 rfl ?_
    have zv2724 : (45 : Int32).toInt = 45 := rfl
    refine r_callV 20 rfl [.ref 231, .int 45] [] (Nat.le_of_ble_eq_true rfl) rfl (T_X11_isSign_231 _ hI2712 45 (by omega)) ?_
    rintro _ _ ⟨g2725, rfl, hI2726, hF2727, v2728, rfl, hr2729⟩
    refine At.sti ?_
    have hF2730 := Fr.tr hF2716 hF2727 rfl rfl
    have x2733 := HI.eqI hI2726 (p := 231) (b := 11) ((((hF2727.1 231 11 (by decide)).trans (hF2713.1 231 11 (by decide))).trans hv4))
    have hb2734 : BL (CDM g0 = 21) v2728.toInt := by have z := ISM.sign (c := 21) hr2729.2.2 (TKM.c hK ((hF2713.2.1 236 (by decide))) ((hF2713.1 231 8 (by decide))) ((hF2713.1 231 9 (by decide))) ((hF2713.1 231 10 (by decide))) ((hF2713.1 231 11 (by decide))) ((hF2713.2.2 231 12 (by decide)))) (isSC_d (by omega)) (by decide +kernel); rw [CDM.c ((hF2713.2.1 236 (by decide))) ((hF2713.1 231 9 (by decide))) ((hF2713.1 231 10 (by decide))) ((hF2713.1 231 11 (by decide)))] at z; exact z
    refine At.enter rfl ?_
    refine r_ifs 23 rfl (fun c2735 => ?_) (fun c2735 => ?_)
    · have c2735_ : v2728.toInt = 0 := en_k_eq_t c2735
      have i2736 := BL.no hb2734 (by omega)
      refine At.enter rfl ?_
      refine r_aload_n rfl ?_
      refine r_bipush 42 rfl ?_
      have zv2738 : (42 : Int32).toInt = 42 := rfl
      refine r_callV 34 rfl [.ref 231, .int 42] [] (Nat.le_of_ble_eq_true rfl) rfl (T_X11_isSign_231 _ hI2726 42 (by omega)) ?_
      rintro _ _ ⟨g2739, rfl, hI2740, hF2741, v2742, rfl, hr2743⟩
      refine At.sti ?_
      have hF2744 := Fr.tr hF2730 hF2741 rfl rfl
      have x2747 := HI.eqI hI2740 (p := 231) (b := 11) ((((hF2741.1 231 11 (by decide)).trans ((hF2727.1 231 11 (by decide)).trans (hF2713.1 231 11 (by decide)))).trans hv4))
      have hb2748 : BL (CDM g0 = 22) v2742.toInt := by have z := ISM.sign (c := 22) hr2743.2.2 (TKM.c hK (((hF2727.2.1 236 (by decide)).trans (hF2713.2.1 236 (by decide)))) (((hF2727.1 231 8 (by decide)).trans (hF2713.1 231 8 (by decide)))) (((hF2727.1 231 9 (by decide)).trans (hF2713.1 231 9 (by decide)))) (((hF2727.1 231 10 (by decide)).trans (hF2713.1 231 10 (by decide)))) (((hF2727.1 231 11 (by decide)).trans (hF2713.1 231 11 (by decide)))) (((hF2727.2.2 231 12 (by decide)).trans (hF2713.2.2 231 12 (by decide))))) (isSC_d (by omega)) (by decide +kernel); rw [CDM.c (((hF2727.2.1 236 (by decide)).trans (hF2713.2.1 236 (by decide)))) (((hF2727.1 231 9 (by decide)).trans (hF2713.1 231 9 (by decide)))) (((hF2727.1 231 10 (by decide)).trans (hF2713.1 231 10 (by decide)))) (((hF2727.1 231 11 (by decide)).trans (hF2713.1 231 11 (by decide))))] at z; exact z
      refine At.enter rfl ?_
      refine r_ifs 37 rfl (fun c2749 => ?_) (fun c2749 => ?_)
      · have c2749_ : v2742.toInt = 0 := en_k_eq_t c2749
        have i2750 := BL.no hb2748 (by omega)
        refine At.enter rfl ?_
        refine r_aload_n rfl ?_
        refine r_bipush 47 rfl ?_
        have zv2752 : (47 : Int32).toInt = 47 := rfl
        refine r_callV 48 rfl [.ref 231, .int 47] [] (Nat.le_of_ble_eq_true rfl) rfl (T_X11_isSign_231 _ hI2740 47 (by omega)) ?_
        rintro _ _ ⟨g2753, rfl, hI2754, hF2755, v2756, rfl, hr2757⟩
        refine At.sti ?_
        have hF2758 := Fr.tr hF2744 hF2755 rfl rfl
        have x2761 := HI.eqI hI2754 (p := 231) (b := 11) ((((hF2755.1 231 11 (by decide)).trans ((hF2741.1 231 11 (by decide)).trans ((hF2727.1 231 11 (by decide)).trans (hF2713.1 231 11 (by decide))))).trans hv4))
        have hb2762 : BL (CDM g0 = 23) v2756.toInt := by have z := ISM.sign (c := 23) hr2757.2.2 (TKM.c hK (((hF2741.2.1 236 (by decide)).trans ((hF2727.2.1 236 (by decide)).trans (hF2713.2.1 236 (by decide))))) (((hF2741.1 231 8 (by decide)).trans ((hF2727.1 231 8 (by decide)).trans (hF2713.1 231 8 (by decide))))) (((hF2741.1 231 9 (by decide)).trans ((hF2727.1 231 9 (by decide)).trans (hF2713.1 231 9 (by decide))))) (((hF2741.1 231 10 (by decide)).trans ((hF2727.1 231 10 (by decide)).trans (hF2713.1 231 10 (by decide))))) (((hF2741.1 231 11 (by decide)).trans ((hF2727.1 231 11 (by decide)).trans (hF2713.1 231 11 (by decide))))) (((hF2741.2.2 231 12 (by decide)).trans ((hF2727.2.2 231 12 (by decide)).trans (hF2713.2.2 231 12 (by decide)))))) (isSC_d (by omega)) (by decide +kernel); rw [CDM.c (((hF2741.2.1 236 (by decide)).trans ((hF2727.2.1 236 (by decide)).trans (hF2713.2.1 236 (by decide))))) (((hF2741.1 231 9 (by decide)).trans ((hF2727.1 231 9 (by decide)).trans (hF2713.1 231 9 (by decide))))) (((hF2741.1 231 10 (by decide)).trans ((hF2727.1 231 10 (by decide)).trans (hF2713.1 231 10 (by decide))))) (((hF2741.1 231 11 (by decide)).trans ((hF2727.1 231 11 (by decide)).trans (hF2713.1 231 11 (by decide)))))] at z; exact z
        refine At.enter rfl ?_
        refine r_ifs 51 rfl (fun c2763 => ?_) (fun c2763 => ?_)
        · have c2763_ : v2756.toInt = 0 := en_k_eq_t c2763
          have i2764 := BL.no hb2762 (by omega)
          refine At.enter rfl ?_
          refine r_iconst (-1) rfl ?_
          refine Ar.fall 57 rfl ?_
          refine At.enter rfl ?_
          refine r_istore_n ([(2, .int (-1)), (0, .ref 231), (1, .int a1)]) rfl ?_
          refine r_iload_n rfl ?_
          refine r_iconst (-1) rfl ?_
          refine r_ict (by decide) ?_
          refine At.enter rfl ?_
          refine r_aload_n rfl ?_
          refine r_callV 87 rfl [.ref 231] [] (Nat.le_of_ble_eq_true rfl) rfl (T_X11_inner_231 _ hI2754) ?_
          rintro _ _ ⟨g2765, rfl, hI2766, hF2767, v2768, rfl, hr2769⟩
          refine At.sti ?_
          have hF2770 := Fr.tr hF2758 hF2767 rfl rfl
          have inn2771 := INN.cong hr2769.2 hI2766 (hF2767.2.1 240 (by decide)) (hF2767.1 231 23 (by decide))
          have inn2772 := INN.cong hr2769.2 hI0 (((hF2755.2.1 240 (by decide)).trans ((hF2741.2.1 240 (by decide)).trans ((hF2727.2.1 240 (by decide)).trans (hF2713.2.1 240 (by decide)))))).symm (((hF2755.1 231 23 (by decide)).trans ((hF2741.1 231 23 (by decide)).trans ((hF2727.1 231 23 (by decide)).trans (hF2713.1 231 23 (by decide)))))).symm
          refine At.enter rfl ?_
          refine r_istore_n ([(3, .int v2768), (2, .int (-1)), (0, .ref 231), (1, .int a1)]) rfl ?_
          refine r_iload_n rfl ?_
          refine r_bipush 31 rfl ?_
          refine r_ics 94 rfl (fun c2773 => ?_) (fun c2773 => ?_)
          · have c2773_ : v2768.toInt ≠ 31 := en_i_ne_t c2773
            refine At.enter rfl ?_
            refine r_iload_n rfl ?_
            refine r_iconst (-1) rfl ?_
            refine r_ics 143 rfl (fun c2774 => ?_) (fun c2774 => ?_)
            · have c2774_ : v2768.toInt ≠ (-1) := en_i_ne_t c2774
              refine At.enter rfl ?_
              refine r_aload_n rfl ?_
              refine r_callV 153 rfl [.ref 231] [] (Nat.le_of_ble_eq_true rfl) rfl (T_X11_isCompared_231 _ hI2766) ?_
              rintro _ _ ⟨g2775, rfl, hI2776, hF2777, v2778, rfl, hr2779⟩
              refine At.sti ?_
              have hF2780 := Fr.tr hF2770 hF2777 rfl rfl
              have cm2781 := CMPD.fr0 hr2779.2 (((hF2767.2.1 240 (by decide)).trans ((hF2755.2.1 240 (by decide)).trans ((hF2741.2.1 240 (by decide)).trans ((hF2727.2.1 240 (by decide)).trans (hF2713.2.1 240 (by decide))))))) (((hF2767.1 231 23 (by decide)).trans ((hF2755.1 231 23 (by decide)).trans ((hF2741.1 231 23 (by decide)).trans ((hF2727.1 231 23 (by decide)).trans (hF2713.1 231 23 (by decide)))))))
              refine At.enter rfl ?_
              refine r_ifs 156 rfl (fun c2782 => ?_) (fun c2782 => ?_)
              · have c2782_ : v2778.toInt = 0 := en_k_eq_t c2782
                refine At.enter rfl ?_
                refine r_aload_n rfl ?_
                refine r_bipush 60 rfl ?_
                have x2783 := HI.eqI hI2776 (p := 231) (b := 11) ((((hF2777.1 231 11 (by decide)).trans ((hF2767.1 231 11 (by decide)).trans ((hF2755.1 231 11 (by decide)).trans ((hF2741.1 231 11 (by decide)).trans ((hF2727.1 231 11 (by decide)).trans (hF2713.1 231 11 (by decide))))))).trans hv4))
                have zv2784 : (60 : Int32).toInt = 60 := rfl
                refine r_callV 164 rfl [.ref 231, .int 60] [] (Nat.le_of_ble_eq_true rfl) rfl (T_X11_isSign_231 _ hI2776 60 (by omega)) ?_
                rintro _ _ ⟨g2785, rfl, hI2786, hF2787, v2788, rfl, hr2789⟩
                refine At.sti ?_
                have hF2790 := Fr.tr hF2780 hF2787 rfl rfl
                have x2793 := HI.eqI hI2786 (p := 231) (b := 11) ((((hF2787.1 231 11 (by decide)).trans ((hF2777.1 231 11 (by decide)).trans ((hF2767.1 231 11 (by decide)).trans ((hF2755.1 231 11 (by decide)).trans ((hF2741.1 231 11 (by decide)).trans ((hF2727.1 231 11 (by decide)).trans (hF2713.1 231 11 (by decide)))))))).trans hv4))
                have hb2794 : BL (CDM g0 = 24) v2788.toInt := by have z := ISM.sign (c := 24) hr2789.2.2 (TKM.c hK (((hF2777.2.1 236 (by decide)).trans ((hF2767.2.1 236 (by decide)).trans ((hF2755.2.1 236 (by decide)).trans ((hF2741.2.1 236 (by decide)).trans ((hF2727.2.1 236 (by decide)).trans (hF2713.2.1 236 (by decide)))))))) (((hF2777.1 231 8 (by decide)).trans ((hF2767.1 231 8 (by decide)).trans ((hF2755.1 231 8 (by decide)).trans ((hF2741.1 231 8 (by decide)).trans ((hF2727.1 231 8 (by decide)).trans (hF2713.1 231 8 (by decide)))))))) (((hF2777.1 231 9 (by decide)).trans ((hF2767.1 231 9 (by decide)).trans ((hF2755.1 231 9 (by decide)).trans ((hF2741.1 231 9 (by decide)).trans ((hF2727.1 231 9 (by decide)).trans (hF2713.1 231 9 (by decide)))))))) (((hF2777.1 231 10 (by decide)).trans ((hF2767.1 231 10 (by decide)).trans ((hF2755.1 231 10 (by decide)).trans ((hF2741.1 231 10 (by decide)).trans ((hF2727.1 231 10 (by decide)).trans (hF2713.1 231 10 (by decide)))))))) (((hF2777.1 231 11 (by decide)).trans ((hF2767.1 231 11 (by decide)).trans ((hF2755.1 231 11 (by decide)).trans ((hF2741.1 231 11 (by decide)).trans ((hF2727.1 231 11 (by decide)).trans (hF2713.1 231 11 (by decide)))))))) (((hF2777.2.2 231 12 (by decide)).trans ((hF2767.2.2 231 12 (by decide)).trans ((hF2755.2.2 231 12 (by decide)).trans ((hF2741.2.2 231 12 (by decide)).trans ((hF2727.2.2 231 12 (by decide)).trans (hF2713.2.2 231 12 (by decide))))))))) (isSC_d (by omega)) (by decide +kernel); rw [CDM.c (((hF2777.2.1 236 (by decide)).trans ((hF2767.2.1 236 (by decide)).trans ((hF2755.2.1 236 (by decide)).trans ((hF2741.2.1 236 (by decide)).trans ((hF2727.2.1 236 (by decide)).trans (hF2713.2.1 236 (by decide)))))))) (((hF2777.1 231 9 (by decide)).trans ((hF2767.1 231 9 (by decide)).trans ((hF2755.1 231 9 (by decide)).trans ((hF2741.1 231 9 (by decide)).trans ((hF2727.1 231 9 (by decide)).trans (hF2713.1 231 9 (by decide)))))))) (((hF2777.1 231 10 (by decide)).trans ((hF2767.1 231 10 (by decide)).trans ((hF2755.1 231 10 (by decide)).trans ((hF2741.1 231 10 (by decide)).trans ((hF2727.1 231 10 (by decide)).trans (hF2713.1 231 10 (by decide)))))))) (((hF2777.1 231 11 (by decide)).trans ((hF2767.1 231 11 (by decide)).trans ((hF2755.1 231 11 (by decide)).trans ((hF2741.1 231 11 (by decide)).trans ((hF2727.1 231 11 (by decide)).trans (hF2713.1 231 11 (by decide))))))))] at z; exact z
                refine At.enter rfl ?_
                refine r_ifs 167 rfl (fun c2795 => ?_) (fun c2795 => ?_)
                · have c2795_ : v2788.toInt = 0 := en_k_eq_t c2795
                  have i2796 := BL.no hb2794 (by omega)
                  refine At.enter rfl ?_
                  refine r_aload_n rfl ?_
                  refine r_bipush 62 rfl ?_
                  have zv2798 : (62 : Int32).toInt = 62 := rfl
                  refine r_callV 178 rfl [.ref 231, .int 62] [] (Nat.le_of_ble_eq_true rfl) rfl (T_X11_isSign_231 _ hI2786 62 (by omega)) ?_
                  rintro _ _ ⟨g2799, rfl, hI2800, hF2801, v2802, rfl, hr2803⟩
                  refine At.sti ?_
                  have hF2804 := Fr.tr hF2790 hF2801 rfl rfl
                  have x2807 := HI.eqI hI2800 (p := 231) (b := 11) ((((hF2801.1 231 11 (by decide)).trans ((hF2787.1 231 11 (by decide)).trans ((hF2777.1 231 11 (by decide)).trans ((hF2767.1 231 11 (by decide)).trans ((hF2755.1 231 11 (by decide)).trans ((hF2741.1 231 11 (by decide)).trans ((hF2727.1 231 11 (by decide)).trans (hF2713.1 231 11 (by decide))))))))).trans hv4))
                  have hb2808 : BL (CDM g0 = 25) v2802.toInt := by have z := ISM.sign (c := 25) hr2803.2.2 (TKM.c hK (((hF2787.2.1 236 (by decide)).trans ((hF2777.2.1 236 (by decide)).trans ((hF2767.2.1 236 (by decide)).trans ((hF2755.2.1 236 (by decide)).trans ((hF2741.2.1 236 (by decide)).trans ((hF2727.2.1 236 (by decide)).trans (hF2713.2.1 236 (by decide))))))))) (((hF2787.1 231 8 (by decide)).trans ((hF2777.1 231 8 (by decide)).trans ((hF2767.1 231 8 (by decide)).trans ((hF2755.1 231 8 (by decide)).trans ((hF2741.1 231 8 (by decide)).trans ((hF2727.1 231 8 (by decide)).trans (hF2713.1 231 8 (by decide))))))))) (((hF2787.1 231 9 (by decide)).trans ((hF2777.1 231 9 (by decide)).trans ((hF2767.1 231 9 (by decide)).trans ((hF2755.1 231 9 (by decide)).trans ((hF2741.1 231 9 (by decide)).trans ((hF2727.1 231 9 (by decide)).trans (hF2713.1 231 9 (by decide))))))))) (((hF2787.1 231 10 (by decide)).trans ((hF2777.1 231 10 (by decide)).trans ((hF2767.1 231 10 (by decide)).trans ((hF2755.1 231 10 (by decide)).trans ((hF2741.1 231 10 (by decide)).trans ((hF2727.1 231 10 (by decide)).trans (hF2713.1 231 10 (by decide))))))))) (((hF2787.1 231 11 (by decide)).trans ((hF2777.1 231 11 (by decide)).trans ((hF2767.1 231 11 (by decide)).trans ((hF2755.1 231 11 (by decide)).trans ((hF2741.1 231 11 (by decide)).trans ((hF2727.1 231 11 (by decide)).trans (hF2713.1 231 11 (by decide))))))))) (((hF2787.2.2 231 12 (by decide)).trans ((hF2777.2.2 231 12 (by decide)).trans ((hF2767.2.2 231 12 (by decide)).trans ((hF2755.2.2 231 12 (by decide)).trans ((hF2741.2.2 231 12 (by decide)).trans ((hF2727.2.2 231 12 (by decide)).trans (hF2713.2.2 231 12 (by decide)))))))))) (isSC_d (by omega)) (by decide +kernel); rw [CDM.c (((hF2787.2.1 236 (by decide)).trans ((hF2777.2.1 236 (by decide)).trans ((hF2767.2.1 236 (by decide)).trans ((hF2755.2.1 236 (by decide)).trans ((hF2741.2.1 236 (by decide)).trans ((hF2727.2.1 236 (by decide)).trans (hF2713.2.1 236 (by decide))))))))) (((hF2787.1 231 9 (by decide)).trans ((hF2777.1 231 9 (by decide)).trans ((hF2767.1 231 9 (by decide)).trans ((hF2755.1 231 9 (by decide)).trans ((hF2741.1 231 9 (by decide)).trans ((hF2727.1 231 9 (by decide)).trans (hF2713.1 231 9 (by decide))))))))) (((hF2787.1 231 10 (by decide)).trans ((hF2777.1 231 10 (by decide)).trans ((hF2767.1 231 10 (by decide)).trans ((hF2755.1 231 10 (by decide)).trans ((hF2741.1 231 10 (by decide)).trans ((hF2727.1 231 10 (by decide)).trans (hF2713.1 231 10 (by decide))))))))) (((hF2787.1 231 11 (by decide)).trans ((hF2777.1 231 11 (by decide)).trans ((hF2767.1 231 11 (by decide)).trans ((hF2755.1 231 11 (by decide)).trans ((hF2741.1 231 11 (by decide)).trans ((hF2727.1 231 11 (by decide)).trans (hF2713.1 231 11 (by decide)))))))))] at z; exact z
                  refine At.enter rfl ?_
                  refine r_ifs 181 rfl (fun c2809 => ?_) (fun c2809 => ?_)
                  · have c2809_ : v2802.toInt = 0 := en_k_eq_t c2809
                    have i2810 := BL.no hb2808 (by omega)
                    refine At.enter rfl ?_
                    refine r_bipush 26 rfl ?_
                    refine Ar.fall 188 rfl ?_
                    refine At.enter rfl ?_
                    refine r_istore_n ([(2, .int 26), (3, .int v2768), (0, .ref 231), (1, .int a1)]) rfl ?_
                    refine r_aload_n rfl ?_
                    refine r_iload_n rfl ?_
                    refine r_bipush 26 rfl ?_
                    refine r_icf 196 rfl (by decide) ?_
                    refine At.enter rfl ?_
                    refine r_aload_n rfl ?_
                    refine r_bipush 61 rfl ?_
                    have zv2812 : (61 : Int32).toInt = 61 := rfl
                    refine r_callV 202 rfl [.ref 231, .int 61] [.ref 231] (Nat.le_of_ble_eq_true rfl) rfl (T_X11_isSign_231 _ hI2800 61 (by omega)) ?_
                    rintro _ _ ⟨g2813, rfl, hI2814, hF2815, v2816, rfl, hr2817⟩
                    refine At.sti ?_
                    have hF2818 := Fr.tr hF2804 hF2815 rfl rfl
                    have x2821 := HI.eqI hI2814 (p := 231) (b := 11) ((((hF2815.1 231 11 (by decide)).trans ((hF2801.1 231 11 (by decide)).trans ((hF2787.1 231 11 (by decide)).trans ((hF2777.1 231 11 (by decide)).trans ((hF2767.1 231 11 (by decide)).trans ((hF2755.1 231 11 (by decide)).trans ((hF2741.1 231 11 (by decide)).trans ((hF2727.1 231 11 (by decide)).trans (hF2713.1 231 11 (by decide)))))))))).trans hv4))
                    have hb2822 : BL (CDM g0 = 26) v2816.toInt := by have z := ISM.sign (c := 26) hr2817.2.2 (TKM.c hK (((hF2801.2.1 236 (by decide)).trans ((hF2787.2.1 236 (by decide)).trans ((hF2777.2.1 236 (by decide)).trans ((hF2767.2.1 236 (by decide)).trans ((hF2755.2.1 236 (by decide)).trans ((hF2741.2.1 236 (by decide)).trans ((hF2727.2.1 236 (by decide)).trans (hF2713.2.1 236 (by decide)))))))))) (((hF2801.1 231 8 (by decide)).trans ((hF2787.1 231 8 (by decide)).trans ((hF2777.1 231 8 (by decide)).trans ((hF2767.1 231 8 (by decide)).trans ((hF2755.1 231 8 (by decide)).trans ((hF2741.1 231 8 (by decide)).trans ((hF2727.1 231 8 (by decide)).trans (hF2713.1 231 8 (by decide)))))))))) (((hF2801.1 231 9 (by decide)).trans ((hF2787.1 231 9 (by decide)).trans ((hF2777.1 231 9 (by decide)).trans ((hF2767.1 231 9 (by decide)).trans ((hF2755.1 231 9 (by decide)).trans ((hF2741.1 231 9 (by decide)).trans ((hF2727.1 231 9 (by decide)).trans (hF2713.1 231 9 (by decide)))))))))) (((hF2801.1 231 10 (by decide)).trans ((hF2787.1 231 10 (by decide)).trans ((hF2777.1 231 10 (by decide)).trans ((hF2767.1 231 10 (by decide)).trans ((hF2755.1 231 10 (by decide)).trans ((hF2741.1 231 10 (by decide)).trans ((hF2727.1 231 10 (by decide)).trans (hF2713.1 231 10 (by decide)))))))))) (((hF2801.1 231 11 (by decide)).trans ((hF2787.1 231 11 (by decide)).trans ((hF2777.1 231 11 (by decide)).trans ((hF2767.1 231 11 (by decide)).trans ((hF2755.1 231 11 (by decide)).trans ((hF2741.1 231 11 (by decide)).trans ((hF2727.1 231 11 (by decide)).trans (hF2713.1 231 11 (by decide)))))))))) (((hF2801.2.2 231 12 (by decide)).trans ((hF2787.2.2 231 12 (by decide)).trans ((hF2777.2.2 231 12 (by decide)).trans ((hF2767.2.2 231 12 (by decide)).trans ((hF2755.2.2 231 12 (by decide)).trans ((hF2741.2.2 231 12 (by decide)).trans ((hF2727.2.2 231 12 (by decide)).trans (hF2713.2.2 231 12 (by decide))))))))))) (isSC_d (by omega)) (by decide +kernel); rw [CDM.c (((hF2801.2.1 236 (by decide)).trans ((hF2787.2.1 236 (by decide)).trans ((hF2777.2.1 236 (by decide)).trans ((hF2767.2.1 236 (by decide)).trans ((hF2755.2.1 236 (by decide)).trans ((hF2741.2.1 236 (by decide)).trans ((hF2727.2.1 236 (by decide)).trans (hF2713.2.1 236 (by decide)))))))))) (((hF2801.1 231 9 (by decide)).trans ((hF2787.1 231 9 (by decide)).trans ((hF2777.1 231 9 (by decide)).trans ((hF2767.1 231 9 (by decide)).trans ((hF2755.1 231 9 (by decide)).trans ((hF2741.1 231 9 (by decide)).trans ((hF2727.1 231 9 (by decide)).trans (hF2713.1 231 9 (by decide)))))))))) (((hF2801.1 231 10 (by decide)).trans ((hF2787.1 231 10 (by decide)).trans ((hF2777.1 231 10 (by decide)).trans ((hF2767.1 231 10 (by decide)).trans ((hF2755.1 231 10 (by decide)).trans ((hF2741.1 231 10 (by decide)).trans ((hF2727.1 231 10 (by decide)).trans (hF2713.1 231 10 (by decide)))))))))) (((hF2801.1 231 11 (by decide)).trans ((hF2787.1 231 11 (by decide)).trans ((hF2777.1 231 11 (by decide)).trans ((hF2767.1 231 11 (by decide)).trans ((hF2755.1 231 11 (by decide)).trans ((hF2741.1 231 11 (by decide)).trans ((hF2727.1 231 11 (by decide)).trans (hF2713.1 231 11 (by decide))))))))))] at z; exact z
                    refine At.enter rfl ?_
                    refine r_ifs 205 rfl (fun c2823 => ?_) (fun c2823 => ?_)
                    · have c2823_ : v2816.toInt = 0 := en_k_eq_t c2823
                      have i2824 := BL.no hb2822 (by omega)
                      refine At.enter rfl ?_
                      refine r_iconst 0 rfl ?_
                      refine Ar.fall 210 rfl ?_
                      refine At.enter rfl ?_
                      have x2825 := HI.eqI hI2814 (p := 231) (b := 8) ((((hF2815.1 231 8 (by decide)).trans ((hF2801.1 231 8 (by decide)).trans ((hF2787.1 231 8 (by decide)).trans ((hF2777.1 231 8 (by decide)).trans ((hF2767.1 231 8 (by decide)).trans ((hF2755.1 231 8 (by decide)).trans ((hF2741.1 231 8 (by decide)).trans ((hF2727.1 231 8 (by decide)).trans (hF2713.1 231 8 (by decide)))))))))).trans hv1))
                      have x2826 := HI.eqI hI2814 (p := 231) (b := 9) ((((hF2815.1 231 9 (by decide)).trans ((hF2801.1 231 9 (by decide)).trans ((hF2787.1 231 9 (by decide)).trans ((hF2777.1 231 9 (by decide)).trans ((hF2767.1 231 9 (by decide)).trans ((hF2755.1 231 9 (by decide)).trans ((hF2741.1 231 9 (by decide)).trans ((hF2727.1 231 9 (by decide)).trans (hF2713.1 231 9 (by decide)))))))))).trans hv2))
                      have x2827 := HI.eqI hI2814 (p := 231) (b := 10) ((((hF2815.1 231 10 (by decide)).trans ((hF2801.1 231 10 (by decide)).trans ((hF2787.1 231 10 (by decide)).trans ((hF2777.1 231 10 (by decide)).trans ((hF2767.1 231 10 (by decide)).trans ((hF2755.1 231 10 (by decide)).trans ((hF2741.1 231 10 (by decide)).trans ((hF2727.1 231 10 (by decide)).trans (hF2713.1 231 10 (by decide)))))))))).trans hv3))
                      have w262829 := W26.cong hW hI2814 (((hF2815.1 231 9 (by decide)).trans ((hF2801.1 231 9 (by decide)).trans ((hF2787.1 231 9 (by decide)).trans ((hF2777.1 231 9 (by decide)).trans ((hF2767.1 231 9 (by decide)).trans ((hF2755.1 231 9 (by decide)).trans ((hF2741.1 231 9 (by decide)).trans ((hF2727.1 231 9 (by decide)).trans (hF2713.1 231 9 (by decide))))))))))) (((hF2815.1 231 10 (by decide)).trans ((hF2801.1 231 10 (by decide)).trans ((hF2787.1 231 10 (by decide)).trans ((hF2777.1 231 10 (by decide)).trans ((hF2767.1 231 10 (by decide)).trans ((hF2755.1 231 10 (by decide)).trans ((hF2741.1 231 10 (by decide)).trans ((hF2727.1 231 10 (by decide)).trans (hF2713.1 231 10 (by decide))))))))))) (((hF2815.1 231 11 (by decide)).trans ((hF2801.1 231 11 (by decide)).trans ((hF2787.1 231 11 (by decide)).trans ((hF2777.1 231 11 (by decide)).trans ((hF2767.1 231 11 (by decide)).trans ((hF2755.1 231 11 (by decide)).trans ((hF2741.1 231 11 (by decide)).trans ((hF2727.1 231 11 (by decide)).trans (hF2713.1 231 11 (by decide))))))))))) (((hF2815.2.2 231 12 (by decide)).trans ((hF2801.2.2 231 12 (by decide)).trans ((hF2787.2.2 231 12 (by decide)).trans ((hF2777.2.2 231 12 (by decide)).trans ((hF2767.2.2 231 12 (by decide)).trans ((hF2755.2.2 231 12 (by decide)).trans ((hF2741.2.2 231 12 (by decide)).trans ((hF2727.2.2 231 12 (by decide)).trans (hF2713.2.2 231 12 (by decide)))))))))))
                      have zv2830 : (0 : Int32).toInt = 0 := rfl
                      refine r_callV 213 rfl [.ref 231, .int 0] [] (Nat.le_of_ble_eq_true rfl) rfl (T_X11_must_231 _ hI2814 0 (by decide) (by refine ⟨?_, ?_, ?_, ?_⟩ <;> omega) w262829 (TKM.c hK (((hF2815.2.1 236 (by decide)).trans ((hF2801.2.1 236 (by decide)).trans ((hF2787.2.1 236 (by decide)).trans ((hF2777.2.1 236 (by decide)).trans ((hF2767.2.1 236 (by decide)).trans ((hF2755.2.1 236 (by decide)).trans ((hF2741.2.1 236 (by decide)).trans ((hF2727.2.1 236 (by decide)).trans (hF2713.2.1 236 (by decide))))))))))) (((hF2815.1 231 8 (by decide)).trans ((hF2801.1 231 8 (by decide)).trans ((hF2787.1 231 8 (by decide)).trans ((hF2777.1 231 8 (by decide)).trans ((hF2767.1 231 8 (by decide)).trans ((hF2755.1 231 8 (by decide)).trans ((hF2741.1 231 8 (by decide)).trans ((hF2727.1 231 8 (by decide)).trans (hF2713.1 231 8 (by decide))))))))))) (((hF2815.1 231 9 (by decide)).trans ((hF2801.1 231 9 (by decide)).trans ((hF2787.1 231 9 (by decide)).trans ((hF2777.1 231 9 (by decide)).trans ((hF2767.1 231 9 (by decide)).trans ((hF2755.1 231 9 (by decide)).trans ((hF2741.1 231 9 (by decide)).trans ((hF2727.1 231 9 (by decide)).trans (hF2713.1 231 9 (by decide))))))))))) (((hF2815.1 231 10 (by decide)).trans ((hF2801.1 231 10 (by decide)).trans ((hF2787.1 231 10 (by decide)).trans ((hF2777.1 231 10 (by decide)).trans ((hF2767.1 231 10 (by decide)).trans ((hF2755.1 231 10 (by decide)).trans ((hF2741.1 231 10 (by decide)).trans ((hF2727.1 231 10 (by decide)).trans (hF2713.1 231 10 (by decide))))))))))) (((hF2815.1 231 11 (by decide)).trans ((hF2801.1 231 11 (by decide)).trans ((hF2787.1 231 11 (by decide)).trans ((hF2777.1 231 11 (by decide)).trans ((hF2767.1 231 11 (by decide)).trans ((hF2755.1 231 11 (by decide)).trans ((hF2741.1 231 11 (by decide)).trans ((hF2727.1 231 11 (by decide)).trans (hF2713.1 231 11 (by decide))))))))))) (((hF2815.2.2 231 12 (by decide)).trans ((hF2801.2.2 231 12 (by decide)).trans ((hF2787.2.2 231 12 (by decide)).trans ((hF2777.2.2 231 12 (by decide)).trans ((hF2767.2.2 231 12 (by decide)).trans ((hF2755.2.2 231 12 (by decide)).trans ((hF2741.2.2 231 12 (by decide)).trans ((hF2727.2.2 231 12 (by decide)).trans (hF2713.2.2 231 12 (by decide))))))))))))) ?_
                      rintro _ _ ⟨g2831, rfl, hI2832, hF2833, rfl, hr2835⟩
                      refine At.stn ?_
                      have hF2836 := Fr.tr hF2818 hF2833 rfl rfl
                      have x2842 := HI.eqI hI2814 (p := 231) (b := 14) ((((hF2815.1 231 14 (by decide)).trans ((hF2801.1 231 14 (by decide)).trans ((hF2787.1 231 14 (by decide)).trans ((hF2777.1 231 14 (by decide)).trans ((hF2767.1 231 14 (by decide)).trans ((hF2755.1 231 14 (by decide)).trans ((hF2741.1 231 14 (by decide)).trans ((hF2727.1 231 14 (by decide)).trans (hF2713.1 231 14 (by decide)))))))))).trans hv6))
                      have x2843 := HI.eqI hI2832 (p := 231) (b := 8) ((((hF2833.1 231 8 (by decide)).trans ((hF2815.1 231 8 (by decide)).trans ((hF2801.1 231 8 (by decide)).trans ((hF2787.1 231 8 (by decide)).trans ((hF2777.1 231 8 (by decide)).trans ((hF2767.1 231 8 (by decide)).trans ((hF2755.1 231 8 (by decide)).trans ((hF2741.1 231 8 (by decide)).trans ((hF2727.1 231 8 (by decide)).trans (hF2713.1 231 8 (by decide))))))))))).trans hv1))
                      obtain ⟨v2844, hv2844⟩ : ∃ v, gI g2831 231 9 = v := ⟨_, rfl⟩
                      have rv2844 := RgF.at hI2832.2.1 (p := 231) (b := 9) rfl
                      rw [hv2844] at rv2844
                      dsimp only at rv2844
                      have tv2844 := congrArg Int32.toInt hv2844
                      have x2845 := HI.eqI hI2832 (p := 231) (b := 9) (hv2844)
                      obtain ⟨v2846, hv2846⟩ : ∃ v, gI g2831 231 10 = v := ⟨_, rfl⟩
                      have rv2846 := RgF.at hI2832.2.1 (p := 231) (b := 10) rfl
                      rw [hv2846] at rv2846
                      dsimp only at rv2846
                      have tv2846 := congrArg Int32.toInt hv2846
                      have x2847 := HI.eqI hI2832 (p := 231) (b := 10) (hv2846)
                      obtain ⟨v2848, hv2848⟩ : ∃ v, gI g2831 231 11 = v := ⟨_, rfl⟩
                      have tv2848 := congrArg Int32.toInt hv2848
                      have x2849 := HI.eqI hI2832 (p := 231) (b := 11) (hv2848)
                      obtain ⟨v2850, hv2850⟩ : ∃ v, gI g2831 231 14 = v := ⟨_, rfl⟩
                      have tv2850 := congrArg Int32.toInt hv2850
                      have x2851 := HI.eqI hI2832 (p := 231) (b := 14) (hv2850)
                      obtain ⟨c2852, c2853, c2854, c2855, c2856, c2857, c2858, c2859⟩ := hr2835
                      obtain ⟨v2860, hv2860⟩ : ∃ v, gI g0 231 13 = v := ⟨_, rfl⟩
                      have tv2860 := congrArg Int32.toInt hv2860
                      have x2861 := HI.eqI hI2814 (p := 231) (b := 13) ((((hF2815.1 231 13 (by decide)).trans ((hF2801.1 231 13 (by decide)).trans ((hF2787.1 231 13 (by decide)).trans ((hF2777.1 231 13 (by decide)).trans ((hF2767.1 231 13 (by decide)).trans ((hF2755.1 231 13 (by decide)).trans ((hF2741.1 231 13 (by decide)).trans ((hF2727.1 231 13 (by decide)).trans (hF2713.1 231 13 (by decide)))))))))).trans hv2860))
                      obtain ⟨v2863, hv2863⟩ : ∃ v, gI g2831 231 13 = v := ⟨_, rfl⟩
                      have tv2863 := congrArg Int32.toInt hv2863
                      have x2864 := HI.eqI hI2832 (p := 231) (b := 13) (hv2863)
                      unfold MUSTP at c2859
                      rw [TM.c (((hF2815.2.1 236 (by decide)).trans ((hF2801.2.1 236 (by decide)).trans ((hF2787.2.1 236 (by decide)).trans ((hF2777.2.1 236 (by decide)).trans ((hF2767.2.1 236 (by decide)).trans ((hF2755.2.1 236 (by decide)).trans ((hF2741.2.1 236 (by decide)).trans ((hF2727.2.1 236 (by decide)).trans (hF2713.2.1 236 (by decide))))))))))), nM.c (((hF2815.1 231 8 (by decide)).trans ((hF2801.1 231 8 (by decide)).trans ((hF2787.1 231 8 (by decide)).trans ((hF2777.1 231 8 (by decide)).trans ((hF2767.1 231 8 (by decide)).trans ((hF2755.1 231 8 (by decide)).trans ((hF2741.1 231 8 (by decide)).trans ((hF2727.1 231 8 (by decide)).trans (hF2713.1 231 8 (by decide))))))))))), pI.c (b := 14) (((hF2815.1 231 14 (by decide)).trans ((hF2801.1 231 14 (by decide)).trans ((hF2787.1 231 14 (by decide)).trans ((hF2777.1 231 14 (by decide)).trans ((hF2767.1 231 14 (by decide)).trans ((hF2755.1 231 14 (by decide)).trans ((hF2741.1 231 14 (by decide)).trans ((hF2727.1 231 14 (by decide)).trans (hF2713.1 231 14 (by decide))))))))))), pI.c (b := 13) (((hF2815.1 231 13 (by decide)).trans ((hF2801.1 231 13 (by decide)).trans ((hF2787.1 231 13 (by decide)).trans ((hF2777.1 231 13 (by decide)).trans ((hF2767.1 231 13 (by decide)).trans ((hF2755.1 231 13 (by decide)).trans ((hF2741.1 231 13 (by decide)).trans ((hF2727.1 231 13 (by decide)).trans (hF2713.1 231 13 (by decide))))))))))), pI.c (b := 10) (((hF2815.1 231 10 (by decide)).trans ((hF2801.1 231 10 (by decide)).trans ((hF2787.1 231 10 (by decide)).trans ((hF2777.1 231 10 (by decide)).trans ((hF2767.1 231 10 (by decide)).trans ((hF2755.1 231 10 (by decide)).trans ((hF2741.1 231 10 (by decide)).trans ((hF2727.1 231 10 (by decide)).trans (hF2713.1 231 10 (by decide))))))))))), pI.c (b := 9) (((hF2815.1 231 9 (by decide)).trans ((hF2801.1 231 9 (by decide)).trans ((hF2787.1 231 9 (by decide)).trans ((hF2777.1 231 9 (by decide)).trans ((hF2767.1 231 9 (by decide)).trans ((hF2755.1 231 9 (by decide)).trans ((hF2741.1 231 9 (by decide)).trans ((hF2727.1 231 9 (by decide)).trans (hF2713.1 231 9 (by decide)))))))))))] at c2859
                      have mu2865 : MUSTP g0 g2831 0 := c2859
                      clear c2859
                      have hK2866 := mu2865.1
                      refine At.enter rfl ?_
                      refine r_aload_n rfl ?_
                      refine q_getI (Sh.int hI2832.1 kx_231 rfl) v2850 hv2850 ?_
                      refine r_ifs 220 rfl (fun c2867 => ?_) (fun c2867 => ?_)
                      · have c2867_ : v2850.toInt ≠ 0 := en_k_ne_t c2867
                        clear c2858
                        obtain ⟨i2868, i2869⟩ := MUSTP.y mu2865 (by omega) (by omega)
                        refine At.enter rfl ?_
                        refine r_iconst 1 rfl ?_
                        refine r_ireti ?_
                        obtain ⟨v2874, hv2874⟩ : ∃ v, gJ g2831 231 12 = v := ⟨_, rfl⟩
                        have x2875 := HI.eqJ hI2832 (b := 12) (hv2874)
                        have x2877 := HI.eqI hI2832 (p := 231) (b := 17) ((((hF2833.1 231 17 (by decide)).trans ((hF2815.1 231 17 (by decide)).trans ((hF2801.1 231 17 (by decide)).trans ((hF2787.1 231 17 (by decide)).trans ((hF2777.1 231 17 (by decide)).trans ((hF2767.1 231 17 (by decide)).trans ((hF2755.1 231 17 (by decide)).trans ((hF2741.1 231 17 (by decide)).trans ((hF2727.1 231 17 (by decide)).trans (hF2713.1 231 17 (by decide))))))))))).trans hv7))
                        have x2878 := HI.eqI hI2832 (p := 231) (b := 23) ((((hF2833.1 231 23 (by decide)).trans ((hF2815.1 231 23 (by decide)).trans ((hF2801.1 231 23 (by decide)).trans ((hF2787.1 231 23 (by decide)).trans ((hF2777.1 231 23 (by decide)).trans ((hF2767.1 231 23 (by decide)).trans ((hF2755.1 231 23 (by decide)).trans ((hF2741.1 231 23 (by decide)).trans ((hF2727.1 231 23 (by decide)).trans (hF2713.1 231 23 (by decide))))))))))).trans hv8))
                        have x2879 := HI.eqI hI0 (p := 231) (b := 9) (hv2)
                        have zv2880 : (1 : Int32).toInt = 1 := rfl
                        obtain ⟨v2884, hv2884⟩ : ∃ v, gI g0 231 15 = v := ⟨_, rfl⟩
                        have rv2884 := RgF.at hI0.2.1 (p := 231) (b := 15) rfl
                        rw [hv2884] at rv2884
                        dsimp only at rv2884
                        have tv2884 := congrArg Int32.toInt hv2884
                        have x2885 := HI.eqI hI2832 (p := 231) (b := 15) ((((hF2833.1 231 15 (by decide)).trans ((hF2815.1 231 15 (by decide)).trans ((hF2801.1 231 15 (by decide)).trans ((hF2787.1 231 15 (by decide)).trans ((hF2777.1 231 15 (by decide)).trans ((hF2767.1 231 15 (by decide)).trans ((hF2755.1 231 15 (by decide)).trans ((hF2741.1 231 15 (by decide)).trans ((hF2727.1 231 15 (by decide)).trans (hF2713.1 231 15 (by decide))))))))))).trans hv2884))
                        obtain ⟨v2886, hv2886⟩ : ∃ v, gI g0 231 20 = v := ⟨_, rfl⟩
                        have tv2886 := congrArg Int32.toInt hv2886
                        have x2887 := HI.eqI hI2832 (p := 231) (b := 20) ((((hF2833.1 231 20 (by decide)).trans ((hF2815.1 231 20 (by decide)).trans ((hF2801.1 231 20 (by decide)).trans ((hF2787.1 231 20 (by decide)).trans ((hF2777.1 231 20 (by decide)).trans ((hF2767.1 231 20 (by decide)).trans ((hF2755.1 231 20 (by decide)).trans ((hF2741.1 231 20 (by decide)).trans ((hF2727.1 231 20 (by decide)).trans (hF2713.1 231 20 (by decide))))))))))).trans hv2886))
                        obtain ⟨v2889, hv2889⟩ : ∃ v, gI g0 231 24 = v := ⟨_, rfl⟩
                        have tv2889 := congrArg Int32.toInt hv2889
                        have x2890 := HI.eqI hI2832 (p := 231) (b := 24) ((((hF2833.1 231 24 (by decide)).trans ((hF2815.1 231 24 (by decide)).trans ((hF2801.1 231 24 (by decide)).trans ((hF2787.1 231 24 (by decide)).trans ((hF2777.1 231 24 (by decide)).trans ((hF2767.1 231 24 (by decide)).trans ((hF2755.1 231 24 (by decide)).trans ((hF2741.1 231 24 (by decide)).trans ((hF2727.1 231 24 (by decide)).trans (hF2713.1 231 24 (by decide))))))))))).trans hv2889))
                        have x2892 := HI.eqI hI0 (p := 231) (b := 13) (hv2860)
                        have x2893 := HI.eqI hI0 (p := 231) (b := 14) (hv6)
                        have x2894 := HI.eqI hI0 (p := 231) (b := 15) (hv2884)
                        have x2895 := HI.eqI hI0 (p := 231) (b := 20) (hv2886)
                        have x2896 := HI.eqI hI0 (p := 231) (b := 23) (hv8)
                        have x2897 := HI.eqI hI0 (p := 231) (b := 24) (hv2889)
                        have mf2898 := mu2865.2.2.1 (show (gI g0 231 14).toInt = 0 from by omega) (by omega)
                        have y2899 : (gI _ 231 14).toInt ≠ 0 := mf2898.1
                        have y2900 : (gI _ 231 13).toInt = (gI g0 231 9).toInt := mf2898.2
                        exact ⟨_, rfl, hI2832, hF2836, _, rfl, by decide, ⟨by omega, by omega, by omega, by omega, c2857, by omega, by omega, (fun hbad => ⟨by omega, (PT.mk (fun h => False.elim (by omega)) (fun h => False.elim (by omega)) (fun h h9 => False.elim (by omega)) (fun h => False.elim (by omega)))⟩), (fun hbad => by omega), hK2866, (fun c0 b hC h => M.cmpF h (fun z i => HBT.b4 hC i inn2772 (by omega) (by omega)) (TKM.some hK).choose_spec (by omega) (by omega) inn2772 (by omega) cm2781 (by omega) (fun _ => ⟨show (gI _ 231 14).toInt ≠ 0 from by omega, show (gI _ 231 13).toInt = (gI g0 231 9).toInt from by omega⟩) (fun z => absurd (show (gI g0 231 14).toInt = 0 from by omega) z) _), (fun h14 c0 b K hC h => absurd (show (gI _ 231 14).toInt = 0 from h14) (by omega))⟩⟩
                      · have c2867_ : v2850.toInt = 0 := en_k_ne_f c2867
                        obtain ⟨i2901, i2902, i2903⟩ := c2858 (by omega)
                        obtain ⟨i2904, i2905⟩ := MUSTP.z mu2865 (by omega) (by omega)
                        refine At.enter rfl ?_
                        refine r_aload_n rfl ?_
                        refine r_iconst 5 rfl ?_
                        have x2906 := HI.eqI hI2832 (p := 231) (b := 17) ((((hF2833.1 231 17 (by decide)).trans ((hF2815.1 231 17 (by decide)).trans ((hF2801.1 231 17 (by decide)).trans ((hF2787.1 231 17 (by decide)).trans ((hF2777.1 231 17 (by decide)).trans ((hF2767.1 231 17 (by decide)).trans ((hF2755.1 231 17 (by decide)).trans ((hF2741.1 231 17 (by decide)).trans ((hF2727.1 231 17 (by decide)).trans (hF2713.1 231 17 (by decide))))))))))).trans hv7))
                        have x2907 := HI.eqI hI2832 (p := 231) (b := 23) ((((hF2833.1 231 23 (by decide)).trans ((hF2815.1 231 23 (by decide)).trans ((hF2801.1 231 23 (by decide)).trans ((hF2787.1 231 23 (by decide)).trans ((hF2777.1 231 23 (by decide)).trans ((hF2767.1 231 23 (by decide)).trans ((hF2755.1 231 23 (by decide)).trans ((hF2741.1 231 23 (by decide)).trans ((hF2727.1 231 23 (by decide)).trans (hF2713.1 231 23 (by decide))))))))))).trans hv8))
                        have zv2908 : (5 : Int32).toInt = 5 := rfl
                        refine r_callV 225 rfl [.ref 231, .int 5] [] (Nat.le_of_ble_eq_true rfl) rfl (T_X11_settle_231 _ hI2832 5 (by decide) (by omega)) ?_
                        rintro _ _ ⟨g2909, rfl, hI2910, hF2911, rfl, hr2913⟩
                        refine At.stn ?_
                        have hF2914 := Fr.tr hF2836 hF2911 rfl rfl
                        obtain ⟨sp2916, sq2917, sg2918⟩ := hr2913
                        have sq2919 := SETQ.fr sq2917 (((hF2833.2.1 240 (by decide)).trans ((hF2815.2.1 240 (by decide)).trans ((hF2801.2.1 240 (by decide)).trans ((hF2787.2.1 240 (by decide)).trans ((hF2777.2.1 240 (by decide)).trans ((hF2767.2.1 240 (by decide)).trans ((hF2755.2.1 240 (by decide)).trans ((hF2741.2.1 240 (by decide)).trans ((hF2727.2.1 240 (by decide)).trans (hF2713.2.1 240 (by decide)))))))))))) (((hF2833.1 231 23 (by decide)).trans ((hF2815.1 231 23 (by decide)).trans ((hF2801.1 231 23 (by decide)).trans ((hF2787.1 231 23 (by decide)).trans ((hF2777.1 231 23 (by decide)).trans ((hF2767.1 231 23 (by decide)).trans ((hF2755.1 231 23 (by decide)).trans ((hF2741.1 231 23 (by decide)).trans ((hF2727.1 231 23 (by decide)).trans (hF2713.1 231 23 (by decide))))))))))))
                        have sg2920 := SETG_fr sg2918 (((hF2833.2.1 240 (by decide)).trans ((hF2815.2.1 240 (by decide)).trans ((hF2801.2.1 240 (by decide)).trans ((hF2787.2.1 240 (by decide)).trans ((hF2777.2.1 240 (by decide)).trans ((hF2767.2.1 240 (by decide)).trans ((hF2755.2.1 240 (by decide)).trans ((hF2741.2.1 240 (by decide)).trans ((hF2727.2.1 240 (by decide)).trans (hF2713.2.1 240 (by decide)))))))))))) (((hF2833.2.1 241 (by decide)).trans ((hF2815.2.1 241 (by decide)).trans ((hF2801.2.1 241 (by decide)).trans ((hF2787.2.1 241 (by decide)).trans ((hF2777.2.1 241 (by decide)).trans ((hF2767.2.1 241 (by decide)).trans ((hF2755.2.1 241 (by decide)).trans ((hF2741.2.1 241 (by decide)).trans ((hF2727.2.1 241 (by decide)).trans (hF2713.2.1 241 (by decide)))))))))))) (((hF2833.1 231 23 (by decide)).trans ((hF2815.1 231 23 (by decide)).trans ((hF2801.1 231 23 (by decide)).trans ((hF2787.1 231 23 (by decide)).trans ((hF2777.1 231 23 (by decide)).trans ((hF2767.1 231 23 (by decide)).trans ((hF2755.1 231 23 (by decide)).trans ((hF2741.1 231 23 (by decide)).trans ((hF2727.1 231 23 (by decide)).trans (hF2713.1 231 23 (by decide)))))))))))) (SMG_mk (((hF2833.2.1 238 (by decide)).trans ((hF2815.2.1 238 (by decide)).trans ((hF2801.2.1 238 (by decide)).trans ((hF2787.2.1 238 (by decide)).trans ((hF2777.2.1 238 (by decide)).trans ((hF2767.2.1 238 (by decide)).trans ((hF2755.2.1 238 (by decide)).trans ((hF2741.2.1 238 (by decide)).trans ((hF2727.2.1 238 (by decide)).trans (hF2713.2.1 238 (by decide)))))))))))) (((hF2833.2.1 239 (by decide)).trans ((hF2815.2.1 239 (by decide)).trans ((hF2801.2.1 239 (by decide)).trans ((hF2787.2.1 239 (by decide)).trans ((hF2777.2.1 239 (by decide)).trans ((hF2767.2.1 239 (by decide)).trans ((hF2755.2.1 239 (by decide)).trans ((hF2741.2.1 239 (by decide)).trans ((hF2727.2.1 239 (by decide)).trans (hF2713.2.1 239 (by decide)))))))))))) (((hF2833.1 231 17 (by decide)).trans ((hF2815.1 231 17 (by decide)).trans ((hF2801.1 231 17 (by decide)).trans ((hF2787.1 231 17 (by decide)).trans ((hF2777.1 231 17 (by decide)).trans ((hF2767.1 231 17 (by decide)).trans ((hF2755.1 231 17 (by decide)).trans ((hF2741.1 231 17 (by decide)).trans ((hF2727.1 231 17 (by decide)).trans (hF2713.1 231 17 (by decide)))))))))))))
                        obtain ⟨v2923, hv2923⟩ : ∃ v, gI g2909 231 17 = v := ⟨_, rfl⟩
                        have rv2923 := RgF.at hI2910.2.1 (p := 231) (b := 17) rfl
                        rw [hv2923] at rv2923
                        dsimp only at rv2923
                        have tv2923 := congrArg Int32.toInt hv2923
                        have x2924 := HI.eqI hI2910 (p := 231) (b := 17) (hv2923)
                        obtain ⟨v2925, hv2925⟩ : ∃ v, gI g2909 231 23 = v := ⟨_, rfl⟩
                        have rv2925 := RgF.at hI2910.2.1 (p := 231) (b := 23) rfl
                        rw [hv2925] at rv2925
                        dsimp only at rv2925
                        have tv2925 := congrArg Int32.toInt hv2925
                        have x2926 := HI.eqI hI2910 (p := 231) (b := 23) (hv2925)
                        have y2927 : (gI _ 231 23).toInt ≤ (gI _ 231 23).toInt := sp2916.1
                        have y2928 : (gI _ 231 17).toInt + (gI _ 231 23).toInt ≤ (gI _ 231 17).toInt + (gI _ 231 23).toInt := sp2916.2.1
                        have inn2929 := INN.cong inn2771 hI2832 (((hF2833.2.1 240 (by decide)).trans ((hF2815.2.1 240 (by decide)).trans ((hF2801.2.1 240 (by decide)).trans ((hF2787.2.1 240 (by decide)).trans (hF2777.2.1 240 (by decide))))))) (((hF2833.1 231 23 (by decide)).trans ((hF2815.1 231 23 (by decide)).trans ((hF2801.1 231 23 (by decide)).trans ((hF2787.1 231 23 (by decide)).trans (hF2777.1 231 23 (by decide)))))))
                        have pg2930 := PG.cong (hP.2.1 (by decide)) hI2832 (((hF2833.2.1 238 (by decide)).trans ((hF2815.2.1 238 (by decide)).trans ((hF2801.2.1 238 (by decide)).trans ((hF2787.2.1 238 (by decide)).trans ((hF2777.2.1 238 (by decide)).trans ((hF2767.2.1 238 (by decide)).trans ((hF2755.2.1 238 (by decide)).trans ((hF2741.2.1 238 (by decide)).trans ((hF2727.2.1 238 (by decide)).trans (hF2713.2.1 238 (by decide)))))))))))) (((hF2833.2.1 239 (by decide)).trans ((hF2815.2.1 239 (by decide)).trans ((hF2801.2.1 239 (by decide)).trans ((hF2787.2.1 239 (by decide)).trans ((hF2777.2.1 239 (by decide)).trans ((hF2767.2.1 239 (by decide)).trans ((hF2755.2.1 239 (by decide)).trans ((hF2741.2.1 239 (by decide)).trans ((hF2727.2.1 239 (by decide)).trans (hF2713.2.1 239 (by decide)))))))))))) (((hF2833.2.1 240 (by decide)).trans ((hF2815.2.1 240 (by decide)).trans ((hF2801.2.1 240 (by decide)).trans ((hF2787.2.1 240 (by decide)).trans ((hF2777.2.1 240 (by decide)).trans ((hF2767.2.1 240 (by decide)).trans ((hF2755.2.1 240 (by decide)).trans ((hF2741.2.1 240 (by decide)).trans ((hF2727.2.1 240 (by decide)).trans (hF2713.2.1 240 (by decide)))))))))))) (((hF2833.2.1 241 (by decide)).trans ((hF2815.2.1 241 (by decide)).trans ((hF2801.2.1 241 (by decide)).trans ((hF2787.2.1 241 (by decide)).trans ((hF2777.2.1 241 (by decide)).trans ((hF2767.2.1 241 (by decide)).trans ((hF2755.2.1 241 (by decide)).trans ((hF2741.2.1 241 (by decide)).trans ((hF2727.2.1 241 (by decide)).trans (hF2713.2.1 241 (by decide)))))))))))) (((hF2833.1 231 17 (by decide)).trans ((hF2815.1 231 17 (by decide)).trans ((hF2801.1 231 17 (by decide)).trans ((hF2787.1 231 17 (by decide)).trans ((hF2777.1 231 17 (by decide)).trans ((hF2767.1 231 17 (by decide)).trans ((hF2755.1 231 17 (by decide)).trans ((hF2741.1 231 17 (by decide)).trans ((hF2727.1 231 17 (by decide)).trans (hF2713.1 231 17 (by decide)))))))))))) (((hF2833.1 231 23 (by decide)).trans ((hF2815.1 231 23 (by decide)).trans ((hF2801.1 231 23 (by decide)).trans ((hF2787.1 231 23 (by decide)).trans ((hF2777.1 231 23 (by decide)).trans ((hF2767.1 231 23 (by decide)).trans ((hF2755.1 231 23 (by decide)).trans ((hF2741.1 231 23 (by decide)).trans ((hF2727.1 231 23 (by decide)).trans (hF2713.1 231 23 (by decide))))))))))))
                        have nsq2931 := INN.nsq inn2929 pg2930 (by omega)
                        have pg2932 := PG.cong (hP.2.1 (by decide)) hI2832 (((hF2833.2.1 238 (by decide)).trans ((hF2815.2.1 238 (by decide)).trans ((hF2801.2.1 238 (by decide)).trans ((hF2787.2.1 238 (by decide)).trans ((hF2777.2.1 238 (by decide)).trans ((hF2767.2.1 238 (by decide)).trans ((hF2755.2.1 238 (by decide)).trans ((hF2741.2.1 238 (by decide)).trans ((hF2727.2.1 238 (by decide)).trans (hF2713.2.1 238 (by decide)))))))))))) (((hF2833.2.1 239 (by decide)).trans ((hF2815.2.1 239 (by decide)).trans ((hF2801.2.1 239 (by decide)).trans ((hF2787.2.1 239 (by decide)).trans ((hF2777.2.1 239 (by decide)).trans ((hF2767.2.1 239 (by decide)).trans ((hF2755.2.1 239 (by decide)).trans ((hF2741.2.1 239 (by decide)).trans ((hF2727.2.1 239 (by decide)).trans (hF2713.2.1 239 (by decide)))))))))))) (((hF2833.2.1 240 (by decide)).trans ((hF2815.2.1 240 (by decide)).trans ((hF2801.2.1 240 (by decide)).trans ((hF2787.2.1 240 (by decide)).trans ((hF2777.2.1 240 (by decide)).trans ((hF2767.2.1 240 (by decide)).trans ((hF2755.2.1 240 (by decide)).trans ((hF2741.2.1 240 (by decide)).trans ((hF2727.2.1 240 (by decide)).trans (hF2713.2.1 240 (by decide)))))))))))) (((hF2833.2.1 241 (by decide)).trans ((hF2815.2.1 241 (by decide)).trans ((hF2801.2.1 241 (by decide)).trans ((hF2787.2.1 241 (by decide)).trans ((hF2777.2.1 241 (by decide)).trans ((hF2767.2.1 241 (by decide)).trans ((hF2755.2.1 241 (by decide)).trans ((hF2741.2.1 241 (by decide)).trans ((hF2727.2.1 241 (by decide)).trans (hF2713.2.1 241 (by decide)))))))))))) (((hF2833.1 231 17 (by decide)).trans ((hF2815.1 231 17 (by decide)).trans ((hF2801.1 231 17 (by decide)).trans ((hF2787.1 231 17 (by decide)).trans ((hF2777.1 231 17 (by decide)).trans ((hF2767.1 231 17 (by decide)).trans ((hF2755.1 231 17 (by decide)).trans ((hF2741.1 231 17 (by decide)).trans ((hF2727.1 231 17 (by decide)).trans (hF2713.1 231 17 (by decide)))))))))))) (((hF2833.1 231 23 (by decide)).trans ((hF2815.1 231 23 (by decide)).trans ((hF2801.1 231 23 (by decide)).trans ((hF2787.1 231 23 (by decide)).trans ((hF2777.1 231 23 (by decide)).trans ((hF2767.1 231 23 (by decide)).trans ((hF2755.1 231 23 (by decide)).trans ((hF2741.1 231 23 (by decide)).trans ((hF2727.1 231 23 (by decide)).trans (hF2713.1 231 23 (by decide))))))))))))
                        have inn2934 := INN.cong inn2771 hI2832 (((hF2833.2.1 240 (by decide)).trans ((hF2815.2.1 240 (by decide)).trans ((hF2801.2.1 240 (by decide)).trans ((hF2787.2.1 240 (by decide)).trans (hF2777.2.1 240 (by decide))))))) (((hF2833.1 231 23 (by decide)).trans ((hF2815.1 231 23 (by decide)).trans ((hF2801.1 231 23 (by decide)).trans ((hF2787.1 231 23 (by decide)).trans (hF2777.1 231 23 (by decide)))))))
                        have pg2933 := sp2916.2.2.1 _ _ _ pg2932
                        have nsq2936 := NSQ.le nsq2931 hI2910 sp2916.2.2.2.2.1 sp2916.1
                        refine At.enter rfl ?_
                        refine r_aload_n rfl ?_
                        refine r_iload_n rfl ?_
                        refine r_iconst 0 rfl ?_
                        have zv2938 : (26 : Int32).toInt = 26 := rfl
                        refine r_callV 231 rfl [.ref 231, .int 26, .int 0] [] (Nat.le_of_ble_eq_true rfl) rfl (T_X11_push_231 _ hI2910 26 (by decide) 0 (by decide) (by omega)) ?_
                        rintro _ _ ⟨g2940, rfl, hI2941, hF2942, rfl, hr2944⟩
                        refine At.stn ?_
                        have hF2945 := Fr.tr hF2914 hF2942 rfl rfl
                        have x2950 := HI.eqI hI2941 (p := 231) (b := 17) (((hF2942.1 231 17 (by decide)).trans hv2923))
                        obtain ⟨v2951, hv2951⟩ : ∃ v, gI g2940 231 23 = v := ⟨_, rfl⟩
                        have rv2951 := RgF.at hI2941.2.1 (p := 231) (b := 23) rfl
                        rw [hv2951] at rv2951
                        dsimp only at rv2951
                        have tv2951 := congrArg Int32.toInt hv2951
                        have x2952 := HI.eqI hI2941 (p := 231) (b := 23) (hv2951)
                        have y2953 : (gI _ 231 23).toInt = (gI _ 231 23).toInt + 1 := hr2944.1
                        have pg2954 := PG.push (e' := 0) pg2933 hr2944 (hF2942.2.1 238 (by decide)) (hF2942.2.1 239 (by decide)) (hF2942.1 231 17 (by decide)) ⟨by omega, by omega⟩ (Or.inr nsq2936) (by omega) (by omega)
                        have nsq2955 := NSQ.push nsq2936 hr2944 (by omega)
                        refine At.enter rfl ?_
                        refine r_iconst 1 rfl ?_
                        refine r_ireti ?_
                        have x2956 := HI.eqI hI2941 (p := 231) (b := 8) ((((hF2942.1 231 8 (by decide)).trans ((hF2911.1 231 8 (by decide)).trans ((hF2833.1 231 8 (by decide)).trans ((hF2815.1 231 8 (by decide)).trans ((hF2801.1 231 8 (by decide)).trans ((hF2787.1 231 8 (by decide)).trans ((hF2777.1 231 8 (by decide)).trans ((hF2767.1 231 8 (by decide)).trans ((hF2755.1 231 8 (by decide)).trans ((hF2741.1 231 8 (by decide)).trans ((hF2727.1 231 8 (by decide)).trans (hF2713.1 231 8 (by decide))))))))))))).trans hv1))
                        have x2957 := HI.eqI hI2941 (p := 231) (b := 9) ((((hF2942.1 231 9 (by decide)).trans (hF2911.1 231 9 (by decide))).trans hv2844))
                        have x2958 := HI.eqI hI2941 (p := 231) (b := 10) ((((hF2942.1 231 10 (by decide)).trans (hF2911.1 231 10 (by decide))).trans hv2846))
                        have x2959 := HI.eqI hI2941 (p := 231) (b := 11) ((((hF2942.1 231 11 (by decide)).trans (hF2911.1 231 11 (by decide))).trans hv2848))
                        obtain ⟨v2960, hv2960⟩ : ∃ v, gJ g2831 231 12 = v := ⟨_, rfl⟩
                        have x2961 := HI.eqJ hI2941 (b := 12) ((((hF2942.2.2 231 12 (by decide)).trans (hF2911.2.2 231 12 (by decide))).trans hv2960))
                        have x2962 := HI.eqI hI2941 (p := 231) (b := 14) ((((hF2942.1 231 14 (by decide)).trans (hF2911.1 231 14 (by decide))).trans hv2850))
                        have x2965 := HI.eqI hI0 (p := 231) (b := 9) (hv2)
                        have zv2966 : (1 : Int32).toInt = 1 := rfl
                        have w262967 := W26.cong c2857 hI2941 (((hF2942.1 231 9 (by decide)).trans (hF2911.1 231 9 (by decide)))) (((hF2942.1 231 10 (by decide)).trans (hF2911.1 231 10 (by decide)))) (((hF2942.1 231 11 (by decide)).trans (hF2911.1 231 11 (by decide)))) (((hF2942.2.2 231 12 (by decide)).trans (hF2911.2.2 231 12 (by decide))))
                        have x2969 := HI.eqI hI2941 (p := 231) (b := 13) ((((hF2942.1 231 13 (by decide)).trans (hF2911.1 231 13 (by decide))).trans hv2863))
                        obtain ⟨v2971, hv2971⟩ : ∃ v, gI g0 231 15 = v := ⟨_, rfl⟩
                        have rv2971 := RgF.at hI0.2.1 (p := 231) (b := 15) rfl
                        rw [hv2971] at rv2971
                        dsimp only at rv2971
                        have tv2971 := congrArg Int32.toInt hv2971
                        have x2972 := HI.eqI hI2941 (p := 231) (b := 15) ((((hF2942.1 231 15 (by decide)).trans ((hF2911.1 231 15 (by decide)).trans ((hF2833.1 231 15 (by decide)).trans ((hF2815.1 231 15 (by decide)).trans ((hF2801.1 231 15 (by decide)).trans ((hF2787.1 231 15 (by decide)).trans ((hF2777.1 231 15 (by decide)).trans ((hF2767.1 231 15 (by decide)).trans ((hF2755.1 231 15 (by decide)).trans ((hF2741.1 231 15 (by decide)).trans ((hF2727.1 231 15 (by decide)).trans (hF2713.1 231 15 (by decide))))))))))))).trans hv2971))
                        obtain ⟨v2973, hv2973⟩ : ∃ v, gI g0 231 20 = v := ⟨_, rfl⟩
                        have tv2973 := congrArg Int32.toInt hv2973
                        have x2974 := HI.eqI hI2941 (p := 231) (b := 20) ((((hF2942.1 231 20 (by decide)).trans ((hF2911.1 231 20 (by decide)).trans ((hF2833.1 231 20 (by decide)).trans ((hF2815.1 231 20 (by decide)).trans ((hF2801.1 231 20 (by decide)).trans ((hF2787.1 231 20 (by decide)).trans ((hF2777.1 231 20 (by decide)).trans ((hF2767.1 231 20 (by decide)).trans ((hF2755.1 231 20 (by decide)).trans ((hF2741.1 231 20 (by decide)).trans ((hF2727.1 231 20 (by decide)).trans (hF2713.1 231 20 (by decide))))))))))))).trans hv2973))
                        obtain ⟨v2976, hv2976⟩ : ∃ v, gI g0 231 24 = v := ⟨_, rfl⟩
                        have tv2976 := congrArg Int32.toInt hv2976
                        have x2977 := HI.eqI hI2941 (p := 231) (b := 24) ((((hF2942.1 231 24 (by decide)).trans ((hF2911.1 231 24 (by decide)).trans ((hF2833.1 231 24 (by decide)).trans ((hF2815.1 231 24 (by decide)).trans ((hF2801.1 231 24 (by decide)).trans ((hF2787.1 231 24 (by decide)).trans ((hF2777.1 231 24 (by decide)).trans ((hF2767.1 231 24 (by decide)).trans ((hF2755.1 231 24 (by decide)).trans ((hF2741.1 231 24 (by decide)).trans ((hF2727.1 231 24 (by decide)).trans (hF2713.1 231 24 (by decide))))))))))))).trans hv2976))
                        have x2979 := HI.eqI hI0 (p := 231) (b := 13) (hv2860)
                        have x2980 := HI.eqI hI0 (p := 231) (b := 14) (hv6)
                        have x2981 := HI.eqI hI0 (p := 231) (b := 15) (hv2971)
                        have x2982 := HI.eqI hI0 (p := 231) (b := 20) (hv2973)
                        have x2983 := HI.eqI hI0 (p := 231) (b := 23) (hv8)
                        have x2984 := HI.eqI hI0 (p := 231) (b := 24) (hv2976)
                        have x2986 := HI.eqI hI2910 (p := 231) (b := 24) ((((hF2911.1 231 24 (by decide)).trans ((hF2833.1 231 24 (by decide)).trans ((hF2815.1 231 24 (by decide)).trans ((hF2801.1 231 24 (by decide)).trans ((hF2787.1 231 24 (by decide)).trans ((hF2777.1 231 24 (by decide)).trans ((hF2767.1 231 24 (by decide)).trans ((hF2755.1 231 24 (by decide)).trans ((hF2741.1 231 24 (by decide)).trans ((hF2727.1 231 24 (by decide)).trans (hF2713.1 231 24 (by decide)))))))))))).trans hv2976))
                        have y2991 : (gI g2831 231 13).toInt = (gI g0 231 13).toInt := (mu2865.2.1 (show (gI g0 231 14).toInt = 0 from by omega) (by omega)).2.1
                        exact ⟨_, rfl, hI2941, hF2945, _, rfl, by decide, ⟨by omega, by omega, by omega, by omega, w262967, by omega, by omega, (fun hbad => ⟨by omega, (PT.mk (fun _ => pg2954) (fun h => False.elim (by omega)) (fun h h9 => False.elim (by omega)) (fun h => False.elim (by omega)))⟩), (fun hbad => by omega), (TKM.c hK2866 (((hF2942.2.1 236 (by decide)).trans (hF2911.2.1 236 (by decide)))) (((hF2942.1 231 8 (by decide)).trans (hF2911.1 231 8 (by decide)))) (((hF2942.1 231 9 (by decide)).trans (hF2911.1 231 9 (by decide)))) (((hF2942.1 231 10 (by decide)).trans (hF2911.1 231 10 (by decide)))) (((hF2942.1 231 11 (by decide)).trans (hF2911.1 231 11 (by decide)))) (((hF2942.2.2 231 12 (by decide)).trans (hF2911.2.2 231 12 (by decide))))), (fun c0 b hC h => M.cmp h (fun z i => HBT.b4 hC i inn2772 (by omega) (by omega)) (by rw [pI.c (((hF2942.1 231 9 (by decide)).trans (hF2911.1 231 9 (by decide))))]; exact (MUSTP.tok hK mu2865 (by omega) (by omega))) (by omega) inn2772 (by omega) cm2781 (by omega) sq2919 (by omega) (PUSH.fr2 hr2944 rfl rfl rfl rfl rfl rfl) (by omega) (pI.c (((hF2911.1 231 24 (by decide)).trans ((hF2833.1 231 24 (by decide)).trans ((hF2815.1 231 24 (by decide)).trans ((hF2801.1 231 24 (by decide)).trans ((hF2787.1 231 24 (by decide)).trans ((hF2777.1 231 24 (by decide)).trans ((hF2767.1 231 24 (by decide)).trans ((hF2755.1 231 24 (by decide)).trans ((hF2741.1 231 24 (by decide)).trans ((hF2727.1 231 24 (by decide)).trans (hF2713.1 231 24 (by decide)))))))))))))) (show (gI _ 231 24).toInt = (gI g2909 231 24).toInt from by omega) (show (gI _ 231 20).toInt = (gI g0 231 20).toInt from by omega) (show (gI _ 231 15).toInt = (gI g0 231 15).toInt from by omega) (fun _ => ⟨show (gI _ 231 14).toInt = 0 from by omega, show (gI _ 231 13).toInt = (gI g0 231 13).toInt from by omega⟩) (fun z => absurd (show (gI g0 231 14).toInt = 0 from by omega) z)), (fun h14 c0 b K hC h => MG_cmp h (PLG2_in h.1 hC inn2772 (by omega) (by omega)) (by rw [pI.c (((hF2942.1 231 9 (by decide)).trans (hF2911.1 231 9 (by decide))))]; exact (MUSTP.tok hK mu2865 (by omega) (by omega))) (by omega) inn2772 (by omega) cm2781 (by omega) sg2920 (by omega) sq2919 (PUSH.fr2 hr2944 rfl rfl rfl rfl rfl rfl) (by omega) rfl (SMG_mk ((hF2942.2.1 238 (by decide))) ((hF2942.2.1 239 (by decide))) ((hF2942.1 231 17 (by decide)))) (by show 0 ≤ (gI g2909 231 17).toInt; omega))⟩⟩
                    · have c2823_ : v2816.toInt ≠ 0 := en_k_eq_f c2823
                      have i2994 := BL.yes hb2822 (by omega)
                      refine At.enter rfl ?_
                      refine r_iconst 1 rfl ?_
                      refine r_goto ?_
                      refine At.enter rfl ?_
                      have x2995 := HI.eqI hI2814 (p := 231) (b := 8) ((((hF2815.1 231 8 (by decide)).trans ((hF2801.1 231 8 (by decide)).trans ((hF2787.1 231 8 (by decide)).trans ((hF2777.1 231 8 (by decide)).trans ((hF2767.1 231 8 (by decide)).trans ((hF2755.1 231 8 (by decide)).trans ((hF2741.1 231 8 (by decide)).trans ((hF2727.1 231 8 (by decide)).trans (hF2713.1 231 8 (by decide)))))))))).trans hv1))
                      have x2996 := HI.eqI hI2814 (p := 231) (b := 9) ((((hF2815.1 231 9 (by decide)).trans ((hF2801.1 231 9 (by decide)).trans ((hF2787.1 231 9 (by decide)).trans ((hF2777.1 231 9 (by decide)).trans ((hF2767.1 231 9 (by decide)).trans ((hF2755.1 231 9 (by decide)).trans ((hF2741.1 231 9 (by decide)).trans ((hF2727.1 231 9 (by decide)).trans (hF2713.1 231 9 (by decide)))))))))).trans hv2))
                      have x2997 := HI.eqI hI2814 (p := 231) (b := 10) ((((hF2815.1 231 10 (by decide)).trans ((hF2801.1 231 10 (by decide)).trans ((hF2787.1 231 10 (by decide)).trans ((hF2777.1 231 10 (by decide)).trans ((hF2767.1 231 10 (by decide)).trans ((hF2755.1 231 10 (by decide)).trans ((hF2741.1 231 10 (by decide)).trans ((hF2727.1 231 10 (by decide)).trans (hF2713.1 231 10 (by decide)))))))))).trans hv3))
                      have w262999 := W26.cong hW hI2814 (((hF2815.1 231 9 (by decide)).trans ((hF2801.1 231 9 (by decide)).trans ((hF2787.1 231 9 (by decide)).trans ((hF2777.1 231 9 (by decide)).trans ((hF2767.1 231 9 (by decide)).trans ((hF2755.1 231 9 (by decide)).trans ((hF2741.1 231 9 (by decide)).trans ((hF2727.1 231 9 (by decide)).trans (hF2713.1 231 9 (by decide))))))))))) (((hF2815.1 231 10 (by decide)).trans ((hF2801.1 231 10 (by decide)).trans ((hF2787.1 231 10 (by decide)).trans ((hF2777.1 231 10 (by decide)).trans ((hF2767.1 231 10 (by decide)).trans ((hF2755.1 231 10 (by decide)).trans ((hF2741.1 231 10 (by decide)).trans ((hF2727.1 231 10 (by decide)).trans (hF2713.1 231 10 (by decide))))))))))) (((hF2815.1 231 11 (by decide)).trans ((hF2801.1 231 11 (by decide)).trans ((hF2787.1 231 11 (by decide)).trans ((hF2777.1 231 11 (by decide)).trans ((hF2767.1 231 11 (by decide)).trans ((hF2755.1 231 11 (by decide)).trans ((hF2741.1 231 11 (by decide)).trans ((hF2727.1 231 11 (by decide)).trans (hF2713.1 231 11 (by decide))))))))))) (((hF2815.2.2 231 12 (by decide)).trans ((hF2801.2.2 231 12 (by decide)).trans ((hF2787.2.2 231 12 (by decide)).trans ((hF2777.2.2 231 12 (by decide)).trans ((hF2767.2.2 231 12 (by decide)).trans ((hF2755.2.2 231 12 (by decide)).trans ((hF2741.2.2 231 12 (by decide)).trans ((hF2727.2.2 231 12 (by decide)).trans (hF2713.2.2 231 12 (by decide)))))))))))
                      have zv3000 : (1 : Int32).toInt = 1 := rfl
                      refine r_callV 213 rfl [.ref 231, .int 1] [] (Nat.le_of_ble_eq_true rfl) rfl (T_X11_must_231 _ hI2814 1 (by decide) (by refine ⟨?_, ?_, ?_, ?_⟩ <;> omega) w262999 (TKM.c hK (((hF2815.2.1 236 (by decide)).trans ((hF2801.2.1 236 (by decide)).trans ((hF2787.2.1 236 (by decide)).trans ((hF2777.2.1 236 (by decide)).trans ((hF2767.2.1 236 (by decide)).trans ((hF2755.2.1 236 (by decide)).trans ((hF2741.2.1 236 (by decide)).trans ((hF2727.2.1 236 (by decide)).trans (hF2713.2.1 236 (by decide))))))))))) (((hF2815.1 231 8 (by decide)).trans ((hF2801.1 231 8 (by decide)).trans ((hF2787.1 231 8 (by decide)).trans ((hF2777.1 231 8 (by decide)).trans ((hF2767.1 231 8 (by decide)).trans ((hF2755.1 231 8 (by decide)).trans ((hF2741.1 231 8 (by decide)).trans ((hF2727.1 231 8 (by decide)).trans (hF2713.1 231 8 (by decide))))))))))) (((hF2815.1 231 9 (by decide)).trans ((hF2801.1 231 9 (by decide)).trans ((hF2787.1 231 9 (by decide)).trans ((hF2777.1 231 9 (by decide)).trans ((hF2767.1 231 9 (by decide)).trans ((hF2755.1 231 9 (by decide)).trans ((hF2741.1 231 9 (by decide)).trans ((hF2727.1 231 9 (by decide)).trans (hF2713.1 231 9 (by decide))))))))))) (((hF2815.1 231 10 (by decide)).trans ((hF2801.1 231 10 (by decide)).trans ((hF2787.1 231 10 (by decide)).trans ((hF2777.1 231 10 (by decide)).trans ((hF2767.1 231 10 (by decide)).trans ((hF2755.1 231 10 (by decide)).trans ((hF2741.1 231 10 (by decide)).trans ((hF2727.1 231 10 (by decide)).trans (hF2713.1 231 10 (by decide))))))))))) (((hF2815.1 231 11 (by decide)).trans ((hF2801.1 231 11 (by decide)).trans ((hF2787.1 231 11 (by decide)).trans ((hF2777.1 231 11 (by decide)).trans ((hF2767.1 231 11 (by decide)).trans ((hF2755.1 231 11 (by decide)).trans ((hF2741.1 231 11 (by decide)).trans ((hF2727.1 231 11 (by decide)).trans (hF2713.1 231 11 (by decide))))))))))) (((hF2815.2.2 231 12 (by decide)).trans ((hF2801.2.2 231 12 (by decide)).trans ((hF2787.2.2 231 12 (by decide)).trans ((hF2777.2.2 231 12 (by decide)).trans ((hF2767.2.2 231 12 (by decide)).trans ((hF2755.2.2 231 12 (by decide)).trans ((hF2741.2.2 231 12 (by decide)).trans ((hF2727.2.2 231 12 (by decide)).trans (hF2713.2.2 231 12 (by decide))))))))))))) ?_
                      rintro _ _ ⟨g3001, rfl, hI3002, hF3003, rfl, hr3005⟩
                      refine At.stn ?_
                      have hF3006 := Fr.tr hF2818 hF3003 rfl rfl
                      have x3012 := HI.eqI hI2814 (p := 231) (b := 14) ((((hF2815.1 231 14 (by decide)).trans ((hF2801.1 231 14 (by decide)).trans ((hF2787.1 231 14 (by decide)).trans ((hF2777.1 231 14 (by decide)).trans ((hF2767.1 231 14 (by decide)).trans ((hF2755.1 231 14 (by decide)).trans ((hF2741.1 231 14 (by decide)).trans ((hF2727.1 231 14 (by decide)).trans (hF2713.1 231 14 (by decide)))))))))).trans hv6))
                      have x3013 := HI.eqI hI3002 (p := 231) (b := 8) ((((hF3003.1 231 8 (by decide)).trans ((hF2815.1 231 8 (by decide)).trans ((hF2801.1 231 8 (by decide)).trans ((hF2787.1 231 8 (by decide)).trans ((hF2777.1 231 8 (by decide)).trans ((hF2767.1 231 8 (by decide)).trans ((hF2755.1 231 8 (by decide)).trans ((hF2741.1 231 8 (by decide)).trans ((hF2727.1 231 8 (by decide)).trans (hF2713.1 231 8 (by decide))))))))))).trans hv1))
                      obtain ⟨v3014, hv3014⟩ : ∃ v, gI g3001 231 9 = v := ⟨_, rfl⟩
                      have rv3014 := RgF.at hI3002.2.1 (p := 231) (b := 9) rfl
                      rw [hv3014] at rv3014
                      dsimp only at rv3014
                      have tv3014 := congrArg Int32.toInt hv3014
                      have x3015 := HI.eqI hI3002 (p := 231) (b := 9) (hv3014)
                      obtain ⟨v3016, hv3016⟩ : ∃ v, gI g3001 231 10 = v := ⟨_, rfl⟩
                      have rv3016 := RgF.at hI3002.2.1 (p := 231) (b := 10) rfl
                      rw [hv3016] at rv3016
                      dsimp only at rv3016
                      have tv3016 := congrArg Int32.toInt hv3016
                      have x3017 := HI.eqI hI3002 (p := 231) (b := 10) (hv3016)
                      obtain ⟨v3018, hv3018⟩ : ∃ v, gI g3001 231 11 = v := ⟨_, rfl⟩
                      have tv3018 := congrArg Int32.toInt hv3018
                      have x3019 := HI.eqI hI3002 (p := 231) (b := 11) (hv3018)
                      obtain ⟨v3020, hv3020⟩ : ∃ v, gI g3001 231 14 = v := ⟨_, rfl⟩
                      have tv3020 := congrArg Int32.toInt hv3020
                      have x3021 := HI.eqI hI3002 (p := 231) (b := 14) (hv3020)
                      obtain ⟨c3022, c3023, c3024, c3025, c3026, c3027, c3028, c3029⟩ := hr3005
                      obtain ⟨v3030, hv3030⟩ : ∃ v, gI g0 231 13 = v := ⟨_, rfl⟩
                      have tv3030 := congrArg Int32.toInt hv3030
                      have x3031 := HI.eqI hI2814 (p := 231) (b := 13) ((((hF2815.1 231 13 (by decide)).trans ((hF2801.1 231 13 (by decide)).trans ((hF2787.1 231 13 (by decide)).trans ((hF2777.1 231 13 (by decide)).trans ((hF2767.1 231 13 (by decide)).trans ((hF2755.1 231 13 (by decide)).trans ((hF2741.1 231 13 (by decide)).trans ((hF2727.1 231 13 (by decide)).trans (hF2713.1 231 13 (by decide)))))))))).trans hv3030))
                      obtain ⟨v3033, hv3033⟩ : ∃ v, gI g3001 231 13 = v := ⟨_, rfl⟩
                      have tv3033 := congrArg Int32.toInt hv3033
                      have x3034 := HI.eqI hI3002 (p := 231) (b := 13) (hv3033)
                      unfold MUSTP at c3029
                      rw [TM.c (((hF2815.2.1 236 (by decide)).trans ((hF2801.2.1 236 (by decide)).trans ((hF2787.2.1 236 (by decide)).trans ((hF2777.2.1 236 (by decide)).trans ((hF2767.2.1 236 (by decide)).trans ((hF2755.2.1 236 (by decide)).trans ((hF2741.2.1 236 (by decide)).trans ((hF2727.2.1 236 (by decide)).trans (hF2713.2.1 236 (by decide))))))))))), nM.c (((hF2815.1 231 8 (by decide)).trans ((hF2801.1 231 8 (by decide)).trans ((hF2787.1 231 8 (by decide)).trans ((hF2777.1 231 8 (by decide)).trans ((hF2767.1 231 8 (by decide)).trans ((hF2755.1 231 8 (by decide)).trans ((hF2741.1 231 8 (by decide)).trans ((hF2727.1 231 8 (by decide)).trans (hF2713.1 231 8 (by decide))))))))))), pI.c (b := 14) (((hF2815.1 231 14 (by decide)).trans ((hF2801.1 231 14 (by decide)).trans ((hF2787.1 231 14 (by decide)).trans ((hF2777.1 231 14 (by decide)).trans ((hF2767.1 231 14 (by decide)).trans ((hF2755.1 231 14 (by decide)).trans ((hF2741.1 231 14 (by decide)).trans ((hF2727.1 231 14 (by decide)).trans (hF2713.1 231 14 (by decide))))))))))), pI.c (b := 13) (((hF2815.1 231 13 (by decide)).trans ((hF2801.1 231 13 (by decide)).trans ((hF2787.1 231 13 (by decide)).trans ((hF2777.1 231 13 (by decide)).trans ((hF2767.1 231 13 (by decide)).trans ((hF2755.1 231 13 (by decide)).trans ((hF2741.1 231 13 (by decide)).trans ((hF2727.1 231 13 (by decide)).trans (hF2713.1 231 13 (by decide))))))))))), pI.c (b := 10) (((hF2815.1 231 10 (by decide)).trans ((hF2801.1 231 10 (by decide)).trans ((hF2787.1 231 10 (by decide)).trans ((hF2777.1 231 10 (by decide)).trans ((hF2767.1 231 10 (by decide)).trans ((hF2755.1 231 10 (by decide)).trans ((hF2741.1 231 10 (by decide)).trans ((hF2727.1 231 10 (by decide)).trans (hF2713.1 231 10 (by decide))))))))))), pI.c (b := 9) (((hF2815.1 231 9 (by decide)).trans ((hF2801.1 231 9 (by decide)).trans ((hF2787.1 231 9 (by decide)).trans ((hF2777.1 231 9 (by decide)).trans ((hF2767.1 231 9 (by decide)).trans ((hF2755.1 231 9 (by decide)).trans ((hF2741.1 231 9 (by decide)).trans ((hF2727.1 231 9 (by decide)).trans (hF2713.1 231 9 (by decide)))))))))))] at c3029
                      have mu3035 : MUSTP g0 g3001 1 := c3029
                      clear c3029
                      have hK3036 := mu3035.1
                      refine At.enter rfl ?_
                      refine r_aload_n rfl ?_
                      refine q_getI (Sh.int hI3002.1 kx_231 rfl) v3020 hv3020 ?_
                      refine r_ifs 220 rfl (fun c3037 => ?_) (fun c3037 => ?_)
                      · have c3037_ : v3020.toInt ≠ 0 := en_k_ne_t c3037
                        clear c3028
                        obtain ⟨i3038, i3039⟩ := MUSTP.y mu3035 (by omega) (by omega)
                        refine At.enter rfl ?_
                        refine r_iconst 1 rfl ?_
                        refine r_ireti ?_
                        obtain ⟨v3044, hv3044⟩ : ∃ v, gJ g3001 231 12 = v := ⟨_, rfl⟩
                        have x3045 := HI.eqJ hI3002 (b := 12) (hv3044)
                        have x3047 := HI.eqI hI3002 (p := 231) (b := 17) ((((hF3003.1 231 17 (by decide)).trans ((hF2815.1 231 17 (by decide)).trans ((hF2801.1 231 17 (by decide)).trans ((hF2787.1 231 17 (by decide)).trans ((hF2777.1 231 17 (by decide)).trans ((hF2767.1 231 17 (by decide)).trans ((hF2755.1 231 17 (by decide)).trans ((hF2741.1 231 17 (by decide)).trans ((hF2727.1 231 17 (by decide)).trans (hF2713.1 231 17 (by decide))))))))))).trans hv7))
                        have x3048 := HI.eqI hI3002 (p := 231) (b := 23) ((((hF3003.1 231 23 (by decide)).trans ((hF2815.1 231 23 (by decide)).trans ((hF2801.1 231 23 (by decide)).trans ((hF2787.1 231 23 (by decide)).trans ((hF2777.1 231 23 (by decide)).trans ((hF2767.1 231 23 (by decide)).trans ((hF2755.1 231 23 (by decide)).trans ((hF2741.1 231 23 (by decide)).trans ((hF2727.1 231 23 (by decide)).trans (hF2713.1 231 23 (by decide))))))))))).trans hv8))
                        have x3049 := HI.eqI hI0 (p := 231) (b := 9) (hv2)
                        obtain ⟨v3054, hv3054⟩ : ∃ v, gI g0 231 15 = v := ⟨_, rfl⟩
                        have rv3054 := RgF.at hI0.2.1 (p := 231) (b := 15) rfl
                        rw [hv3054] at rv3054
                        dsimp only at rv3054
                        have tv3054 := congrArg Int32.toInt hv3054
                        have x3055 := HI.eqI hI3002 (p := 231) (b := 15) ((((hF3003.1 231 15 (by decide)).trans ((hF2815.1 231 15 (by decide)).trans ((hF2801.1 231 15 (by decide)).trans ((hF2787.1 231 15 (by decide)).trans ((hF2777.1 231 15 (by decide)).trans ((hF2767.1 231 15 (by decide)).trans ((hF2755.1 231 15 (by decide)).trans ((hF2741.1 231 15 (by decide)).trans ((hF2727.1 231 15 (by decide)).trans (hF2713.1 231 15 (by decide))))))))))).trans hv3054))
                        obtain ⟨v3056, hv3056⟩ : ∃ v, gI g0 231 20 = v := ⟨_, rfl⟩
                        have tv3056 := congrArg Int32.toInt hv3056
                        have x3057 := HI.eqI hI3002 (p := 231) (b := 20) ((((hF3003.1 231 20 (by decide)).trans ((hF2815.1 231 20 (by decide)).trans ((hF2801.1 231 20 (by decide)).trans ((hF2787.1 231 20 (by decide)).trans ((hF2777.1 231 20 (by decide)).trans ((hF2767.1 231 20 (by decide)).trans ((hF2755.1 231 20 (by decide)).trans ((hF2741.1 231 20 (by decide)).trans ((hF2727.1 231 20 (by decide)).trans (hF2713.1 231 20 (by decide))))))))))).trans hv3056))
                        obtain ⟨v3059, hv3059⟩ : ∃ v, gI g0 231 24 = v := ⟨_, rfl⟩
                        have tv3059 := congrArg Int32.toInt hv3059
                        have x3060 := HI.eqI hI3002 (p := 231) (b := 24) ((((hF3003.1 231 24 (by decide)).trans ((hF2815.1 231 24 (by decide)).trans ((hF2801.1 231 24 (by decide)).trans ((hF2787.1 231 24 (by decide)).trans ((hF2777.1 231 24 (by decide)).trans ((hF2767.1 231 24 (by decide)).trans ((hF2755.1 231 24 (by decide)).trans ((hF2741.1 231 24 (by decide)).trans ((hF2727.1 231 24 (by decide)).trans (hF2713.1 231 24 (by decide))))))))))).trans hv3059))
                        have x3062 := HI.eqI hI0 (p := 231) (b := 13) (hv3030)
                        have x3063 := HI.eqI hI0 (p := 231) (b := 14) (hv6)
                        have x3064 := HI.eqI hI0 (p := 231) (b := 15) (hv3054)
                        have x3065 := HI.eqI hI0 (p := 231) (b := 20) (hv3056)
                        have x3066 := HI.eqI hI0 (p := 231) (b := 23) (hv8)
                        have x3067 := HI.eqI hI0 (p := 231) (b := 24) (hv3059)
                        have mf3068 := mu3035.2.2.1 (show (gI g0 231 14).toInt = 0 from by omega) (by omega)
                        have y3069 : (gI _ 231 14).toInt ≠ 0 := mf3068.1
                        have y3070 : (gI _ 231 13).toInt = (gI g0 231 9).toInt := mf3068.2
                        exact ⟨_, rfl, hI3002, hF3006, _, rfl, by decide, ⟨by omega, by omega, by omega, by omega, c3027, by omega, by omega, (fun hbad => ⟨by omega, (PT.mk (fun h => False.elim (by omega)) (fun h => False.elim (by omega)) (fun h h9 => False.elim (by omega)) (fun h => False.elim (by omega)))⟩), (fun hbad => by omega), hK3036, (fun c0 b hC h => M.cmpF h (fun z i => HBT.b4 hC i inn2772 (by omega) (by omega)) (TKM.some hK).choose_spec (by omega) (by omega) inn2772 (by omega) cm2781 (by omega) (fun _ => ⟨show (gI _ 231 14).toInt ≠ 0 from by omega, show (gI _ 231 13).toInt = (gI g0 231 9).toInt from by omega⟩) (fun z => absurd (show (gI g0 231 14).toInt = 0 from by omega) z) _), (fun h14 c0 b K hC h => absurd (show (gI _ 231 14).toInt = 0 from h14) (by omega))⟩⟩
                      · have c3037_ : v3020.toInt = 0 := en_k_ne_f c3037
                        obtain ⟨i3071, i3072, i3073⟩ := c3028 (by omega)
                        obtain ⟨i3074, i3075⟩ := MUSTP.z mu3035 (by omega) (by omega)
                        refine At.enter rfl ?_
                        refine r_aload_n rfl ?_
                        refine r_iconst 5 rfl ?_
                        have x3076 := HI.eqI hI3002 (p := 231) (b := 17) ((((hF3003.1 231 17 (by decide)).trans ((hF2815.1 231 17 (by decide)).trans ((hF2801.1 231 17 (by decide)).trans ((hF2787.1 231 17 (by decide)).trans ((hF2777.1 231 17 (by decide)).trans ((hF2767.1 231 17 (by decide)).trans ((hF2755.1 231 17 (by decide)).trans ((hF2741.1 231 17 (by decide)).trans ((hF2727.1 231 17 (by decide)).trans (hF2713.1 231 17 (by decide))))))))))).trans hv7))
                        have x3077 := HI.eqI hI3002 (p := 231) (b := 23) ((((hF3003.1 231 23 (by decide)).trans ((hF2815.1 231 23 (by decide)).trans ((hF2801.1 231 23 (by decide)).trans ((hF2787.1 231 23 (by decide)).trans ((hF2777.1 231 23 (by decide)).trans ((hF2767.1 231 23 (by decide)).trans ((hF2755.1 231 23 (by decide)).trans ((hF2741.1 231 23 (by decide)).trans ((hF2727.1 231 23 (by decide)).trans (hF2713.1 231 23 (by decide))))))))))).trans hv8))
                        have zv3078 : (5 : Int32).toInt = 5 := rfl
                        refine r_callV 225 rfl [.ref 231, .int 5] [] (Nat.le_of_ble_eq_true rfl) rfl (T_X11_settle_231 _ hI3002 5 (by decide) (by omega)) ?_
                        rintro _ _ ⟨g3079, rfl, hI3080, hF3081, rfl, hr3083⟩
                        refine At.stn ?_
                        have hF3084 := Fr.tr hF3006 hF3081 rfl rfl
                        obtain ⟨sp3086, sq3087, sg3088⟩ := hr3083
                        have sq3089 := SETQ.fr sq3087 (((hF3003.2.1 240 (by decide)).trans ((hF2815.2.1 240 (by decide)).trans ((hF2801.2.1 240 (by decide)).trans ((hF2787.2.1 240 (by decide)).trans ((hF2777.2.1 240 (by decide)).trans ((hF2767.2.1 240 (by decide)).trans ((hF2755.2.1 240 (by decide)).trans ((hF2741.2.1 240 (by decide)).trans ((hF2727.2.1 240 (by decide)).trans (hF2713.2.1 240 (by decide)))))))))))) (((hF3003.1 231 23 (by decide)).trans ((hF2815.1 231 23 (by decide)).trans ((hF2801.1 231 23 (by decide)).trans ((hF2787.1 231 23 (by decide)).trans ((hF2777.1 231 23 (by decide)).trans ((hF2767.1 231 23 (by decide)).trans ((hF2755.1 231 23 (by decide)).trans ((hF2741.1 231 23 (by decide)).trans ((hF2727.1 231 23 (by decide)).trans (hF2713.1 231 23 (by decide))))))))))))
                        have sg3090 := SETG_fr sg3088 (((hF3003.2.1 240 (by decide)).trans ((hF2815.2.1 240 (by decide)).trans ((hF2801.2.1 240 (by decide)).trans ((hF2787.2.1 240 (by decide)).trans ((hF2777.2.1 240 (by decide)).trans ((hF2767.2.1 240 (by decide)).trans ((hF2755.2.1 240 (by decide)).trans ((hF2741.2.1 240 (by decide)).trans ((hF2727.2.1 240 (by decide)).trans (hF2713.2.1 240 (by decide)))))))))))) (((hF3003.2.1 241 (by decide)).trans ((hF2815.2.1 241 (by decide)).trans ((hF2801.2.1 241 (by decide)).trans ((hF2787.2.1 241 (by decide)).trans ((hF2777.2.1 241 (by decide)).trans ((hF2767.2.1 241 (by decide)).trans ((hF2755.2.1 241 (by decide)).trans ((hF2741.2.1 241 (by decide)).trans ((hF2727.2.1 241 (by decide)).trans (hF2713.2.1 241 (by decide)))))))))))) (((hF3003.1 231 23 (by decide)).trans ((hF2815.1 231 23 (by decide)).trans ((hF2801.1 231 23 (by decide)).trans ((hF2787.1 231 23 (by decide)).trans ((hF2777.1 231 23 (by decide)).trans ((hF2767.1 231 23 (by decide)).trans ((hF2755.1 231 23 (by decide)).trans ((hF2741.1 231 23 (by decide)).trans ((hF2727.1 231 23 (by decide)).trans (hF2713.1 231 23 (by decide)))))))))))) (SMG_mk (((hF3003.2.1 238 (by decide)).trans ((hF2815.2.1 238 (by decide)).trans ((hF2801.2.1 238 (by decide)).trans ((hF2787.2.1 238 (by decide)).trans ((hF2777.2.1 238 (by decide)).trans ((hF2767.2.1 238 (by decide)).trans ((hF2755.2.1 238 (by decide)).trans ((hF2741.2.1 238 (by decide)).trans ((hF2727.2.1 238 (by decide)).trans (hF2713.2.1 238 (by decide)))))))))))) (((hF3003.2.1 239 (by decide)).trans ((hF2815.2.1 239 (by decide)).trans ((hF2801.2.1 239 (by decide)).trans ((hF2787.2.1 239 (by decide)).trans ((hF2777.2.1 239 (by decide)).trans ((hF2767.2.1 239 (by decide)).trans ((hF2755.2.1 239 (by decide)).trans ((hF2741.2.1 239 (by decide)).trans ((hF2727.2.1 239 (by decide)).trans (hF2713.2.1 239 (by decide)))))))))))) (((hF3003.1 231 17 (by decide)).trans ((hF2815.1 231 17 (by decide)).trans ((hF2801.1 231 17 (by decide)).trans ((hF2787.1 231 17 (by decide)).trans ((hF2777.1 231 17 (by decide)).trans ((hF2767.1 231 17 (by decide)).trans ((hF2755.1 231 17 (by decide)).trans ((hF2741.1 231 17 (by decide)).trans ((hF2727.1 231 17 (by decide)).trans (hF2713.1 231 17 (by decide)))))))))))))
                        obtain ⟨v3093, hv3093⟩ : ∃ v, gI g3079 231 17 = v := ⟨_, rfl⟩
                        have rv3093 := RgF.at hI3080.2.1 (p := 231) (b := 17) rfl
                        rw [hv3093] at rv3093
                        dsimp only at rv3093
                        have tv3093 := congrArg Int32.toInt hv3093
                        have x3094 := HI.eqI hI3080 (p := 231) (b := 17) (hv3093)
                        obtain ⟨v3095, hv3095⟩ : ∃ v, gI g3079 231 23 = v := ⟨_, rfl⟩
                        have rv3095 := RgF.at hI3080.2.1 (p := 231) (b := 23) rfl
                        rw [hv3095] at rv3095
                        dsimp only at rv3095
                        have tv3095 := congrArg Int32.toInt hv3095
                        have x3096 := HI.eqI hI3080 (p := 231) (b := 23) (hv3095)
                        have y3097 : (gI _ 231 23).toInt ≤ (gI _ 231 23).toInt := sp3086.1
                        have y3098 : (gI _ 231 17).toInt + (gI _ 231 23).toInt ≤ (gI _ 231 17).toInt + (gI _ 231 23).toInt := sp3086.2.1
                        have inn3099 := INN.cong inn2771 hI3002 (((hF3003.2.1 240 (by decide)).trans ((hF2815.2.1 240 (by decide)).trans ((hF2801.2.1 240 (by decide)).trans ((hF2787.2.1 240 (by decide)).trans (hF2777.2.1 240 (by decide))))))) (((hF3003.1 231 23 (by decide)).trans ((hF2815.1 231 23 (by decide)).trans ((hF2801.1 231 23 (by decide)).trans ((hF2787.1 231 23 (by decide)).trans (hF2777.1 231 23 (by decide)))))))
                        have pg3100 := PG.cong (hP.2.1 (by decide)) hI3002 (((hF3003.2.1 238 (by decide)).trans ((hF2815.2.1 238 (by decide)).trans ((hF2801.2.1 238 (by decide)).trans ((hF2787.2.1 238 (by decide)).trans ((hF2777.2.1 238 (by decide)).trans ((hF2767.2.1 238 (by decide)).trans ((hF2755.2.1 238 (by decide)).trans ((hF2741.2.1 238 (by decide)).trans ((hF2727.2.1 238 (by decide)).trans (hF2713.2.1 238 (by decide)))))))))))) (((hF3003.2.1 239 (by decide)).trans ((hF2815.2.1 239 (by decide)).trans ((hF2801.2.1 239 (by decide)).trans ((hF2787.2.1 239 (by decide)).trans ((hF2777.2.1 239 (by decide)).trans ((hF2767.2.1 239 (by decide)).trans ((hF2755.2.1 239 (by decide)).trans ((hF2741.2.1 239 (by decide)).trans ((hF2727.2.1 239 (by decide)).trans (hF2713.2.1 239 (by decide)))))))))))) (((hF3003.2.1 240 (by decide)).trans ((hF2815.2.1 240 (by decide)).trans ((hF2801.2.1 240 (by decide)).trans ((hF2787.2.1 240 (by decide)).trans ((hF2777.2.1 240 (by decide)).trans ((hF2767.2.1 240 (by decide)).trans ((hF2755.2.1 240 (by decide)).trans ((hF2741.2.1 240 (by decide)).trans ((hF2727.2.1 240 (by decide)).trans (hF2713.2.1 240 (by decide)))))))))))) (((hF3003.2.1 241 (by decide)).trans ((hF2815.2.1 241 (by decide)).trans ((hF2801.2.1 241 (by decide)).trans ((hF2787.2.1 241 (by decide)).trans ((hF2777.2.1 241 (by decide)).trans ((hF2767.2.1 241 (by decide)).trans ((hF2755.2.1 241 (by decide)).trans ((hF2741.2.1 241 (by decide)).trans ((hF2727.2.1 241 (by decide)).trans (hF2713.2.1 241 (by decide)))))))))))) (((hF3003.1 231 17 (by decide)).trans ((hF2815.1 231 17 (by decide)).trans ((hF2801.1 231 17 (by decide)).trans ((hF2787.1 231 17 (by decide)).trans ((hF2777.1 231 17 (by decide)).trans ((hF2767.1 231 17 (by decide)).trans ((hF2755.1 231 17 (by decide)).trans ((hF2741.1 231 17 (by decide)).trans ((hF2727.1 231 17 (by decide)).trans (hF2713.1 231 17 (by decide)))))))))))) (((hF3003.1 231 23 (by decide)).trans ((hF2815.1 231 23 (by decide)).trans ((hF2801.1 231 23 (by decide)).trans ((hF2787.1 231 23 (by decide)).trans ((hF2777.1 231 23 (by decide)).trans ((hF2767.1 231 23 (by decide)).trans ((hF2755.1 231 23 (by decide)).trans ((hF2741.1 231 23 (by decide)).trans ((hF2727.1 231 23 (by decide)).trans (hF2713.1 231 23 (by decide))))))))))))
                        have nsq3101 := INN.nsq inn3099 pg3100 (by omega)
                        have pg3102 := PG.cong (hP.2.1 (by decide)) hI3002 (((hF3003.2.1 238 (by decide)).trans ((hF2815.2.1 238 (by decide)).trans ((hF2801.2.1 238 (by decide)).trans ((hF2787.2.1 238 (by decide)).trans ((hF2777.2.1 238 (by decide)).trans ((hF2767.2.1 238 (by decide)).trans ((hF2755.2.1 238 (by decide)).trans ((hF2741.2.1 238 (by decide)).trans ((hF2727.2.1 238 (by decide)).trans (hF2713.2.1 238 (by decide)))))))))))) (((hF3003.2.1 239 (by decide)).trans ((hF2815.2.1 239 (by decide)).trans ((hF2801.2.1 239 (by decide)).trans ((hF2787.2.1 239 (by decide)).trans ((hF2777.2.1 239 (by decide)).trans ((hF2767.2.1 239 (by decide)).trans ((hF2755.2.1 239 (by decide)).trans ((hF2741.2.1 239 (by decide)).trans ((hF2727.2.1 239 (by decide)).trans (hF2713.2.1 239 (by decide)))))))))))) (((hF3003.2.1 240 (by decide)).trans ((hF2815.2.1 240 (by decide)).trans ((hF2801.2.1 240 (by decide)).trans ((hF2787.2.1 240 (by decide)).trans ((hF2777.2.1 240 (by decide)).trans ((hF2767.2.1 240 (by decide)).trans ((hF2755.2.1 240 (by decide)).trans ((hF2741.2.1 240 (by decide)).trans ((hF2727.2.1 240 (by decide)).trans (hF2713.2.1 240 (by decide)))))))))))) (((hF3003.2.1 241 (by decide)).trans ((hF2815.2.1 241 (by decide)).trans ((hF2801.2.1 241 (by decide)).trans ((hF2787.2.1 241 (by decide)).trans ((hF2777.2.1 241 (by decide)).trans ((hF2767.2.1 241 (by decide)).trans ((hF2755.2.1 241 (by decide)).trans ((hF2741.2.1 241 (by decide)).trans ((hF2727.2.1 241 (by decide)).trans (hF2713.2.1 241 (by decide)))))))))))) (((hF3003.1 231 17 (by decide)).trans ((hF2815.1 231 17 (by decide)).trans ((hF2801.1 231 17 (by decide)).trans ((hF2787.1 231 17 (by decide)).trans ((hF2777.1 231 17 (by decide)).trans ((hF2767.1 231 17 (by decide)).trans ((hF2755.1 231 17 (by decide)).trans ((hF2741.1 231 17 (by decide)).trans ((hF2727.1 231 17 (by decide)).trans (hF2713.1 231 17 (by decide)))))))))))) (((hF3003.1 231 23 (by decide)).trans ((hF2815.1 231 23 (by decide)).trans ((hF2801.1 231 23 (by decide)).trans ((hF2787.1 231 23 (by decide)).trans ((hF2777.1 231 23 (by decide)).trans ((hF2767.1 231 23 (by decide)).trans ((hF2755.1 231 23 (by decide)).trans ((hF2741.1 231 23 (by decide)).trans ((hF2727.1 231 23 (by decide)).trans (hF2713.1 231 23 (by decide))))))))))))
                        have inn3104 := INN.cong inn2771 hI3002 (((hF3003.2.1 240 (by decide)).trans ((hF2815.2.1 240 (by decide)).trans ((hF2801.2.1 240 (by decide)).trans ((hF2787.2.1 240 (by decide)).trans (hF2777.2.1 240 (by decide))))))) (((hF3003.1 231 23 (by decide)).trans ((hF2815.1 231 23 (by decide)).trans ((hF2801.1 231 23 (by decide)).trans ((hF2787.1 231 23 (by decide)).trans (hF2777.1 231 23 (by decide)))))))
                        have pg3103 := sp3086.2.2.1 _ _ _ pg3102
                        have nsq3106 := NSQ.le nsq3101 hI3080 sp3086.2.2.2.2.1 sp3086.1
                        refine At.enter rfl ?_
                        refine r_aload_n rfl ?_
                        refine r_iload_n rfl ?_
                        refine r_iconst 0 rfl ?_
                        have zv3108 : (26 : Int32).toInt = 26 := rfl
                        have zv3109 : (0 : Int32).toInt = 0 := rfl
                        refine r_callV 231 rfl [.ref 231, .int 26, .int 0] [] (Nat.le_of_ble_eq_true rfl) rfl (T_X11_push_231 _ hI3080 26 (by decide) 0 (by decide) (by omega)) ?_
                        rintro _ _ ⟨g3110, rfl, hI3111, hF3112, rfl, hr3114⟩
                        refine At.stn ?_
                        have hF3115 := Fr.tr hF3084 hF3112 rfl rfl
                        have x3120 := HI.eqI hI3111 (p := 231) (b := 17) (((hF3112.1 231 17 (by decide)).trans hv3093))
                        obtain ⟨v3121, hv3121⟩ : ∃ v, gI g3110 231 23 = v := ⟨_, rfl⟩
                        have rv3121 := RgF.at hI3111.2.1 (p := 231) (b := 23) rfl
                        rw [hv3121] at rv3121
                        dsimp only at rv3121
                        have tv3121 := congrArg Int32.toInt hv3121
                        have x3122 := HI.eqI hI3111 (p := 231) (b := 23) (hv3121)
                        have y3123 : (gI _ 231 23).toInt = (gI _ 231 23).toInt + 1 := hr3114.1
                        have pg3124 := PG.push (e' := 0) pg3103 hr3114 (hF3112.2.1 238 (by decide)) (hF3112.2.1 239 (by decide)) (hF3112.1 231 17 (by decide)) ⟨by omega, by omega⟩ (Or.inr nsq3106) (by omega) (by omega)
                        have nsq3125 := NSQ.push nsq3106 hr3114 (by omega)
                        refine At.enter rfl ?_
                        refine r_iconst 1 rfl ?_
                        refine r_ireti ?_
                        have x3126 := HI.eqI hI3111 (p := 231) (b := 8) ((((hF3112.1 231 8 (by decide)).trans ((hF3081.1 231 8 (by decide)).trans ((hF3003.1 231 8 (by decide)).trans ((hF2815.1 231 8 (by decide)).trans ((hF2801.1 231 8 (by decide)).trans ((hF2787.1 231 8 (by decide)).trans ((hF2777.1 231 8 (by decide)).trans ((hF2767.1 231 8 (by decide)).trans ((hF2755.1 231 8 (by decide)).trans ((hF2741.1 231 8 (by decide)).trans ((hF2727.1 231 8 (by decide)).trans (hF2713.1 231 8 (by decide))))))))))))).trans hv1))
                        have x3127 := HI.eqI hI3111 (p := 231) (b := 9) ((((hF3112.1 231 9 (by decide)).trans (hF3081.1 231 9 (by decide))).trans hv3014))
                        have x3128 := HI.eqI hI3111 (p := 231) (b := 10) ((((hF3112.1 231 10 (by decide)).trans (hF3081.1 231 10 (by decide))).trans hv3016))
                        have x3129 := HI.eqI hI3111 (p := 231) (b := 11) ((((hF3112.1 231 11 (by decide)).trans (hF3081.1 231 11 (by decide))).trans hv3018))
                        obtain ⟨v3130, hv3130⟩ : ∃ v, gJ g3001 231 12 = v := ⟨_, rfl⟩
                        have x3131 := HI.eqJ hI3111 (b := 12) ((((hF3112.2.2 231 12 (by decide)).trans (hF3081.2.2 231 12 (by decide))).trans hv3130))
                        have x3132 := HI.eqI hI3111 (p := 231) (b := 14) ((((hF3112.1 231 14 (by decide)).trans (hF3081.1 231 14 (by decide))).trans hv3020))
                        have x3135 := HI.eqI hI0 (p := 231) (b := 9) (hv2)
                        have w263137 := W26.cong c3027 hI3111 (((hF3112.1 231 9 (by decide)).trans (hF3081.1 231 9 (by decide)))) (((hF3112.1 231 10 (by decide)).trans (hF3081.1 231 10 (by decide)))) (((hF3112.1 231 11 (by decide)).trans (hF3081.1 231 11 (by decide)))) (((hF3112.2.2 231 12 (by decide)).trans (hF3081.2.2 231 12 (by decide))))
                        have x3139 := HI.eqI hI3111 (p := 231) (b := 13) ((((hF3112.1 231 13 (by decide)).trans (hF3081.1 231 13 (by decide))).trans hv3033))
                        obtain ⟨v3141, hv3141⟩ : ∃ v, gI g0 231 15 = v := ⟨_, rfl⟩
                        have rv3141 := RgF.at hI0.2.1 (p := 231) (b := 15) rfl
                        rw [hv3141] at rv3141
                        dsimp only at rv3141
                        have tv3141 := congrArg Int32.toInt hv3141
                        have x3142 := HI.eqI hI3111 (p := 231) (b := 15) ((((hF3112.1 231 15 (by decide)).trans ((hF3081.1 231 15 (by decide)).trans ((hF3003.1 231 15 (by decide)).trans ((hF2815.1 231 15 (by decide)).trans ((hF2801.1 231 15 (by decide)).trans ((hF2787.1 231 15 (by decide)).trans ((hF2777.1 231 15 (by decide)).trans ((hF2767.1 231 15 (by decide)).trans ((hF2755.1 231 15 (by decide)).trans ((hF2741.1 231 15 (by decide)).trans ((hF2727.1 231 15 (by decide)).trans (hF2713.1 231 15 (by decide))))))))))))).trans hv3141))
                        obtain ⟨v3143, hv3143⟩ : ∃ v, gI g0 231 20 = v := ⟨_, rfl⟩
                        have tv3143 := congrArg Int32.toInt hv3143
                        have x3144 := HI.eqI hI3111 (p := 231) (b := 20) ((((hF3112.1 231 20 (by decide)).trans ((hF3081.1 231 20 (by decide)).trans ((hF3003.1 231 20 (by decide)).trans ((hF2815.1 231 20 (by decide)).trans ((hF2801.1 231 20 (by decide)).trans ((hF2787.1 231 20 (by decide)).trans ((hF2777.1 231 20 (by decide)).trans ((hF2767.1 231 20 (by decide)).trans ((hF2755.1 231 20 (by decide)).trans ((hF2741.1 231 20 (by decide)).trans ((hF2727.1 231 20 (by decide)).trans (hF2713.1 231 20 (by decide))))))))))))).trans hv3143))
                        obtain ⟨v3146, hv3146⟩ : ∃ v, gI g0 231 24 = v := ⟨_, rfl⟩
                        have tv3146 := congrArg Int32.toInt hv3146
                        have x3147 := HI.eqI hI3111 (p := 231) (b := 24) ((((hF3112.1 231 24 (by decide)).trans ((hF3081.1 231 24 (by decide)).trans ((hF3003.1 231 24 (by decide)).trans ((hF2815.1 231 24 (by decide)).trans ((hF2801.1 231 24 (by decide)).trans ((hF2787.1 231 24 (by decide)).trans ((hF2777.1 231 24 (by decide)).trans ((hF2767.1 231 24 (by decide)).trans ((hF2755.1 231 24 (by decide)).trans ((hF2741.1 231 24 (by decide)).trans ((hF2727.1 231 24 (by decide)).trans (hF2713.1 231 24 (by decide))))))))))))).trans hv3146))
                        have x3149 := HI.eqI hI0 (p := 231) (b := 13) (hv3030)
                        have x3150 := HI.eqI hI0 (p := 231) (b := 14) (hv6)
                        have x3151 := HI.eqI hI0 (p := 231) (b := 15) (hv3141)
                        have x3152 := HI.eqI hI0 (p := 231) (b := 20) (hv3143)
                        have x3153 := HI.eqI hI0 (p := 231) (b := 23) (hv8)
                        have x3154 := HI.eqI hI0 (p := 231) (b := 24) (hv3146)
                        have x3156 := HI.eqI hI3080 (p := 231) (b := 24) ((((hF3081.1 231 24 (by decide)).trans ((hF3003.1 231 24 (by decide)).trans ((hF2815.1 231 24 (by decide)).trans ((hF2801.1 231 24 (by decide)).trans ((hF2787.1 231 24 (by decide)).trans ((hF2777.1 231 24 (by decide)).trans ((hF2767.1 231 24 (by decide)).trans ((hF2755.1 231 24 (by decide)).trans ((hF2741.1 231 24 (by decide)).trans ((hF2727.1 231 24 (by decide)).trans (hF2713.1 231 24 (by decide)))))))))))).trans hv3146))
                        have y3161 : (gI g3001 231 13).toInt = (gI g0 231 13).toInt := (mu3035.2.1 (show (gI g0 231 14).toInt = 0 from by omega) (by omega)).2.1
                        exact ⟨_, rfl, hI3111, hF3115, _, rfl, by decide, ⟨by omega, by omega, by omega, by omega, w263137, by omega, by omega, (fun hbad => ⟨by omega, (PT.mk (fun _ => pg3124) (fun h => False.elim (by omega)) (fun h h9 => False.elim (by omega)) (fun h => False.elim (by omega)))⟩), (fun hbad => by omega), (TKM.c hK3036 (((hF3112.2.1 236 (by decide)).trans (hF3081.2.1 236 (by decide)))) (((hF3112.1 231 8 (by decide)).trans (hF3081.1 231 8 (by decide)))) (((hF3112.1 231 9 (by decide)).trans (hF3081.1 231 9 (by decide)))) (((hF3112.1 231 10 (by decide)).trans (hF3081.1 231 10 (by decide)))) (((hF3112.1 231 11 (by decide)).trans (hF3081.1 231 11 (by decide)))) (((hF3112.2.2 231 12 (by decide)).trans (hF3081.2.2 231 12 (by decide))))), (fun c0 b hC h => M.cmp h (fun z i => HBT.b4 hC i inn2772 (by omega) (by omega)) (by rw [pI.c (((hF3112.1 231 9 (by decide)).trans (hF3081.1 231 9 (by decide))))]; exact (MUSTP.tok hK mu3035 (by omega) (by omega))) (by omega) inn2772 (by omega) cm2781 (by omega) sq3089 (by omega) (PUSH.fr2 hr3114 rfl rfl rfl rfl rfl rfl) (by omega) (pI.c (((hF3081.1 231 24 (by decide)).trans ((hF3003.1 231 24 (by decide)).trans ((hF2815.1 231 24 (by decide)).trans ((hF2801.1 231 24 (by decide)).trans ((hF2787.1 231 24 (by decide)).trans ((hF2777.1 231 24 (by decide)).trans ((hF2767.1 231 24 (by decide)).trans ((hF2755.1 231 24 (by decide)).trans ((hF2741.1 231 24 (by decide)).trans ((hF2727.1 231 24 (by decide)).trans (hF2713.1 231 24 (by decide)))))))))))))) (show (gI _ 231 24).toInt = (gI g3079 231 24).toInt from by omega) (show (gI _ 231 20).toInt = (gI g0 231 20).toInt from by omega) (show (gI _ 231 15).toInt = (gI g0 231 15).toInt from by omega) (fun _ => ⟨show (gI _ 231 14).toInt = 0 from by omega, show (gI _ 231 13).toInt = (gI g0 231 13).toInt from by omega⟩) (fun z => absurd (show (gI g0 231 14).toInt = 0 from by omega) z)), (fun h14 c0 b K hC h => MG_cmp h (PLG2_in h.1 hC inn2772 (by omega) (by omega)) (by rw [pI.c (((hF3112.1 231 9 (by decide)).trans (hF3081.1 231 9 (by decide))))]; exact (MUSTP.tok hK mu3035 (by omega) (by omega))) (by omega) inn2772 (by omega) cm2781 (by omega) sg3090 (by omega) sq3089 (PUSH.fr2 hr3114 rfl rfl rfl rfl rfl rfl) (by omega) rfl (SMG_mk ((hF3112.2.1 238 (by decide))) ((hF3112.2.1 239 (by decide))) ((hF3112.1 231 17 (by decide)))) (by show 0 ≤ (gI g3079 231 17).toInt; omega))⟩⟩
                  · have c2809_ : v2802.toInt ≠ 0 := en_k_eq_f c2809
                    have i3164 := BL.yes hb2808 (by omega)
                    refine At.enter rfl ?_
                    refine r_bipush 25 rfl ?_
                    refine r_goto ?_
                    refine At.enter rfl ?_
                    refine r_istore_n ([(2, .int 25), (3, .int v2768), (0, .ref 231), (1, .int a1)]) rfl ?_
                    refine r_aload_n rfl ?_
                    refine r_iload_n rfl ?_
                    refine r_bipush 26 rfl ?_
                    refine r_ict (by decide) ?_
                    refine At.enter rfl ?_
                    refine r_iconst 1 rfl ?_
                    refine r_goto ?_
                    refine At.enter rfl ?_
                    have x3165 := HI.eqI hI2800 (p := 231) (b := 8) ((((hF2801.1 231 8 (by decide)).trans ((hF2787.1 231 8 (by decide)).trans ((hF2777.1 231 8 (by decide)).trans ((hF2767.1 231 8 (by decide)).trans ((hF2755.1 231 8 (by decide)).trans ((hF2741.1 231 8 (by decide)).trans ((hF2727.1 231 8 (by decide)).trans (hF2713.1 231 8 (by decide))))))))).trans hv1))
                    have x3166 := HI.eqI hI2800 (p := 231) (b := 9) ((((hF2801.1 231 9 (by decide)).trans ((hF2787.1 231 9 (by decide)).trans ((hF2777.1 231 9 (by decide)).trans ((hF2767.1 231 9 (by decide)).trans ((hF2755.1 231 9 (by decide)).trans ((hF2741.1 231 9 (by decide)).trans ((hF2727.1 231 9 (by decide)).trans (hF2713.1 231 9 (by decide))))))))).trans hv2))
                    have x3167 := HI.eqI hI2800 (p := 231) (b := 10) ((((hF2801.1 231 10 (by decide)).trans ((hF2787.1 231 10 (by decide)).trans ((hF2777.1 231 10 (by decide)).trans ((hF2767.1 231 10 (by decide)).trans ((hF2755.1 231 10 (by decide)).trans ((hF2741.1 231 10 (by decide)).trans ((hF2727.1 231 10 (by decide)).trans (hF2713.1 231 10 (by decide))))))))).trans hv3))
                    have w263169 := W26.cong hW hI2800 (((hF2801.1 231 9 (by decide)).trans ((hF2787.1 231 9 (by decide)).trans ((hF2777.1 231 9 (by decide)).trans ((hF2767.1 231 9 (by decide)).trans ((hF2755.1 231 9 (by decide)).trans ((hF2741.1 231 9 (by decide)).trans ((hF2727.1 231 9 (by decide)).trans (hF2713.1 231 9 (by decide)))))))))) (((hF2801.1 231 10 (by decide)).trans ((hF2787.1 231 10 (by decide)).trans ((hF2777.1 231 10 (by decide)).trans ((hF2767.1 231 10 (by decide)).trans ((hF2755.1 231 10 (by decide)).trans ((hF2741.1 231 10 (by decide)).trans ((hF2727.1 231 10 (by decide)).trans (hF2713.1 231 10 (by decide)))))))))) (((hF2801.1 231 11 (by decide)).trans ((hF2787.1 231 11 (by decide)).trans ((hF2777.1 231 11 (by decide)).trans ((hF2767.1 231 11 (by decide)).trans ((hF2755.1 231 11 (by decide)).trans ((hF2741.1 231 11 (by decide)).trans ((hF2727.1 231 11 (by decide)).trans (hF2713.1 231 11 (by decide)))))))))) (((hF2801.2.2 231 12 (by decide)).trans ((hF2787.2.2 231 12 (by decide)).trans ((hF2777.2.2 231 12 (by decide)).trans ((hF2767.2.2 231 12 (by decide)).trans ((hF2755.2.2 231 12 (by decide)).trans ((hF2741.2.2 231 12 (by decide)).trans ((hF2727.2.2 231 12 (by decide)).trans (hF2713.2.2 231 12 (by decide))))))))))
                    have zv3170 : (1 : Int32).toInt = 1 := rfl
                    refine r_callV 213 rfl [.ref 231, .int 1] [] (Nat.le_of_ble_eq_true rfl) rfl (T_X11_must_231 _ hI2800 1 (by decide) (by refine ⟨?_, ?_, ?_, ?_⟩ <;> omega) w263169 (TKM.c hK (((hF2801.2.1 236 (by decide)).trans ((hF2787.2.1 236 (by decide)).trans ((hF2777.2.1 236 (by decide)).trans ((hF2767.2.1 236 (by decide)).trans ((hF2755.2.1 236 (by decide)).trans ((hF2741.2.1 236 (by decide)).trans ((hF2727.2.1 236 (by decide)).trans (hF2713.2.1 236 (by decide)))))))))) (((hF2801.1 231 8 (by decide)).trans ((hF2787.1 231 8 (by decide)).trans ((hF2777.1 231 8 (by decide)).trans ((hF2767.1 231 8 (by decide)).trans ((hF2755.1 231 8 (by decide)).trans ((hF2741.1 231 8 (by decide)).trans ((hF2727.1 231 8 (by decide)).trans (hF2713.1 231 8 (by decide)))))))))) (((hF2801.1 231 9 (by decide)).trans ((hF2787.1 231 9 (by decide)).trans ((hF2777.1 231 9 (by decide)).trans ((hF2767.1 231 9 (by decide)).trans ((hF2755.1 231 9 (by decide)).trans ((hF2741.1 231 9 (by decide)).trans ((hF2727.1 231 9 (by decide)).trans (hF2713.1 231 9 (by decide)))))))))) (((hF2801.1 231 10 (by decide)).trans ((hF2787.1 231 10 (by decide)).trans ((hF2777.1 231 10 (by decide)).trans ((hF2767.1 231 10 (by decide)).trans ((hF2755.1 231 10 (by decide)).trans ((hF2741.1 231 10 (by decide)).trans ((hF2727.1 231 10 (by decide)).trans (hF2713.1 231 10 (by decide)))))))))) (((hF2801.1 231 11 (by decide)).trans ((hF2787.1 231 11 (by decide)).trans ((hF2777.1 231 11 (by decide)).trans ((hF2767.1 231 11 (by decide)).trans ((hF2755.1 231 11 (by decide)).trans ((hF2741.1 231 11 (by decide)).trans ((hF2727.1 231 11 (by decide)).trans (hF2713.1 231 11 (by decide)))))))))) (((hF2801.2.2 231 12 (by decide)).trans ((hF2787.2.2 231 12 (by decide)).trans ((hF2777.2.2 231 12 (by decide)).trans ((hF2767.2.2 231 12 (by decide)).trans ((hF2755.2.2 231 12 (by decide)).trans ((hF2741.2.2 231 12 (by decide)).trans ((hF2727.2.2 231 12 (by decide)).trans (hF2713.2.2 231 12 (by decide)))))))))))) ?_
                    rintro _ _ ⟨g3171, rfl, hI3172, hF3173, rfl, hr3175⟩
                    refine At.stn ?_
                    have hF3176 := Fr.tr hF2804 hF3173 rfl rfl
                    have x3182 := HI.eqI hI2800 (p := 231) (b := 14) ((((hF2801.1 231 14 (by decide)).trans ((hF2787.1 231 14 (by decide)).trans ((hF2777.1 231 14 (by decide)).trans ((hF2767.1 231 14 (by decide)).trans ((hF2755.1 231 14 (by decide)).trans ((hF2741.1 231 14 (by decide)).trans ((hF2727.1 231 14 (by decide)).trans (hF2713.1 231 14 (by decide))))))))).trans hv6))
                    have x3183 := HI.eqI hI3172 (p := 231) (b := 8) ((((hF3173.1 231 8 (by decide)).trans ((hF2801.1 231 8 (by decide)).trans ((hF2787.1 231 8 (by decide)).trans ((hF2777.1 231 8 (by decide)).trans ((hF2767.1 231 8 (by decide)).trans ((hF2755.1 231 8 (by decide)).trans ((hF2741.1 231 8 (by decide)).trans ((hF2727.1 231 8 (by decide)).trans (hF2713.1 231 8 (by decide)))))))))).trans hv1))
                    obtain ⟨v3184, hv3184⟩ : ∃ v, gI g3171 231 9 = v := ⟨_, rfl⟩
                    have rv3184 := RgF.at hI3172.2.1 (p := 231) (b := 9) rfl
                    rw [hv3184] at rv3184
                    dsimp only at rv3184
                    have tv3184 := congrArg Int32.toInt hv3184
                    have x3185 := HI.eqI hI3172 (p := 231) (b := 9) (hv3184)
                    obtain ⟨v3186, hv3186⟩ : ∃ v, gI g3171 231 10 = v := ⟨_, rfl⟩
                    have rv3186 := RgF.at hI3172.2.1 (p := 231) (b := 10) rfl
                    rw [hv3186] at rv3186
                    dsimp only at rv3186
                    have tv3186 := congrArg Int32.toInt hv3186
                    have x3187 := HI.eqI hI3172 (p := 231) (b := 10) (hv3186)
                    obtain ⟨v3188, hv3188⟩ : ∃ v, gI g3171 231 11 = v := ⟨_, rfl⟩
                    have tv3188 := congrArg Int32.toInt hv3188
                    have x3189 := HI.eqI hI3172 (p := 231) (b := 11) (hv3188)
                    obtain ⟨v3190, hv3190⟩ : ∃ v, gI g3171 231 14 = v := ⟨_, rfl⟩
                    have tv3190 := congrArg Int32.toInt hv3190
                    have x3191 := HI.eqI hI3172 (p := 231) (b := 14) (hv3190)
                    obtain ⟨c3192, c3193, c3194, c3195, c3196, c3197, c3198, c3199⟩ := hr3175
                    obtain ⟨v3200, hv3200⟩ : ∃ v, gI g0 231 13 = v := ⟨_, rfl⟩
                    have tv3200 := congrArg Int32.toInt hv3200
                    have x3201 := HI.eqI hI2800 (p := 231) (b := 13) ((((hF2801.1 231 13 (by decide)).trans ((hF2787.1 231 13 (by decide)).trans ((hF2777.1 231 13 (by decide)).trans ((hF2767.1 231 13 (by decide)).trans ((hF2755.1 231 13 (by decide)).trans ((hF2741.1 231 13 (by decide)).trans ((hF2727.1 231 13 (by decide)).trans (hF2713.1 231 13 (by decide))))))))).trans hv3200))
                    obtain ⟨v3203, hv3203⟩ : ∃ v, gI g3171 231 13 = v := ⟨_, rfl⟩
                    have tv3203 := congrArg Int32.toInt hv3203
                    have x3204 := HI.eqI hI3172 (p := 231) (b := 13) (hv3203)
                    unfold MUSTP at c3199
                    rw [TM.c (((hF2801.2.1 236 (by decide)).trans ((hF2787.2.1 236 (by decide)).trans ((hF2777.2.1 236 (by decide)).trans ((hF2767.2.1 236 (by decide)).trans ((hF2755.2.1 236 (by decide)).trans ((hF2741.2.1 236 (by decide)).trans ((hF2727.2.1 236 (by decide)).trans (hF2713.2.1 236 (by decide)))))))))), nM.c (((hF2801.1 231 8 (by decide)).trans ((hF2787.1 231 8 (by decide)).trans ((hF2777.1 231 8 (by decide)).trans ((hF2767.1 231 8 (by decide)).trans ((hF2755.1 231 8 (by decide)).trans ((hF2741.1 231 8 (by decide)).trans ((hF2727.1 231 8 (by decide)).trans (hF2713.1 231 8 (by decide)))))))))), pI.c (b := 14) (((hF2801.1 231 14 (by decide)).trans ((hF2787.1 231 14 (by decide)).trans ((hF2777.1 231 14 (by decide)).trans ((hF2767.1 231 14 (by decide)).trans ((hF2755.1 231 14 (by decide)).trans ((hF2741.1 231 14 (by decide)).trans ((hF2727.1 231 14 (by decide)).trans (hF2713.1 231 14 (by decide)))))))))), pI.c (b := 13) (((hF2801.1 231 13 (by decide)).trans ((hF2787.1 231 13 (by decide)).trans ((hF2777.1 231 13 (by decide)).trans ((hF2767.1 231 13 (by decide)).trans ((hF2755.1 231 13 (by decide)).trans ((hF2741.1 231 13 (by decide)).trans ((hF2727.1 231 13 (by decide)).trans (hF2713.1 231 13 (by decide)))))))))), pI.c (b := 10) (((hF2801.1 231 10 (by decide)).trans ((hF2787.1 231 10 (by decide)).trans ((hF2777.1 231 10 (by decide)).trans ((hF2767.1 231 10 (by decide)).trans ((hF2755.1 231 10 (by decide)).trans ((hF2741.1 231 10 (by decide)).trans ((hF2727.1 231 10 (by decide)).trans (hF2713.1 231 10 (by decide)))))))))), pI.c (b := 9) (((hF2801.1 231 9 (by decide)).trans ((hF2787.1 231 9 (by decide)).trans ((hF2777.1 231 9 (by decide)).trans ((hF2767.1 231 9 (by decide)).trans ((hF2755.1 231 9 (by decide)).trans ((hF2741.1 231 9 (by decide)).trans ((hF2727.1 231 9 (by decide)).trans (hF2713.1 231 9 (by decide))))))))))] at c3199
                    have mu3205 : MUSTP g0 g3171 1 := c3199
                    clear c3199
                    have hK3206 := mu3205.1
                    refine At.enter rfl ?_
                    refine r_aload_n rfl ?_
                    refine q_getI (Sh.int hI3172.1 kx_231 rfl) v3190 hv3190 ?_
                    refine r_ifs 220 rfl (fun c3207 => ?_) (fun c3207 => ?_)
                    · have c3207_ : v3190.toInt ≠ 0 := en_k_ne_t c3207
                      clear c3198
                      obtain ⟨i3208, i3209⟩ := MUSTP.y mu3205 (by omega) (by omega)
                      refine At.enter rfl ?_
                      refine r_iconst 1 rfl ?_
                      refine r_ireti ?_
                      obtain ⟨v3214, hv3214⟩ : ∃ v, gJ g3171 231 12 = v := ⟨_, rfl⟩
                      have x3215 := HI.eqJ hI3172 (b := 12) (hv3214)
                      have x3217 := HI.eqI hI3172 (p := 231) (b := 17) ((((hF3173.1 231 17 (by decide)).trans ((hF2801.1 231 17 (by decide)).trans ((hF2787.1 231 17 (by decide)).trans ((hF2777.1 231 17 (by decide)).trans ((hF2767.1 231 17 (by decide)).trans ((hF2755.1 231 17 (by decide)).trans ((hF2741.1 231 17 (by decide)).trans ((hF2727.1 231 17 (by decide)).trans (hF2713.1 231 17 (by decide)))))))))).trans hv7))
                      have x3218 := HI.eqI hI3172 (p := 231) (b := 23) ((((hF3173.1 231 23 (by decide)).trans ((hF2801.1 231 23 (by decide)).trans ((hF2787.1 231 23 (by decide)).trans ((hF2777.1 231 23 (by decide)).trans ((hF2767.1 231 23 (by decide)).trans ((hF2755.1 231 23 (by decide)).trans ((hF2741.1 231 23 (by decide)).trans ((hF2727.1 231 23 (by decide)).trans (hF2713.1 231 23 (by decide)))))))))).trans hv8))
                      have x3219 := HI.eqI hI0 (p := 231) (b := 9) (hv2)
                      obtain ⟨v3224, hv3224⟩ : ∃ v, gI g0 231 15 = v := ⟨_, rfl⟩
                      have rv3224 := RgF.at hI0.2.1 (p := 231) (b := 15) rfl
                      rw [hv3224] at rv3224
                      dsimp only at rv3224
                      have tv3224 := congrArg Int32.toInt hv3224
                      have x3225 := HI.eqI hI3172 (p := 231) (b := 15) ((((hF3173.1 231 15 (by decide)).trans ((hF2801.1 231 15 (by decide)).trans ((hF2787.1 231 15 (by decide)).trans ((hF2777.1 231 15 (by decide)).trans ((hF2767.1 231 15 (by decide)).trans ((hF2755.1 231 15 (by decide)).trans ((hF2741.1 231 15 (by decide)).trans ((hF2727.1 231 15 (by decide)).trans (hF2713.1 231 15 (by decide)))))))))).trans hv3224))
                      obtain ⟨v3226, hv3226⟩ : ∃ v, gI g0 231 20 = v := ⟨_, rfl⟩
                      have tv3226 := congrArg Int32.toInt hv3226
                      have x3227 := HI.eqI hI3172 (p := 231) (b := 20) ((((hF3173.1 231 20 (by decide)).trans ((hF2801.1 231 20 (by decide)).trans ((hF2787.1 231 20 (by decide)).trans ((hF2777.1 231 20 (by decide)).trans ((hF2767.1 231 20 (by decide)).trans ((hF2755.1 231 20 (by decide)).trans ((hF2741.1 231 20 (by decide)).trans ((hF2727.1 231 20 (by decide)).trans (hF2713.1 231 20 (by decide)))))))))).trans hv3226))
                      obtain ⟨v3229, hv3229⟩ : ∃ v, gI g0 231 24 = v := ⟨_, rfl⟩
                      have tv3229 := congrArg Int32.toInt hv3229
                      have x3230 := HI.eqI hI3172 (p := 231) (b := 24) ((((hF3173.1 231 24 (by decide)).trans ((hF2801.1 231 24 (by decide)).trans ((hF2787.1 231 24 (by decide)).trans ((hF2777.1 231 24 (by decide)).trans ((hF2767.1 231 24 (by decide)).trans ((hF2755.1 231 24 (by decide)).trans ((hF2741.1 231 24 (by decide)).trans ((hF2727.1 231 24 (by decide)).trans (hF2713.1 231 24 (by decide)))))))))).trans hv3229))
                      have x3232 := HI.eqI hI0 (p := 231) (b := 13) (hv3200)
                      have x3233 := HI.eqI hI0 (p := 231) (b := 14) (hv6)
                      have x3234 := HI.eqI hI0 (p := 231) (b := 15) (hv3224)
                      have x3235 := HI.eqI hI0 (p := 231) (b := 20) (hv3226)
                      have x3236 := HI.eqI hI0 (p := 231) (b := 23) (hv8)
                      have x3237 := HI.eqI hI0 (p := 231) (b := 24) (hv3229)
                      have mf3238 := mu3205.2.2.1 (show (gI g0 231 14).toInt = 0 from by omega) (by omega)
                      have y3239 : (gI _ 231 14).toInt ≠ 0 := mf3238.1
                      have y3240 : (gI _ 231 13).toInt = (gI g0 231 9).toInt := mf3238.2
                      exact ⟨_, rfl, hI3172, hF3176, _, rfl, by decide, ⟨by omega, by omega, by omega, by omega, c3197, by omega, by omega, (fun hbad => ⟨by omega, (PT.mk (fun h => False.elim (by omega)) (fun h => False.elim (by omega)) (fun h h9 => False.elim (by omega)) (fun h => False.elim (by omega)))⟩), (fun hbad => by omega), hK3206, (fun c0 b hC h => M.cmpF h (fun z i => HBT.b4 hC i inn2772 (by omega) (by omega)) (TKM.some hK).choose_spec (by omega) (by omega) inn2772 (by omega) cm2781 (by omega) (fun _ => ⟨show (gI _ 231 14).toInt ≠ 0 from by omega, show (gI _ 231 13).toInt = (gI g0 231 9).toInt from by omega⟩) (fun z => absurd (show (gI g0 231 14).toInt = 0 from by omega) z) _), (fun h14 c0 b K hC h => absurd (show (gI _ 231 14).toInt = 0 from h14) (by omega))⟩⟩
                    · have c3207_ : v3190.toInt = 0 := en_k_ne_f c3207
                      obtain ⟨i3241, i3242, i3243⟩ := c3198 (by omega)
                      obtain ⟨i3244, i3245⟩ := MUSTP.z mu3205 (by omega) (by omega)
                      refine At.enter rfl ?_
                      refine r_aload_n rfl ?_
                      refine r_iconst 5 rfl ?_
                      have x3246 := HI.eqI hI3172 (p := 231) (b := 17) ((((hF3173.1 231 17 (by decide)).trans ((hF2801.1 231 17 (by decide)).trans ((hF2787.1 231 17 (by decide)).trans ((hF2777.1 231 17 (by decide)).trans ((hF2767.1 231 17 (by decide)).trans ((hF2755.1 231 17 (by decide)).trans ((hF2741.1 231 17 (by decide)).trans ((hF2727.1 231 17 (by decide)).trans (hF2713.1 231 17 (by decide)))))))))).trans hv7))
                      have x3247 := HI.eqI hI3172 (p := 231) (b := 23) ((((hF3173.1 231 23 (by decide)).trans ((hF2801.1 231 23 (by decide)).trans ((hF2787.1 231 23 (by decide)).trans ((hF2777.1 231 23 (by decide)).trans ((hF2767.1 231 23 (by decide)).trans ((hF2755.1 231 23 (by decide)).trans ((hF2741.1 231 23 (by decide)).trans ((hF2727.1 231 23 (by decide)).trans (hF2713.1 231 23 (by decide)))))))))).trans hv8))
                      have zv3248 : (5 : Int32).toInt = 5 := rfl
                      refine r_callV 225 rfl [.ref 231, .int 5] [] (Nat.le_of_ble_eq_true rfl) rfl (T_X11_settle_231 _ hI3172 5 (by decide) (by omega)) ?_
                      rintro _ _ ⟨g3249, rfl, hI3250, hF3251, rfl, hr3253⟩
                      refine At.stn ?_
                      have hF3254 := Fr.tr hF3176 hF3251 rfl rfl
                      obtain ⟨sp3256, sq3257, sg3258⟩ := hr3253
                      have sq3259 := SETQ.fr sq3257 (((hF3173.2.1 240 (by decide)).trans ((hF2801.2.1 240 (by decide)).trans ((hF2787.2.1 240 (by decide)).trans ((hF2777.2.1 240 (by decide)).trans ((hF2767.2.1 240 (by decide)).trans ((hF2755.2.1 240 (by decide)).trans ((hF2741.2.1 240 (by decide)).trans ((hF2727.2.1 240 (by decide)).trans (hF2713.2.1 240 (by decide))))))))))) (((hF3173.1 231 23 (by decide)).trans ((hF2801.1 231 23 (by decide)).trans ((hF2787.1 231 23 (by decide)).trans ((hF2777.1 231 23 (by decide)).trans ((hF2767.1 231 23 (by decide)).trans ((hF2755.1 231 23 (by decide)).trans ((hF2741.1 231 23 (by decide)).trans ((hF2727.1 231 23 (by decide)).trans (hF2713.1 231 23 (by decide)))))))))))
                      have sg3260 := SETG_fr sg3258 (((hF3173.2.1 240 (by decide)).trans ((hF2801.2.1 240 (by decide)).trans ((hF2787.2.1 240 (by decide)).trans ((hF2777.2.1 240 (by decide)).trans ((hF2767.2.1 240 (by decide)).trans ((hF2755.2.1 240 (by decide)).trans ((hF2741.2.1 240 (by decide)).trans ((hF2727.2.1 240 (by decide)).trans (hF2713.2.1 240 (by decide))))))))))) (((hF3173.2.1 241 (by decide)).trans ((hF2801.2.1 241 (by decide)).trans ((hF2787.2.1 241 (by decide)).trans ((hF2777.2.1 241 (by decide)).trans ((hF2767.2.1 241 (by decide)).trans ((hF2755.2.1 241 (by decide)).trans ((hF2741.2.1 241 (by decide)).trans ((hF2727.2.1 241 (by decide)).trans (hF2713.2.1 241 (by decide))))))))))) (((hF3173.1 231 23 (by decide)).trans ((hF2801.1 231 23 (by decide)).trans ((hF2787.1 231 23 (by decide)).trans ((hF2777.1 231 23 (by decide)).trans ((hF2767.1 231 23 (by decide)).trans ((hF2755.1 231 23 (by decide)).trans ((hF2741.1 231 23 (by decide)).trans ((hF2727.1 231 23 (by decide)).trans (hF2713.1 231 23 (by decide))))))))))) (SMG_mk (((hF3173.2.1 238 (by decide)).trans ((hF2801.2.1 238 (by decide)).trans ((hF2787.2.1 238 (by decide)).trans ((hF2777.2.1 238 (by decide)).trans ((hF2767.2.1 238 (by decide)).trans ((hF2755.2.1 238 (by decide)).trans ((hF2741.2.1 238 (by decide)).trans ((hF2727.2.1 238 (by decide)).trans (hF2713.2.1 238 (by decide))))))))))) (((hF3173.2.1 239 (by decide)).trans ((hF2801.2.1 239 (by decide)).trans ((hF2787.2.1 239 (by decide)).trans ((hF2777.2.1 239 (by decide)).trans ((hF2767.2.1 239 (by decide)).trans ((hF2755.2.1 239 (by decide)).trans ((hF2741.2.1 239 (by decide)).trans ((hF2727.2.1 239 (by decide)).trans (hF2713.2.1 239 (by decide))))))))))) (((hF3173.1 231 17 (by decide)).trans ((hF2801.1 231 17 (by decide)).trans ((hF2787.1 231 17 (by decide)).trans ((hF2777.1 231 17 (by decide)).trans ((hF2767.1 231 17 (by decide)).trans ((hF2755.1 231 17 (by decide)).trans ((hF2741.1 231 17 (by decide)).trans ((hF2727.1 231 17 (by decide)).trans (hF2713.1 231 17 (by decide))))))))))))
                      obtain ⟨v3263, hv3263⟩ : ∃ v, gI g3249 231 17 = v := ⟨_, rfl⟩
                      have rv3263 := RgF.at hI3250.2.1 (p := 231) (b := 17) rfl
                      rw [hv3263] at rv3263
                      dsimp only at rv3263
                      have tv3263 := congrArg Int32.toInt hv3263
                      have x3264 := HI.eqI hI3250 (p := 231) (b := 17) (hv3263)
                      obtain ⟨v3265, hv3265⟩ : ∃ v, gI g3249 231 23 = v := ⟨_, rfl⟩
                      have rv3265 := RgF.at hI3250.2.1 (p := 231) (b := 23) rfl
                      rw [hv3265] at rv3265
                      dsimp only at rv3265
                      have tv3265 := congrArg Int32.toInt hv3265
                      have x3266 := HI.eqI hI3250 (p := 231) (b := 23) (hv3265)
                      have y3267 : (gI _ 231 23).toInt ≤ (gI _ 231 23).toInt := sp3256.1
                      have y3268 : (gI _ 231 17).toInt + (gI _ 231 23).toInt ≤ (gI _ 231 17).toInt + (gI _ 231 23).toInt := sp3256.2.1
                      have inn3269 := INN.cong inn2771 hI3172 (((hF3173.2.1 240 (by decide)).trans ((hF2801.2.1 240 (by decide)).trans ((hF2787.2.1 240 (by decide)).trans (hF2777.2.1 240 (by decide)))))) (((hF3173.1 231 23 (by decide)).trans ((hF2801.1 231 23 (by decide)).trans ((hF2787.1 231 23 (by decide)).trans (hF2777.1 231 23 (by decide))))))
                      have pg3270 := PG.cong (hP.2.1 (by decide)) hI3172 (((hF3173.2.1 238 (by decide)).trans ((hF2801.2.1 238 (by decide)).trans ((hF2787.2.1 238 (by decide)).trans ((hF2777.2.1 238 (by decide)).trans ((hF2767.2.1 238 (by decide)).trans ((hF2755.2.1 238 (by decide)).trans ((hF2741.2.1 238 (by decide)).trans ((hF2727.2.1 238 (by decide)).trans (hF2713.2.1 238 (by decide))))))))))) (((hF3173.2.1 239 (by decide)).trans ((hF2801.2.1 239 (by decide)).trans ((hF2787.2.1 239 (by decide)).trans ((hF2777.2.1 239 (by decide)).trans ((hF2767.2.1 239 (by decide)).trans ((hF2755.2.1 239 (by decide)).trans ((hF2741.2.1 239 (by decide)).trans ((hF2727.2.1 239 (by decide)).trans (hF2713.2.1 239 (by decide))))))))))) (((hF3173.2.1 240 (by decide)).trans ((hF2801.2.1 240 (by decide)).trans ((hF2787.2.1 240 (by decide)).trans ((hF2777.2.1 240 (by decide)).trans ((hF2767.2.1 240 (by decide)).trans ((hF2755.2.1 240 (by decide)).trans ((hF2741.2.1 240 (by decide)).trans ((hF2727.2.1 240 (by decide)).trans (hF2713.2.1 240 (by decide))))))))))) (((hF3173.2.1 241 (by decide)).trans ((hF2801.2.1 241 (by decide)).trans ((hF2787.2.1 241 (by decide)).trans ((hF2777.2.1 241 (by decide)).trans ((hF2767.2.1 241 (by decide)).trans ((hF2755.2.1 241 (by decide)).trans ((hF2741.2.1 241 (by decide)).trans ((hF2727.2.1 241 (by decide)).trans (hF2713.2.1 241 (by decide))))))))))) (((hF3173.1 231 17 (by decide)).trans ((hF2801.1 231 17 (by decide)).trans ((hF2787.1 231 17 (by decide)).trans ((hF2777.1 231 17 (by decide)).trans ((hF2767.1 231 17 (by decide)).trans ((hF2755.1 231 17 (by decide)).trans ((hF2741.1 231 17 (by decide)).trans ((hF2727.1 231 17 (by decide)).trans (hF2713.1 231 17 (by decide))))))))))) (((hF3173.1 231 23 (by decide)).trans ((hF2801.1 231 23 (by decide)).trans ((hF2787.1 231 23 (by decide)).trans ((hF2777.1 231 23 (by decide)).trans ((hF2767.1 231 23 (by decide)).trans ((hF2755.1 231 23 (by decide)).trans ((hF2741.1 231 23 (by decide)).trans ((hF2727.1 231 23 (by decide)).trans (hF2713.1 231 23 (by decide)))))))))))
                      have nsq3271 := INN.nsq inn3269 pg3270 (by omega)
                      have pg3272 := PG.cong (hP.2.1 (by decide)) hI3172 (((hF3173.2.1 238 (by decide)).trans ((hF2801.2.1 238 (by decide)).trans ((hF2787.2.1 238 (by decide)).trans ((hF2777.2.1 238 (by decide)).trans ((hF2767.2.1 238 (by decide)).trans ((hF2755.2.1 238 (by decide)).trans ((hF2741.2.1 238 (by decide)).trans ((hF2727.2.1 238 (by decide)).trans (hF2713.2.1 238 (by decide))))))))))) (((hF3173.2.1 239 (by decide)).trans ((hF2801.2.1 239 (by decide)).trans ((hF2787.2.1 239 (by decide)).trans ((hF2777.2.1 239 (by decide)).trans ((hF2767.2.1 239 (by decide)).trans ((hF2755.2.1 239 (by decide)).trans ((hF2741.2.1 239 (by decide)).trans ((hF2727.2.1 239 (by decide)).trans (hF2713.2.1 239 (by decide))))))))))) (((hF3173.2.1 240 (by decide)).trans ((hF2801.2.1 240 (by decide)).trans ((hF2787.2.1 240 (by decide)).trans ((hF2777.2.1 240 (by decide)).trans ((hF2767.2.1 240 (by decide)).trans ((hF2755.2.1 240 (by decide)).trans ((hF2741.2.1 240 (by decide)).trans ((hF2727.2.1 240 (by decide)).trans (hF2713.2.1 240 (by decide))))))))))) (((hF3173.2.1 241 (by decide)).trans ((hF2801.2.1 241 (by decide)).trans ((hF2787.2.1 241 (by decide)).trans ((hF2777.2.1 241 (by decide)).trans ((hF2767.2.1 241 (by decide)).trans ((hF2755.2.1 241 (by decide)).trans ((hF2741.2.1 241 (by decide)).trans ((hF2727.2.1 241 (by decide)).trans (hF2713.2.1 241 (by decide))))))))))) (((hF3173.1 231 17 (by decide)).trans ((hF2801.1 231 17 (by decide)).trans ((hF2787.1 231 17 (by decide)).trans ((hF2777.1 231 17 (by decide)).trans ((hF2767.1 231 17 (by decide)).trans ((hF2755.1 231 17 (by decide)).trans ((hF2741.1 231 17 (by decide)).trans ((hF2727.1 231 17 (by decide)).trans (hF2713.1 231 17 (by decide))))))))))) (((hF3173.1 231 23 (by decide)).trans ((hF2801.1 231 23 (by decide)).trans ((hF2787.1 231 23 (by decide)).trans ((hF2777.1 231 23 (by decide)).trans ((hF2767.1 231 23 (by decide)).trans ((hF2755.1 231 23 (by decide)).trans ((hF2741.1 231 23 (by decide)).trans ((hF2727.1 231 23 (by decide)).trans (hF2713.1 231 23 (by decide)))))))))))
                      have inn3274 := INN.cong inn2771 hI3172 (((hF3173.2.1 240 (by decide)).trans ((hF2801.2.1 240 (by decide)).trans ((hF2787.2.1 240 (by decide)).trans (hF2777.2.1 240 (by decide)))))) (((hF3173.1 231 23 (by decide)).trans ((hF2801.1 231 23 (by decide)).trans ((hF2787.1 231 23 (by decide)).trans (hF2777.1 231 23 (by decide))))))
                      have pg3273 := sp3256.2.2.1 _ _ _ pg3272
                      have nsq3276 := NSQ.le nsq3271 hI3250 sp3256.2.2.2.2.1 sp3256.1
                      refine At.enter rfl ?_
                      refine r_aload_n rfl ?_
                      refine r_iload_n rfl ?_
                      refine r_iconst 0 rfl ?_
                      have zv3278 : (25 : Int32).toInt = 25 := rfl
                      have zv3279 : (0 : Int32).toInt = 0 := rfl
                      refine r_callV 231 rfl [.ref 231, .int 25, .int 0] [] (Nat.le_of_ble_eq_true rfl) rfl (T_X11_push_231 _ hI3250 25 (by decide) 0 (by decide) (by omega)) ?_
                      rintro _ _ ⟨g3280, rfl, hI3281, hF3282, rfl, hr3284⟩
                      refine At.stn ?_
                      have hF3285 := Fr.tr hF3254 hF3282 rfl rfl
                      have x3290 := HI.eqI hI3281 (p := 231) (b := 17) (((hF3282.1 231 17 (by decide)).trans hv3263))
                      obtain ⟨v3291, hv3291⟩ : ∃ v, gI g3280 231 23 = v := ⟨_, rfl⟩
                      have rv3291 := RgF.at hI3281.2.1 (p := 231) (b := 23) rfl
                      rw [hv3291] at rv3291
                      dsimp only at rv3291
                      have tv3291 := congrArg Int32.toInt hv3291
                      have x3292 := HI.eqI hI3281 (p := 231) (b := 23) (hv3291)
                      have y3293 : (gI _ 231 23).toInt = (gI _ 231 23).toInt + 1 := hr3284.1
                      have pg3294 := PG.push (e' := 0) pg3273 hr3284 (hF3282.2.1 238 (by decide)) (hF3282.2.1 239 (by decide)) (hF3282.1 231 17 (by decide)) ⟨by omega, by omega⟩ (Or.inr nsq3276) (by omega) (by omega)
                      have nsq3295 := NSQ.push nsq3276 hr3284 (by omega)
                      refine At.enter rfl ?_
                      refine r_iconst 1 rfl ?_
                      refine r_ireti ?_
                      have x3296 := HI.eqI hI3281 (p := 231) (b := 8) ((((hF3282.1 231 8 (by decide)).trans ((hF3251.1 231 8 (by decide)).trans ((hF3173.1 231 8 (by decide)).trans ((hF2801.1 231 8 (by decide)).trans ((hF2787.1 231 8 (by decide)).trans ((hF2777.1 231 8 (by decide)).trans ((hF2767.1 231 8 (by decide)).trans ((hF2755.1 231 8 (by decide)).trans ((hF2741.1 231 8 (by decide)).trans ((hF2727.1 231 8 (by decide)).trans (hF2713.1 231 8 (by decide)))))))))))).trans hv1))
                      have x3297 := HI.eqI hI3281 (p := 231) (b := 9) ((((hF3282.1 231 9 (by decide)).trans (hF3251.1 231 9 (by decide))).trans hv3184))
                      have x3298 := HI.eqI hI3281 (p := 231) (b := 10) ((((hF3282.1 231 10 (by decide)).trans (hF3251.1 231 10 (by decide))).trans hv3186))
                      have x3299 := HI.eqI hI3281 (p := 231) (b := 11) ((((hF3282.1 231 11 (by decide)).trans (hF3251.1 231 11 (by decide))).trans hv3188))
                      obtain ⟨v3300, hv3300⟩ : ∃ v, gJ g3171 231 12 = v := ⟨_, rfl⟩
                      have x3301 := HI.eqJ hI3281 (b := 12) ((((hF3282.2.2 231 12 (by decide)).trans (hF3251.2.2 231 12 (by decide))).trans hv3300))
                      have x3302 := HI.eqI hI3281 (p := 231) (b := 14) ((((hF3282.1 231 14 (by decide)).trans (hF3251.1 231 14 (by decide))).trans hv3190))
                      have x3305 := HI.eqI hI0 (p := 231) (b := 9) (hv2)
                      have w263307 := W26.cong c3197 hI3281 (((hF3282.1 231 9 (by decide)).trans (hF3251.1 231 9 (by decide)))) (((hF3282.1 231 10 (by decide)).trans (hF3251.1 231 10 (by decide)))) (((hF3282.1 231 11 (by decide)).trans (hF3251.1 231 11 (by decide)))) (((hF3282.2.2 231 12 (by decide)).trans (hF3251.2.2 231 12 (by decide))))
                      have x3309 := HI.eqI hI3281 (p := 231) (b := 13) ((((hF3282.1 231 13 (by decide)).trans (hF3251.1 231 13 (by decide))).trans hv3203))
                      obtain ⟨v3311, hv3311⟩ : ∃ v, gI g0 231 15 = v := ⟨_, rfl⟩
                      have rv3311 := RgF.at hI0.2.1 (p := 231) (b := 15) rfl
                      rw [hv3311] at rv3311
                      dsimp only at rv3311
                      have tv3311 := congrArg Int32.toInt hv3311
                      have x3312 := HI.eqI hI3281 (p := 231) (b := 15) ((((hF3282.1 231 15 (by decide)).trans ((hF3251.1 231 15 (by decide)).trans ((hF3173.1 231 15 (by decide)).trans ((hF2801.1 231 15 (by decide)).trans ((hF2787.1 231 15 (by decide)).trans ((hF2777.1 231 15 (by decide)).trans ((hF2767.1 231 15 (by decide)).trans ((hF2755.1 231 15 (by decide)).trans ((hF2741.1 231 15 (by decide)).trans ((hF2727.1 231 15 (by decide)).trans (hF2713.1 231 15 (by decide)))))))))))).trans hv3311))
                      obtain ⟨v3313, hv3313⟩ : ∃ v, gI g0 231 20 = v := ⟨_, rfl⟩
                      have tv3313 := congrArg Int32.toInt hv3313
                      have x3314 := HI.eqI hI3281 (p := 231) (b := 20) ((((hF3282.1 231 20 (by decide)).trans ((hF3251.1 231 20 (by decide)).trans ((hF3173.1 231 20 (by decide)).trans ((hF2801.1 231 20 (by decide)).trans ((hF2787.1 231 20 (by decide)).trans ((hF2777.1 231 20 (by decide)).trans ((hF2767.1 231 20 (by decide)).trans ((hF2755.1 231 20 (by decide)).trans ((hF2741.1 231 20 (by decide)).trans ((hF2727.1 231 20 (by decide)).trans (hF2713.1 231 20 (by decide)))))))))))).trans hv3313))
                      obtain ⟨v3316, hv3316⟩ : ∃ v, gI g0 231 24 = v := ⟨_, rfl⟩
                      have tv3316 := congrArg Int32.toInt hv3316
                      have x3317 := HI.eqI hI3281 (p := 231) (b := 24) ((((hF3282.1 231 24 (by decide)).trans ((hF3251.1 231 24 (by decide)).trans ((hF3173.1 231 24 (by decide)).trans ((hF2801.1 231 24 (by decide)).trans ((hF2787.1 231 24 (by decide)).trans ((hF2777.1 231 24 (by decide)).trans ((hF2767.1 231 24 (by decide)).trans ((hF2755.1 231 24 (by decide)).trans ((hF2741.1 231 24 (by decide)).trans ((hF2727.1 231 24 (by decide)).trans (hF2713.1 231 24 (by decide)))))))))))).trans hv3316))
                      have x3319 := HI.eqI hI0 (p := 231) (b := 13) (hv3200)
                      have x3320 := HI.eqI hI0 (p := 231) (b := 14) (hv6)
                      have x3321 := HI.eqI hI0 (p := 231) (b := 15) (hv3311)
                      have x3322 := HI.eqI hI0 (p := 231) (b := 20) (hv3313)
                      have x3323 := HI.eqI hI0 (p := 231) (b := 23) (hv8)
                      have x3324 := HI.eqI hI0 (p := 231) (b := 24) (hv3316)
                      have x3326 := HI.eqI hI3250 (p := 231) (b := 24) ((((hF3251.1 231 24 (by decide)).trans ((hF3173.1 231 24 (by decide)).trans ((hF2801.1 231 24 (by decide)).trans ((hF2787.1 231 24 (by decide)).trans ((hF2777.1 231 24 (by decide)).trans ((hF2767.1 231 24 (by decide)).trans ((hF2755.1 231 24 (by decide)).trans ((hF2741.1 231 24 (by decide)).trans ((hF2727.1 231 24 (by decide)).trans (hF2713.1 231 24 (by decide))))))))))).trans hv3316))
                      have y3331 : (gI g3171 231 13).toInt = (gI g0 231 13).toInt := (mu3205.2.1 (show (gI g0 231 14).toInt = 0 from by omega) (by omega)).2.1
                      exact ⟨_, rfl, hI3281, hF3285, _, rfl, by decide, ⟨by omega, by omega, by omega, by omega, w263307, by omega, by omega, (fun hbad => ⟨by omega, (PT.mk (fun _ => pg3294) (fun h => False.elim (by omega)) (fun h h9 => False.elim (by omega)) (fun h => False.elim (by omega)))⟩), (fun hbad => by omega), (TKM.c hK3206 (((hF3282.2.1 236 (by decide)).trans (hF3251.2.1 236 (by decide)))) (((hF3282.1 231 8 (by decide)).trans (hF3251.1 231 8 (by decide)))) (((hF3282.1 231 9 (by decide)).trans (hF3251.1 231 9 (by decide)))) (((hF3282.1 231 10 (by decide)).trans (hF3251.1 231 10 (by decide)))) (((hF3282.1 231 11 (by decide)).trans (hF3251.1 231 11 (by decide)))) (((hF3282.2.2 231 12 (by decide)).trans (hF3251.2.2 231 12 (by decide))))), (fun c0 b hC h => M.cmp h (fun z i => HBT.b4 hC i inn2772 (by omega) (by omega)) (by rw [pI.c (((hF3282.1 231 9 (by decide)).trans (hF3251.1 231 9 (by decide))))]; exact (MUSTP.tok hK mu3205 (by omega) (by omega))) (by omega) inn2772 (by omega) cm2781 (by omega) sq3259 (by omega) (PUSH.fr2 hr3284 rfl rfl rfl rfl rfl rfl) (by omega) (pI.c (((hF3251.1 231 24 (by decide)).trans ((hF3173.1 231 24 (by decide)).trans ((hF2801.1 231 24 (by decide)).trans ((hF2787.1 231 24 (by decide)).trans ((hF2777.1 231 24 (by decide)).trans ((hF2767.1 231 24 (by decide)).trans ((hF2755.1 231 24 (by decide)).trans ((hF2741.1 231 24 (by decide)).trans ((hF2727.1 231 24 (by decide)).trans (hF2713.1 231 24 (by decide))))))))))))) (show (gI _ 231 24).toInt = (gI g3249 231 24).toInt from by omega) (show (gI _ 231 20).toInt = (gI g0 231 20).toInt from by omega) (show (gI _ 231 15).toInt = (gI g0 231 15).toInt from by omega) (fun _ => ⟨show (gI _ 231 14).toInt = 0 from by omega, show (gI _ 231 13).toInt = (gI g0 231 13).toInt from by omega⟩) (fun z => absurd (show (gI g0 231 14).toInt = 0 from by omega) z)), (fun h14 c0 b K hC h => MG_cmp h (PLG2_in h.1 hC inn2772 (by omega) (by omega)) (by rw [pI.c (((hF3282.1 231 9 (by decide)).trans (hF3251.1 231 9 (by decide))))]; exact (MUSTP.tok hK mu3205 (by omega) (by omega))) (by omega) inn2772 (by omega) cm2781 (by omega) sg3260 (by omega) sq3259 (PUSH.fr2 hr3284 rfl rfl rfl rfl rfl rfl) (by omega) rfl (SMG_mk ((hF3282.2.1 238 (by decide))) ((hF3282.2.1 239 (by decide))) ((hF3282.1 231 17 (by decide)))) (by show 0 ≤ (gI g3249 231 17).toInt; omega))⟩⟩
                · have c2795_ : v2788.toInt ≠ 0 := en_k_eq_f c2795
                  have i3334 := BL.yes hb2794 (by omega)
                  refine At.enter rfl ?_
                  refine r_bipush 24 rfl ?_
                  refine r_goto ?_
                  refine At.enter rfl ?_
                  refine r_istore_n ([(2, .int 24), (3, .int v2768), (0, .ref 231), (1, .int a1)]) rfl ?_
                  refine r_aload_n rfl ?_
                  refine r_iload_n rfl ?_
                  refine r_bipush 26 rfl ?_
                  refine r_ict (by decide) ?_
                  refine At.enter rfl ?_
                  refine r_iconst 1 rfl ?_
                  refine r_goto ?_
                  refine At.enter rfl ?_
                  have x3335 := HI.eqI hI2786 (p := 231) (b := 8) ((((hF2787.1 231 8 (by decide)).trans ((hF2777.1 231 8 (by decide)).trans ((hF2767.1 231 8 (by decide)).trans ((hF2755.1 231 8 (by decide)).trans ((hF2741.1 231 8 (by decide)).trans ((hF2727.1 231 8 (by decide)).trans (hF2713.1 231 8 (by decide)))))))).trans hv1))
                  have x3336 := HI.eqI hI2786 (p := 231) (b := 9) ((((hF2787.1 231 9 (by decide)).trans ((hF2777.1 231 9 (by decide)).trans ((hF2767.1 231 9 (by decide)).trans ((hF2755.1 231 9 (by decide)).trans ((hF2741.1 231 9 (by decide)).trans ((hF2727.1 231 9 (by decide)).trans (hF2713.1 231 9 (by decide)))))))).trans hv2))
                  have x3337 := HI.eqI hI2786 (p := 231) (b := 10) ((((hF2787.1 231 10 (by decide)).trans ((hF2777.1 231 10 (by decide)).trans ((hF2767.1 231 10 (by decide)).trans ((hF2755.1 231 10 (by decide)).trans ((hF2741.1 231 10 (by decide)).trans ((hF2727.1 231 10 (by decide)).trans (hF2713.1 231 10 (by decide)))))))).trans hv3))
                  have w263339 := W26.cong hW hI2786 (((hF2787.1 231 9 (by decide)).trans ((hF2777.1 231 9 (by decide)).trans ((hF2767.1 231 9 (by decide)).trans ((hF2755.1 231 9 (by decide)).trans ((hF2741.1 231 9 (by decide)).trans ((hF2727.1 231 9 (by decide)).trans (hF2713.1 231 9 (by decide))))))))) (((hF2787.1 231 10 (by decide)).trans ((hF2777.1 231 10 (by decide)).trans ((hF2767.1 231 10 (by decide)).trans ((hF2755.1 231 10 (by decide)).trans ((hF2741.1 231 10 (by decide)).trans ((hF2727.1 231 10 (by decide)).trans (hF2713.1 231 10 (by decide))))))))) (((hF2787.1 231 11 (by decide)).trans ((hF2777.1 231 11 (by decide)).trans ((hF2767.1 231 11 (by decide)).trans ((hF2755.1 231 11 (by decide)).trans ((hF2741.1 231 11 (by decide)).trans ((hF2727.1 231 11 (by decide)).trans (hF2713.1 231 11 (by decide))))))))) (((hF2787.2.2 231 12 (by decide)).trans ((hF2777.2.2 231 12 (by decide)).trans ((hF2767.2.2 231 12 (by decide)).trans ((hF2755.2.2 231 12 (by decide)).trans ((hF2741.2.2 231 12 (by decide)).trans ((hF2727.2.2 231 12 (by decide)).trans (hF2713.2.2 231 12 (by decide)))))))))
                  have zv3340 : (1 : Int32).toInt = 1 := rfl
                  refine r_callV 213 rfl [.ref 231, .int 1] [] (Nat.le_of_ble_eq_true rfl) rfl (T_X11_must_231 _ hI2786 1 (by decide) (by refine ⟨?_, ?_, ?_, ?_⟩ <;> omega) w263339 (TKM.c hK (((hF2787.2.1 236 (by decide)).trans ((hF2777.2.1 236 (by decide)).trans ((hF2767.2.1 236 (by decide)).trans ((hF2755.2.1 236 (by decide)).trans ((hF2741.2.1 236 (by decide)).trans ((hF2727.2.1 236 (by decide)).trans (hF2713.2.1 236 (by decide))))))))) (((hF2787.1 231 8 (by decide)).trans ((hF2777.1 231 8 (by decide)).trans ((hF2767.1 231 8 (by decide)).trans ((hF2755.1 231 8 (by decide)).trans ((hF2741.1 231 8 (by decide)).trans ((hF2727.1 231 8 (by decide)).trans (hF2713.1 231 8 (by decide))))))))) (((hF2787.1 231 9 (by decide)).trans ((hF2777.1 231 9 (by decide)).trans ((hF2767.1 231 9 (by decide)).trans ((hF2755.1 231 9 (by decide)).trans ((hF2741.1 231 9 (by decide)).trans ((hF2727.1 231 9 (by decide)).trans (hF2713.1 231 9 (by decide))))))))) (((hF2787.1 231 10 (by decide)).trans ((hF2777.1 231 10 (by decide)).trans ((hF2767.1 231 10 (by decide)).trans ((hF2755.1 231 10 (by decide)).trans ((hF2741.1 231 10 (by decide)).trans ((hF2727.1 231 10 (by decide)).trans (hF2713.1 231 10 (by decide))))))))) (((hF2787.1 231 11 (by decide)).trans ((hF2777.1 231 11 (by decide)).trans ((hF2767.1 231 11 (by decide)).trans ((hF2755.1 231 11 (by decide)).trans ((hF2741.1 231 11 (by decide)).trans ((hF2727.1 231 11 (by decide)).trans (hF2713.1 231 11 (by decide))))))))) (((hF2787.2.2 231 12 (by decide)).trans ((hF2777.2.2 231 12 (by decide)).trans ((hF2767.2.2 231 12 (by decide)).trans ((hF2755.2.2 231 12 (by decide)).trans ((hF2741.2.2 231 12 (by decide)).trans ((hF2727.2.2 231 12 (by decide)).trans (hF2713.2.2 231 12 (by decide))))))))))) ?_
                  rintro _ _ ⟨g3341, rfl, hI3342, hF3343, rfl, hr3345⟩
                  refine At.stn ?_
                  have hF3346 := Fr.tr hF2790 hF3343 rfl rfl
                  have x3352 := HI.eqI hI2786 (p := 231) (b := 14) ((((hF2787.1 231 14 (by decide)).trans ((hF2777.1 231 14 (by decide)).trans ((hF2767.1 231 14 (by decide)).trans ((hF2755.1 231 14 (by decide)).trans ((hF2741.1 231 14 (by decide)).trans ((hF2727.1 231 14 (by decide)).trans (hF2713.1 231 14 (by decide)))))))).trans hv6))
                  have x3353 := HI.eqI hI3342 (p := 231) (b := 8) ((((hF3343.1 231 8 (by decide)).trans ((hF2787.1 231 8 (by decide)).trans ((hF2777.1 231 8 (by decide)).trans ((hF2767.1 231 8 (by decide)).trans ((hF2755.1 231 8 (by decide)).trans ((hF2741.1 231 8 (by decide)).trans ((hF2727.1 231 8 (by decide)).trans (hF2713.1 231 8 (by decide))))))))).trans hv1))
                  obtain ⟨v3354, hv3354⟩ : ∃ v, gI g3341 231 9 = v := ⟨_, rfl⟩
                  have rv3354 := RgF.at hI3342.2.1 (p := 231) (b := 9) rfl
                  rw [hv3354] at rv3354
                  dsimp only at rv3354
                  have tv3354 := congrArg Int32.toInt hv3354
                  have x3355 := HI.eqI hI3342 (p := 231) (b := 9) (hv3354)
                  obtain ⟨v3356, hv3356⟩ : ∃ v, gI g3341 231 10 = v := ⟨_, rfl⟩
                  have rv3356 := RgF.at hI3342.2.1 (p := 231) (b := 10) rfl
                  rw [hv3356] at rv3356
                  dsimp only at rv3356
                  have tv3356 := congrArg Int32.toInt hv3356
                  have x3357 := HI.eqI hI3342 (p := 231) (b := 10) (hv3356)
                  obtain ⟨v3358, hv3358⟩ : ∃ v, gI g3341 231 11 = v := ⟨_, rfl⟩
                  have tv3358 := congrArg Int32.toInt hv3358
                  have x3359 := HI.eqI hI3342 (p := 231) (b := 11) (hv3358)
                  obtain ⟨v3360, hv3360⟩ : ∃ v, gI g3341 231 14 = v := ⟨_, rfl⟩
                  have tv3360 := congrArg Int32.toInt hv3360
                  have x3361 := HI.eqI hI3342 (p := 231) (b := 14) (hv3360)
                  obtain ⟨c3362, c3363, c3364, c3365, c3366, c3367, c3368, c3369⟩ := hr3345
                  obtain ⟨v3370, hv3370⟩ : ∃ v, gI g0 231 13 = v := ⟨_, rfl⟩
                  have tv3370 := congrArg Int32.toInt hv3370
                  have x3371 := HI.eqI hI2786 (p := 231) (b := 13) ((((hF2787.1 231 13 (by decide)).trans ((hF2777.1 231 13 (by decide)).trans ((hF2767.1 231 13 (by decide)).trans ((hF2755.1 231 13 (by decide)).trans ((hF2741.1 231 13 (by decide)).trans ((hF2727.1 231 13 (by decide)).trans (hF2713.1 231 13 (by decide)))))))).trans hv3370))
                  obtain ⟨v3373, hv3373⟩ : ∃ v, gI g3341 231 13 = v := ⟨_, rfl⟩
                  have tv3373 := congrArg Int32.toInt hv3373
                  have x3374 := HI.eqI hI3342 (p := 231) (b := 13) (hv3373)
                  unfold MUSTP at c3369
                  rw [TM.c (((hF2787.2.1 236 (by decide)).trans ((hF2777.2.1 236 (by decide)).trans ((hF2767.2.1 236 (by decide)).trans ((hF2755.2.1 236 (by decide)).trans ((hF2741.2.1 236 (by decide)).trans ((hF2727.2.1 236 (by decide)).trans (hF2713.2.1 236 (by decide))))))))), nM.c (((hF2787.1 231 8 (by decide)).trans ((hF2777.1 231 8 (by decide)).trans ((hF2767.1 231 8 (by decide)).trans ((hF2755.1 231 8 (by decide)).trans ((hF2741.1 231 8 (by decide)).trans ((hF2727.1 231 8 (by decide)).trans (hF2713.1 231 8 (by decide))))))))), pI.c (b := 14) (((hF2787.1 231 14 (by decide)).trans ((hF2777.1 231 14 (by decide)).trans ((hF2767.1 231 14 (by decide)).trans ((hF2755.1 231 14 (by decide)).trans ((hF2741.1 231 14 (by decide)).trans ((hF2727.1 231 14 (by decide)).trans (hF2713.1 231 14 (by decide))))))))), pI.c (b := 13) (((hF2787.1 231 13 (by decide)).trans ((hF2777.1 231 13 (by decide)).trans ((hF2767.1 231 13 (by decide)).trans ((hF2755.1 231 13 (by decide)).trans ((hF2741.1 231 13 (by decide)).trans ((hF2727.1 231 13 (by decide)).trans (hF2713.1 231 13 (by decide))))))))), pI.c (b := 10) (((hF2787.1 231 10 (by decide)).trans ((hF2777.1 231 10 (by decide)).trans ((hF2767.1 231 10 (by decide)).trans ((hF2755.1 231 10 (by decide)).trans ((hF2741.1 231 10 (by decide)).trans ((hF2727.1 231 10 (by decide)).trans (hF2713.1 231 10 (by decide))))))))), pI.c (b := 9) (((hF2787.1 231 9 (by decide)).trans ((hF2777.1 231 9 (by decide)).trans ((hF2767.1 231 9 (by decide)).trans ((hF2755.1 231 9 (by decide)).trans ((hF2741.1 231 9 (by decide)).trans ((hF2727.1 231 9 (by decide)).trans (hF2713.1 231 9 (by decide)))))))))] at c3369
                  have mu3375 : MUSTP g0 g3341 1 := c3369
                  clear c3369
                  have hK3376 := mu3375.1
                  refine At.enter rfl ?_
                  refine r_aload_n rfl ?_
                  refine q_getI (Sh.int hI3342.1 kx_231 rfl) v3360 hv3360 ?_
                  refine r_ifs 220 rfl (fun c3377 => ?_) (fun c3377 => ?_)
                  · have c3377_ : v3360.toInt ≠ 0 := en_k_ne_t c3377
                    clear c3368
                    obtain ⟨i3378, i3379⟩ := MUSTP.y mu3375 (by omega) (by omega)
                    refine At.enter rfl ?_
                    refine r_iconst 1 rfl ?_
                    refine r_ireti ?_
                    obtain ⟨v3384, hv3384⟩ : ∃ v, gJ g3341 231 12 = v := ⟨_, rfl⟩
                    have x3385 := HI.eqJ hI3342 (b := 12) (hv3384)
                    have x3387 := HI.eqI hI3342 (p := 231) (b := 17) ((((hF3343.1 231 17 (by decide)).trans ((hF2787.1 231 17 (by decide)).trans ((hF2777.1 231 17 (by decide)).trans ((hF2767.1 231 17 (by decide)).trans ((hF2755.1 231 17 (by decide)).trans ((hF2741.1 231 17 (by decide)).trans ((hF2727.1 231 17 (by decide)).trans (hF2713.1 231 17 (by decide))))))))).trans hv7))
                    have x3388 := HI.eqI hI3342 (p := 231) (b := 23) ((((hF3343.1 231 23 (by decide)).trans ((hF2787.1 231 23 (by decide)).trans ((hF2777.1 231 23 (by decide)).trans ((hF2767.1 231 23 (by decide)).trans ((hF2755.1 231 23 (by decide)).trans ((hF2741.1 231 23 (by decide)).trans ((hF2727.1 231 23 (by decide)).trans (hF2713.1 231 23 (by decide))))))))).trans hv8))
                    have x3389 := HI.eqI hI0 (p := 231) (b := 9) (hv2)
                    obtain ⟨v3394, hv3394⟩ : ∃ v, gI g0 231 15 = v := ⟨_, rfl⟩
                    have rv3394 := RgF.at hI0.2.1 (p := 231) (b := 15) rfl
                    rw [hv3394] at rv3394
                    dsimp only at rv3394
                    have tv3394 := congrArg Int32.toInt hv3394
                    have x3395 := HI.eqI hI3342 (p := 231) (b := 15) ((((hF3343.1 231 15 (by decide)).trans ((hF2787.1 231 15 (by decide)).trans ((hF2777.1 231 15 (by decide)).trans ((hF2767.1 231 15 (by decide)).trans ((hF2755.1 231 15 (by decide)).trans ((hF2741.1 231 15 (by decide)).trans ((hF2727.1 231 15 (by decide)).trans (hF2713.1 231 15 (by decide))))))))).trans hv3394))
                    obtain ⟨v3396, hv3396⟩ : ∃ v, gI g0 231 20 = v := ⟨_, rfl⟩
                    have tv3396 := congrArg Int32.toInt hv3396
                    have x3397 := HI.eqI hI3342 (p := 231) (b := 20) ((((hF3343.1 231 20 (by decide)).trans ((hF2787.1 231 20 (by decide)).trans ((hF2777.1 231 20 (by decide)).trans ((hF2767.1 231 20 (by decide)).trans ((hF2755.1 231 20 (by decide)).trans ((hF2741.1 231 20 (by decide)).trans ((hF2727.1 231 20 (by decide)).trans (hF2713.1 231 20 (by decide))))))))).trans hv3396))
                    obtain ⟨v3399, hv3399⟩ : ∃ v, gI g0 231 24 = v := ⟨_, rfl⟩
                    have tv3399 := congrArg Int32.toInt hv3399
                    have x3400 := HI.eqI hI3342 (p := 231) (b := 24) ((((hF3343.1 231 24 (by decide)).trans ((hF2787.1 231 24 (by decide)).trans ((hF2777.1 231 24 (by decide)).trans ((hF2767.1 231 24 (by decide)).trans ((hF2755.1 231 24 (by decide)).trans ((hF2741.1 231 24 (by decide)).trans ((hF2727.1 231 24 (by decide)).trans (hF2713.1 231 24 (by decide))))))))).trans hv3399))
                    have x3402 := HI.eqI hI0 (p := 231) (b := 13) (hv3370)
                    have x3403 := HI.eqI hI0 (p := 231) (b := 14) (hv6)
                    have x3404 := HI.eqI hI0 (p := 231) (b := 15) (hv3394)
                    have x3405 := HI.eqI hI0 (p := 231) (b := 20) (hv3396)
                    have x3406 := HI.eqI hI0 (p := 231) (b := 23) (hv8)
                    have x3407 := HI.eqI hI0 (p := 231) (b := 24) (hv3399)
                    have mf3408 := mu3375.2.2.1 (show (gI g0 231 14).toInt = 0 from by omega) (by omega)
                    have y3409 : (gI _ 231 14).toInt ≠ 0 := mf3408.1
                    have y3410 : (gI _ 231 13).toInt = (gI g0 231 9).toInt := mf3408.2
                    exact ⟨_, rfl, hI3342, hF3346, _, rfl, by decide, ⟨by omega, by omega, by omega, by omega, c3367, by omega, by omega, (fun hbad => ⟨by omega, (PT.mk (fun h => False.elim (by omega)) (fun h => False.elim (by omega)) (fun h h9 => False.elim (by omega)) (fun h => False.elim (by omega)))⟩), (fun hbad => by omega), hK3376, (fun c0 b hC h => M.cmpF h (fun z i => HBT.b4 hC i inn2772 (by omega) (by omega)) (TKM.some hK).choose_spec (by omega) (by omega) inn2772 (by omega) cm2781 (by omega) (fun _ => ⟨show (gI _ 231 14).toInt ≠ 0 from by omega, show (gI _ 231 13).toInt = (gI g0 231 9).toInt from by omega⟩) (fun z => absurd (show (gI g0 231 14).toInt = 0 from by omega) z) _), (fun h14 c0 b K hC h => absurd (show (gI _ 231 14).toInt = 0 from h14) (by omega))⟩⟩
                  · have c3377_ : v3360.toInt = 0 := en_k_ne_f c3377
                    obtain ⟨i3411, i3412, i3413⟩ := c3368 (by omega)
                    obtain ⟨i3414, i3415⟩ := MUSTP.z mu3375 (by omega) (by omega)
                    refine At.enter rfl ?_
                    refine r_aload_n rfl ?_
                    refine r_iconst 5 rfl ?_
                    have x3416 := HI.eqI hI3342 (p := 231) (b := 17) ((((hF3343.1 231 17 (by decide)).trans ((hF2787.1 231 17 (by decide)).trans ((hF2777.1 231 17 (by decide)).trans ((hF2767.1 231 17 (by decide)).trans ((hF2755.1 231 17 (by decide)).trans ((hF2741.1 231 17 (by decide)).trans ((hF2727.1 231 17 (by decide)).trans (hF2713.1 231 17 (by decide))))))))).trans hv7))
                    have x3417 := HI.eqI hI3342 (p := 231) (b := 23) ((((hF3343.1 231 23 (by decide)).trans ((hF2787.1 231 23 (by decide)).trans ((hF2777.1 231 23 (by decide)).trans ((hF2767.1 231 23 (by decide)).trans ((hF2755.1 231 23 (by decide)).trans ((hF2741.1 231 23 (by decide)).trans ((hF2727.1 231 23 (by decide)).trans (hF2713.1 231 23 (by decide))))))))).trans hv8))
                    have zv3418 : (5 : Int32).toInt = 5 := rfl
                    refine r_callV 225 rfl [.ref 231, .int 5] [] (Nat.le_of_ble_eq_true rfl) rfl (T_X11_settle_231 _ hI3342 5 (by decide) (by omega)) ?_
                    rintro _ _ ⟨g3419, rfl, hI3420, hF3421, rfl, hr3423⟩
                    refine At.stn ?_
                    have hF3424 := Fr.tr hF3346 hF3421 rfl rfl
                    obtain ⟨sp3426, sq3427, sg3428⟩ := hr3423
                    have sq3429 := SETQ.fr sq3427 (((hF3343.2.1 240 (by decide)).trans ((hF2787.2.1 240 (by decide)).trans ((hF2777.2.1 240 (by decide)).trans ((hF2767.2.1 240 (by decide)).trans ((hF2755.2.1 240 (by decide)).trans ((hF2741.2.1 240 (by decide)).trans ((hF2727.2.1 240 (by decide)).trans (hF2713.2.1 240 (by decide)))))))))) (((hF3343.1 231 23 (by decide)).trans ((hF2787.1 231 23 (by decide)).trans ((hF2777.1 231 23 (by decide)).trans ((hF2767.1 231 23 (by decide)).trans ((hF2755.1 231 23 (by decide)).trans ((hF2741.1 231 23 (by decide)).trans ((hF2727.1 231 23 (by decide)).trans (hF2713.1 231 23 (by decide))))))))))
                    have sg3430 := SETG_fr sg3428 (((hF3343.2.1 240 (by decide)).trans ((hF2787.2.1 240 (by decide)).trans ((hF2777.2.1 240 (by decide)).trans ((hF2767.2.1 240 (by decide)).trans ((hF2755.2.1 240 (by decide)).trans ((hF2741.2.1 240 (by decide)).trans ((hF2727.2.1 240 (by decide)).trans (hF2713.2.1 240 (by decide)))))))))) (((hF3343.2.1 241 (by decide)).trans ((hF2787.2.1 241 (by decide)).trans ((hF2777.2.1 241 (by decide)).trans ((hF2767.2.1 241 (by decide)).trans ((hF2755.2.1 241 (by decide)).trans ((hF2741.2.1 241 (by decide)).trans ((hF2727.2.1 241 (by decide)).trans (hF2713.2.1 241 (by decide)))))))))) (((hF3343.1 231 23 (by decide)).trans ((hF2787.1 231 23 (by decide)).trans ((hF2777.1 231 23 (by decide)).trans ((hF2767.1 231 23 (by decide)).trans ((hF2755.1 231 23 (by decide)).trans ((hF2741.1 231 23 (by decide)).trans ((hF2727.1 231 23 (by decide)).trans (hF2713.1 231 23 (by decide)))))))))) (SMG_mk (((hF3343.2.1 238 (by decide)).trans ((hF2787.2.1 238 (by decide)).trans ((hF2777.2.1 238 (by decide)).trans ((hF2767.2.1 238 (by decide)).trans ((hF2755.2.1 238 (by decide)).trans ((hF2741.2.1 238 (by decide)).trans ((hF2727.2.1 238 (by decide)).trans (hF2713.2.1 238 (by decide)))))))))) (((hF3343.2.1 239 (by decide)).trans ((hF2787.2.1 239 (by decide)).trans ((hF2777.2.1 239 (by decide)).trans ((hF2767.2.1 239 (by decide)).trans ((hF2755.2.1 239 (by decide)).trans ((hF2741.2.1 239 (by decide)).trans ((hF2727.2.1 239 (by decide)).trans (hF2713.2.1 239 (by decide)))))))))) (((hF3343.1 231 17 (by decide)).trans ((hF2787.1 231 17 (by decide)).trans ((hF2777.1 231 17 (by decide)).trans ((hF2767.1 231 17 (by decide)).trans ((hF2755.1 231 17 (by decide)).trans ((hF2741.1 231 17 (by decide)).trans ((hF2727.1 231 17 (by decide)).trans (hF2713.1 231 17 (by decide)))))))))))
                    obtain ⟨v3433, hv3433⟩ : ∃ v, gI g3419 231 17 = v := ⟨_, rfl⟩
                    have rv3433 := RgF.at hI3420.2.1 (p := 231) (b := 17) rfl
                    rw [hv3433] at rv3433
                    dsimp only at rv3433
                    have tv3433 := congrArg Int32.toInt hv3433
                    have x3434 := HI.eqI hI3420 (p := 231) (b := 17) (hv3433)
                    obtain ⟨v3435, hv3435⟩ : ∃ v, gI g3419 231 23 = v := ⟨_, rfl⟩
                    have rv3435 := RgF.at hI3420.2.1 (p := 231) (b := 23) rfl
                    rw [hv3435] at rv3435
                    dsimp only at rv3435
                    have tv3435 := congrArg Int32.toInt hv3435
                    have x3436 := HI.eqI hI3420 (p := 231) (b := 23) (hv3435)
                    have y3437 : (gI _ 231 23).toInt ≤ (gI _ 231 23).toInt := sp3426.1
                    have y3438 : (gI _ 231 17).toInt + (gI _ 231 23).toInt ≤ (gI _ 231 17).toInt + (gI _ 231 23).toInt := sp3426.2.1
                    have inn3439 := INN.cong inn2771 hI3342 (((hF3343.2.1 240 (by decide)).trans ((hF2787.2.1 240 (by decide)).trans (hF2777.2.1 240 (by decide))))) (((hF3343.1 231 23 (by decide)).trans ((hF2787.1 231 23 (by decide)).trans (hF2777.1 231 23 (by decide)))))
                    have pg3440 := PG.cong (hP.2.1 (by decide)) hI3342 (((hF3343.2.1 238 (by decide)).trans ((hF2787.2.1 238 (by decide)).trans ((hF2777.2.1 238 (by decide)).trans ((hF2767.2.1 238 (by decide)).trans ((hF2755.2.1 238 (by decide)).trans ((hF2741.2.1 238 (by decide)).trans ((hF2727.2.1 238 (by decide)).trans (hF2713.2.1 238 (by decide)))))))))) (((hF3343.2.1 239 (by decide)).trans ((hF2787.2.1 239 (by decide)).trans ((hF2777.2.1 239 (by decide)).trans ((hF2767.2.1 239 (by decide)).trans ((hF2755.2.1 239 (by decide)).trans ((hF2741.2.1 239 (by decide)).trans ((hF2727.2.1 239 (by decide)).trans (hF2713.2.1 239 (by decide)))))))))) (((hF3343.2.1 240 (by decide)).trans ((hF2787.2.1 240 (by decide)).trans ((hF2777.2.1 240 (by decide)).trans ((hF2767.2.1 240 (by decide)).trans ((hF2755.2.1 240 (by decide)).trans ((hF2741.2.1 240 (by decide)).trans ((hF2727.2.1 240 (by decide)).trans (hF2713.2.1 240 (by decide)))))))))) (((hF3343.2.1 241 (by decide)).trans ((hF2787.2.1 241 (by decide)).trans ((hF2777.2.1 241 (by decide)).trans ((hF2767.2.1 241 (by decide)).trans ((hF2755.2.1 241 (by decide)).trans ((hF2741.2.1 241 (by decide)).trans ((hF2727.2.1 241 (by decide)).trans (hF2713.2.1 241 (by decide)))))))))) (((hF3343.1 231 17 (by decide)).trans ((hF2787.1 231 17 (by decide)).trans ((hF2777.1 231 17 (by decide)).trans ((hF2767.1 231 17 (by decide)).trans ((hF2755.1 231 17 (by decide)).trans ((hF2741.1 231 17 (by decide)).trans ((hF2727.1 231 17 (by decide)).trans (hF2713.1 231 17 (by decide)))))))))) (((hF3343.1 231 23 (by decide)).trans ((hF2787.1 231 23 (by decide)).trans ((hF2777.1 231 23 (by decide)).trans ((hF2767.1 231 23 (by decide)).trans ((hF2755.1 231 23 (by decide)).trans ((hF2741.1 231 23 (by decide)).trans ((hF2727.1 231 23 (by decide)).trans (hF2713.1 231 23 (by decide))))))))))
                    have nsq3441 := INN.nsq inn3439 pg3440 (by omega)
                    have pg3442 := PG.cong (hP.2.1 (by decide)) hI3342 (((hF3343.2.1 238 (by decide)).trans ((hF2787.2.1 238 (by decide)).trans ((hF2777.2.1 238 (by decide)).trans ((hF2767.2.1 238 (by decide)).trans ((hF2755.2.1 238 (by decide)).trans ((hF2741.2.1 238 (by decide)).trans ((hF2727.2.1 238 (by decide)).trans (hF2713.2.1 238 (by decide)))))))))) (((hF3343.2.1 239 (by decide)).trans ((hF2787.2.1 239 (by decide)).trans ((hF2777.2.1 239 (by decide)).trans ((hF2767.2.1 239 (by decide)).trans ((hF2755.2.1 239 (by decide)).trans ((hF2741.2.1 239 (by decide)).trans ((hF2727.2.1 239 (by decide)).trans (hF2713.2.1 239 (by decide)))))))))) (((hF3343.2.1 240 (by decide)).trans ((hF2787.2.1 240 (by decide)).trans ((hF2777.2.1 240 (by decide)).trans ((hF2767.2.1 240 (by decide)).trans ((hF2755.2.1 240 (by decide)).trans ((hF2741.2.1 240 (by decide)).trans ((hF2727.2.1 240 (by decide)).trans (hF2713.2.1 240 (by decide)))))))))) (((hF3343.2.1 241 (by decide)).trans ((hF2787.2.1 241 (by decide)).trans ((hF2777.2.1 241 (by decide)).trans ((hF2767.2.1 241 (by decide)).trans ((hF2755.2.1 241 (by decide)).trans ((hF2741.2.1 241 (by decide)).trans ((hF2727.2.1 241 (by decide)).trans (hF2713.2.1 241 (by decide)))))))))) (((hF3343.1 231 17 (by decide)).trans ((hF2787.1 231 17 (by decide)).trans ((hF2777.1 231 17 (by decide)).trans ((hF2767.1 231 17 (by decide)).trans ((hF2755.1 231 17 (by decide)).trans ((hF2741.1 231 17 (by decide)).trans ((hF2727.1 231 17 (by decide)).trans (hF2713.1 231 17 (by decide)))))))))) (((hF3343.1 231 23 (by decide)).trans ((hF2787.1 231 23 (by decide)).trans ((hF2777.1 231 23 (by decide)).trans ((hF2767.1 231 23 (by decide)).trans ((hF2755.1 231 23 (by decide)).trans ((hF2741.1 231 23 (by decide)).trans ((hF2727.1 231 23 (by decide)).trans (hF2713.1 231 23 (by decide))))))))))
                    have inn3444 := INN.cong inn2771 hI3342 (((hF3343.2.1 240 (by decide)).trans ((hF2787.2.1 240 (by decide)).trans (hF2777.2.1 240 (by decide))))) (((hF3343.1 231 23 (by decide)).trans ((hF2787.1 231 23 (by decide)).trans (hF2777.1 231 23 (by decide)))))
                    have pg3443 := sp3426.2.2.1 _ _ _ pg3442
                    have nsq3446 := NSQ.le nsq3441 hI3420 sp3426.2.2.2.2.1 sp3426.1
                    refine At.enter rfl ?_
                    refine r_aload_n rfl ?_
                    refine r_iload_n rfl ?_
                    refine r_iconst 0 rfl ?_
                    have zv3448 : (24 : Int32).toInt = 24 := rfl
                    have zv3449 : (0 : Int32).toInt = 0 := rfl
                    refine r_callV 231 rfl [.ref 231, .int 24, .int 0] [] (Nat.le_of_ble_eq_true rfl) rfl (T_X11_push_231 _ hI3420 24 (by decide) 0 (by decide) (by omega)) ?_
                    rintro _ _ ⟨g3450, rfl, hI3451, hF3452, rfl, hr3454⟩
                    refine At.stn ?_
                    have hF3455 := Fr.tr hF3424 hF3452 rfl rfl
                    have x3460 := HI.eqI hI3451 (p := 231) (b := 17) (((hF3452.1 231 17 (by decide)).trans hv3433))
                    obtain ⟨v3461, hv3461⟩ : ∃ v, gI g3450 231 23 = v := ⟨_, rfl⟩
                    have rv3461 := RgF.at hI3451.2.1 (p := 231) (b := 23) rfl
                    rw [hv3461] at rv3461
                    dsimp only at rv3461
                    have tv3461 := congrArg Int32.toInt hv3461
                    have x3462 := HI.eqI hI3451 (p := 231) (b := 23) (hv3461)
                    have y3463 : (gI _ 231 23).toInt = (gI _ 231 23).toInt + 1 := hr3454.1
                    have pg3464 := PG.push (e' := 0) pg3443 hr3454 (hF3452.2.1 238 (by decide)) (hF3452.2.1 239 (by decide)) (hF3452.1 231 17 (by decide)) ⟨by omega, by omega⟩ (Or.inr nsq3446) (by omega) (by omega)
                    have nsq3465 := NSQ.push nsq3446 hr3454 (by omega)
                    refine At.enter rfl ?_
                    refine r_iconst 1 rfl ?_
                    refine r_ireti ?_
                    have x3466 := HI.eqI hI3451 (p := 231) (b := 8) ((((hF3452.1 231 8 (by decide)).trans ((hF3421.1 231 8 (by decide)).trans ((hF3343.1 231 8 (by decide)).trans ((hF2787.1 231 8 (by decide)).trans ((hF2777.1 231 8 (by decide)).trans ((hF2767.1 231 8 (by decide)).trans ((hF2755.1 231 8 (by decide)).trans ((hF2741.1 231 8 (by decide)).trans ((hF2727.1 231 8 (by decide)).trans (hF2713.1 231 8 (by decide))))))))))).trans hv1))
                    have x3467 := HI.eqI hI3451 (p := 231) (b := 9) ((((hF3452.1 231 9 (by decide)).trans (hF3421.1 231 9 (by decide))).trans hv3354))
                    have x3468 := HI.eqI hI3451 (p := 231) (b := 10) ((((hF3452.1 231 10 (by decide)).trans (hF3421.1 231 10 (by decide))).trans hv3356))
                    have x3469 := HI.eqI hI3451 (p := 231) (b := 11) ((((hF3452.1 231 11 (by decide)).trans (hF3421.1 231 11 (by decide))).trans hv3358))
                    obtain ⟨v3470, hv3470⟩ : ∃ v, gJ g3341 231 12 = v := ⟨_, rfl⟩
                    have x3471 := HI.eqJ hI3451 (b := 12) ((((hF3452.2.2 231 12 (by decide)).trans (hF3421.2.2 231 12 (by decide))).trans hv3470))
                    have x3472 := HI.eqI hI3451 (p := 231) (b := 14) ((((hF3452.1 231 14 (by decide)).trans (hF3421.1 231 14 (by decide))).trans hv3360))
                    have x3475 := HI.eqI hI0 (p := 231) (b := 9) (hv2)
                    have w263477 := W26.cong c3367 hI3451 (((hF3452.1 231 9 (by decide)).trans (hF3421.1 231 9 (by decide)))) (((hF3452.1 231 10 (by decide)).trans (hF3421.1 231 10 (by decide)))) (((hF3452.1 231 11 (by decide)).trans (hF3421.1 231 11 (by decide)))) (((hF3452.2.2 231 12 (by decide)).trans (hF3421.2.2 231 12 (by decide))))
                    have x3479 := HI.eqI hI3451 (p := 231) (b := 13) ((((hF3452.1 231 13 (by decide)).trans (hF3421.1 231 13 (by decide))).trans hv3373))
                    obtain ⟨v3481, hv3481⟩ : ∃ v, gI g0 231 15 = v := ⟨_, rfl⟩
                    have rv3481 := RgF.at hI0.2.1 (p := 231) (b := 15) rfl
                    rw [hv3481] at rv3481
                    dsimp only at rv3481
                    have tv3481 := congrArg Int32.toInt hv3481
                    have x3482 := HI.eqI hI3451 (p := 231) (b := 15) ((((hF3452.1 231 15 (by decide)).trans ((hF3421.1 231 15 (by decide)).trans ((hF3343.1 231 15 (by decide)).trans ((hF2787.1 231 15 (by decide)).trans ((hF2777.1 231 15 (by decide)).trans ((hF2767.1 231 15 (by decide)).trans ((hF2755.1 231 15 (by decide)).trans ((hF2741.1 231 15 (by decide)).trans ((hF2727.1 231 15 (by decide)).trans (hF2713.1 231 15 (by decide))))))))))).trans hv3481))
                    obtain ⟨v3483, hv3483⟩ : ∃ v, gI g0 231 20 = v := ⟨_, rfl⟩
                    have tv3483 := congrArg Int32.toInt hv3483
                    have x3484 := HI.eqI hI3451 (p := 231) (b := 20) ((((hF3452.1 231 20 (by decide)).trans ((hF3421.1 231 20 (by decide)).trans ((hF3343.1 231 20 (by decide)).trans ((hF2787.1 231 20 (by decide)).trans ((hF2777.1 231 20 (by decide)).trans ((hF2767.1 231 20 (by decide)).trans ((hF2755.1 231 20 (by decide)).trans ((hF2741.1 231 20 (by decide)).trans ((hF2727.1 231 20 (by decide)).trans (hF2713.1 231 20 (by decide))))))))))).trans hv3483))
                    obtain ⟨v3486, hv3486⟩ : ∃ v, gI g0 231 24 = v := ⟨_, rfl⟩
                    have tv3486 := congrArg Int32.toInt hv3486
                    have x3487 := HI.eqI hI3451 (p := 231) (b := 24) ((((hF3452.1 231 24 (by decide)).trans ((hF3421.1 231 24 (by decide)).trans ((hF3343.1 231 24 (by decide)).trans ((hF2787.1 231 24 (by decide)).trans ((hF2777.1 231 24 (by decide)).trans ((hF2767.1 231 24 (by decide)).trans ((hF2755.1 231 24 (by decide)).trans ((hF2741.1 231 24 (by decide)).trans ((hF2727.1 231 24 (by decide)).trans (hF2713.1 231 24 (by decide))))))))))).trans hv3486))
                    have x3489 := HI.eqI hI0 (p := 231) (b := 13) (hv3370)
                    have x3490 := HI.eqI hI0 (p := 231) (b := 14) (hv6)
                    have x3491 := HI.eqI hI0 (p := 231) (b := 15) (hv3481)
                    have x3492 := HI.eqI hI0 (p := 231) (b := 20) (hv3483)
                    have x3493 := HI.eqI hI0 (p := 231) (b := 23) (hv8)
                    have x3494 := HI.eqI hI0 (p := 231) (b := 24) (hv3486)
                    have x3496 := HI.eqI hI3420 (p := 231) (b := 24) ((((hF3421.1 231 24 (by decide)).trans ((hF3343.1 231 24 (by decide)).trans ((hF2787.1 231 24 (by decide)).trans ((hF2777.1 231 24 (by decide)).trans ((hF2767.1 231 24 (by decide)).trans ((hF2755.1 231 24 (by decide)).trans ((hF2741.1 231 24 (by decide)).trans ((hF2727.1 231 24 (by decide)).trans (hF2713.1 231 24 (by decide)))))))))).trans hv3486))
                    have y3501 : (gI g3341 231 13).toInt = (gI g0 231 13).toInt := (mu3375.2.1 (show (gI g0 231 14).toInt = 0 from by omega) (by omega)).2.1
                    exact ⟨_, rfl, hI3451, hF3455, _, rfl, by decide, ⟨by omega, by omega, by omega, by omega, w263477, by omega, by omega, (fun hbad => ⟨by omega, (PT.mk (fun _ => pg3464) (fun h => False.elim (by omega)) (fun h h9 => False.elim (by omega)) (fun h => False.elim (by omega)))⟩), (fun hbad => by omega), (TKM.c hK3376 (((hF3452.2.1 236 (by decide)).trans (hF3421.2.1 236 (by decide)))) (((hF3452.1 231 8 (by decide)).trans (hF3421.1 231 8 (by decide)))) (((hF3452.1 231 9 (by decide)).trans (hF3421.1 231 9 (by decide)))) (((hF3452.1 231 10 (by decide)).trans (hF3421.1 231 10 (by decide)))) (((hF3452.1 231 11 (by decide)).trans (hF3421.1 231 11 (by decide)))) (((hF3452.2.2 231 12 (by decide)).trans (hF3421.2.2 231 12 (by decide))))), (fun c0 b hC h => M.cmp h (fun z i => HBT.b4 hC i inn2772 (by omega) (by omega)) (by rw [pI.c (((hF3452.1 231 9 (by decide)).trans (hF3421.1 231 9 (by decide))))]; exact (MUSTP.tok hK mu3375 (by omega) (by omega))) (by omega) inn2772 (by omega) cm2781 (by omega) sq3429 (by omega) (PUSH.fr2 hr3454 rfl rfl rfl rfl rfl rfl) (by omega) (pI.c (((hF3421.1 231 24 (by decide)).trans ((hF3343.1 231 24 (by decide)).trans ((hF2787.1 231 24 (by decide)).trans ((hF2777.1 231 24 (by decide)).trans ((hF2767.1 231 24 (by decide)).trans ((hF2755.1 231 24 (by decide)).trans ((hF2741.1 231 24 (by decide)).trans ((hF2727.1 231 24 (by decide)).trans (hF2713.1 231 24 (by decide)))))))))))) (show (gI _ 231 24).toInt = (gI g3419 231 24).toInt from by omega) (show (gI _ 231 20).toInt = (gI g0 231 20).toInt from by omega) (show (gI _ 231 15).toInt = (gI g0 231 15).toInt from by omega) (fun _ => ⟨show (gI _ 231 14).toInt = 0 from by omega, show (gI _ 231 13).toInt = (gI g0 231 13).toInt from by omega⟩) (fun z => absurd (show (gI g0 231 14).toInt = 0 from by omega) z)), (fun h14 c0 b K hC h => MG_cmp h (PLG2_in h.1 hC inn2772 (by omega) (by omega)) (by rw [pI.c (((hF3452.1 231 9 (by decide)).trans (hF3421.1 231 9 (by decide))))]; exact (MUSTP.tok hK mu3375 (by omega) (by omega))) (by omega) inn2772 (by omega) cm2781 (by omega) sg3430 (by omega) sq3429 (PUSH.fr2 hr3454 rfl rfl rfl rfl rfl rfl) (by omega) rfl (SMG_mk ((hF3452.2.1 238 (by decide))) ((hF3452.2.1 239 (by decide))) ((hF3452.1 231 17 (by decide)))) (by show 0 ≤ (gI g3419 231 17).toInt; omega))⟩⟩
              · have c2782_ : v2778.toInt ≠ 0 := en_k_eq_f c2782
                refine At.enter rfl ?_
                refine r_iconst 2 rfl ?_
                refine r_ireti ?_
                have x3504 := HI.eqI hI2776 (p := 231) (b := 8) ((((hF2777.1 231 8 (by decide)).trans ((hF2767.1 231 8 (by decide)).trans ((hF2755.1 231 8 (by decide)).trans ((hF2741.1 231 8 (by decide)).trans ((hF2727.1 231 8 (by decide)).trans (hF2713.1 231 8 (by decide))))))).trans hv1))
                have x3505 := HI.eqI hI2776 (p := 231) (b := 9) ((((hF2777.1 231 9 (by decide)).trans ((hF2767.1 231 9 (by decide)).trans ((hF2755.1 231 9 (by decide)).trans ((hF2741.1 231 9 (by decide)).trans ((hF2727.1 231 9 (by decide)).trans (hF2713.1 231 9 (by decide))))))).trans hv2))
                have x3506 := HI.eqI hI2776 (p := 231) (b := 10) ((((hF2777.1 231 10 (by decide)).trans ((hF2767.1 231 10 (by decide)).trans ((hF2755.1 231 10 (by decide)).trans ((hF2741.1 231 10 (by decide)).trans ((hF2727.1 231 10 (by decide)).trans (hF2713.1 231 10 (by decide))))))).trans hv3))
                have x3507 := HI.eqI hI2776 (p := 231) (b := 11) ((((hF2777.1 231 11 (by decide)).trans ((hF2767.1 231 11 (by decide)).trans ((hF2755.1 231 11 (by decide)).trans ((hF2741.1 231 11 (by decide)).trans ((hF2727.1 231 11 (by decide)).trans (hF2713.1 231 11 (by decide))))))).trans hv4))
                have x3508 := HI.eqJ hI2776 (b := 12) ((((hF2777.2.2 231 12 (by decide)).trans ((hF2767.2.2 231 12 (by decide)).trans ((hF2755.2.2 231 12 (by decide)).trans ((hF2741.2.2 231 12 (by decide)).trans ((hF2727.2.2 231 12 (by decide)).trans (hF2713.2.2 231 12 (by decide))))))).trans hv5))
                have x3509 := HI.eqI hI2776 (p := 231) (b := 14) ((((hF2777.1 231 14 (by decide)).trans ((hF2767.1 231 14 (by decide)).trans ((hF2755.1 231 14 (by decide)).trans ((hF2741.1 231 14 (by decide)).trans ((hF2727.1 231 14 (by decide)).trans (hF2713.1 231 14 (by decide))))))).trans hv6))
                have x3510 := HI.eqI hI2776 (p := 231) (b := 17) ((((hF2777.1 231 17 (by decide)).trans ((hF2767.1 231 17 (by decide)).trans ((hF2755.1 231 17 (by decide)).trans ((hF2741.1 231 17 (by decide)).trans ((hF2727.1 231 17 (by decide)).trans (hF2713.1 231 17 (by decide))))))).trans hv7))
                have x3511 := HI.eqI hI2776 (p := 231) (b := 23) ((((hF2777.1 231 23 (by decide)).trans ((hF2767.1 231 23 (by decide)).trans ((hF2755.1 231 23 (by decide)).trans ((hF2741.1 231 23 (by decide)).trans ((hF2727.1 231 23 (by decide)).trans (hF2713.1 231 23 (by decide))))))).trans hv8))
                have x3512 := HI.eqI hI0 (p := 231) (b := 9) (hv2)
                have zv3513 : (2 : Int32).toInt = 2 := rfl
                have pg3514 := PG.cong (hP.2.1 (by decide)) hI2776 (((hF2777.2.1 238 (by decide)).trans ((hF2767.2.1 238 (by decide)).trans ((hF2755.2.1 238 (by decide)).trans ((hF2741.2.1 238 (by decide)).trans ((hF2727.2.1 238 (by decide)).trans (hF2713.2.1 238 (by decide)))))))) (((hF2777.2.1 239 (by decide)).trans ((hF2767.2.1 239 (by decide)).trans ((hF2755.2.1 239 (by decide)).trans ((hF2741.2.1 239 (by decide)).trans ((hF2727.2.1 239 (by decide)).trans (hF2713.2.1 239 (by decide)))))))) (((hF2777.2.1 240 (by decide)).trans ((hF2767.2.1 240 (by decide)).trans ((hF2755.2.1 240 (by decide)).trans ((hF2741.2.1 240 (by decide)).trans ((hF2727.2.1 240 (by decide)).trans (hF2713.2.1 240 (by decide)))))))) (((hF2777.2.1 241 (by decide)).trans ((hF2767.2.1 241 (by decide)).trans ((hF2755.2.1 241 (by decide)).trans ((hF2741.2.1 241 (by decide)).trans ((hF2727.2.1 241 (by decide)).trans (hF2713.2.1 241 (by decide)))))))) (((hF2777.1 231 17 (by decide)).trans ((hF2767.1 231 17 (by decide)).trans ((hF2755.1 231 17 (by decide)).trans ((hF2741.1 231 17 (by decide)).trans ((hF2727.1 231 17 (by decide)).trans (hF2713.1 231 17 (by decide)))))))) (((hF2777.1 231 23 (by decide)).trans ((hF2767.1 231 23 (by decide)).trans ((hF2755.1 231 23 (by decide)).trans ((hF2741.1 231 23 (by decide)).trans ((hF2727.1 231 23 (by decide)).trans (hF2713.1 231 23 (by decide))))))))
                have inn3515 := INN.cong inn2771 hI2776 ((hF2777.2.1 240 (by decide))) ((hF2777.1 231 23 (by decide)))
                have pg3516 := PG.cong (hP.2.1 (by decide)) hI2776 (((hF2777.2.1 238 (by decide)).trans ((hF2767.2.1 238 (by decide)).trans ((hF2755.2.1 238 (by decide)).trans ((hF2741.2.1 238 (by decide)).trans ((hF2727.2.1 238 (by decide)).trans (hF2713.2.1 238 (by decide)))))))) (((hF2777.2.1 239 (by decide)).trans ((hF2767.2.1 239 (by decide)).trans ((hF2755.2.1 239 (by decide)).trans ((hF2741.2.1 239 (by decide)).trans ((hF2727.2.1 239 (by decide)).trans (hF2713.2.1 239 (by decide)))))))) (((hF2777.2.1 240 (by decide)).trans ((hF2767.2.1 240 (by decide)).trans ((hF2755.2.1 240 (by decide)).trans ((hF2741.2.1 240 (by decide)).trans ((hF2727.2.1 240 (by decide)).trans (hF2713.2.1 240 (by decide)))))))) (((hF2777.2.1 241 (by decide)).trans ((hF2767.2.1 241 (by decide)).trans ((hF2755.2.1 241 (by decide)).trans ((hF2741.2.1 241 (by decide)).trans ((hF2727.2.1 241 (by decide)).trans (hF2713.2.1 241 (by decide)))))))) (((hF2777.1 231 17 (by decide)).trans ((hF2767.1 231 17 (by decide)).trans ((hF2755.1 231 17 (by decide)).trans ((hF2741.1 231 17 (by decide)).trans ((hF2727.1 231 17 (by decide)).trans (hF2713.1 231 17 (by decide)))))))) (((hF2777.1 231 23 (by decide)).trans ((hF2767.1 231 23 (by decide)).trans ((hF2755.1 231 23 (by decide)).trans ((hF2741.1 231 23 (by decide)).trans ((hF2727.1 231 23 (by decide)).trans (hF2713.1 231 23 (by decide))))))))
                have nsq3517 := INN.nsq inn3515 pg3516 (by omega)
                have w263518 := W26.cong hW hI2776 (((hF2777.1 231 9 (by decide)).trans ((hF2767.1 231 9 (by decide)).trans ((hF2755.1 231 9 (by decide)).trans ((hF2741.1 231 9 (by decide)).trans ((hF2727.1 231 9 (by decide)).trans (hF2713.1 231 9 (by decide)))))))) (((hF2777.1 231 10 (by decide)).trans ((hF2767.1 231 10 (by decide)).trans ((hF2755.1 231 10 (by decide)).trans ((hF2741.1 231 10 (by decide)).trans ((hF2727.1 231 10 (by decide)).trans (hF2713.1 231 10 (by decide)))))))) (((hF2777.1 231 11 (by decide)).trans ((hF2767.1 231 11 (by decide)).trans ((hF2755.1 231 11 (by decide)).trans ((hF2741.1 231 11 (by decide)).trans ((hF2727.1 231 11 (by decide)).trans (hF2713.1 231 11 (by decide)))))))) (((hF2777.2.2 231 12 (by decide)).trans ((hF2767.2.2 231 12 (by decide)).trans ((hF2755.2.2 231 12 (by decide)).trans ((hF2741.2.2 231 12 (by decide)).trans ((hF2727.2.2 231 12 (by decide)).trans (hF2713.2.2 231 12 (by decide))))))))
                obtain ⟨v3520, hv3520⟩ : ∃ v, gI g0 231 13 = v := ⟨_, rfl⟩
                have tv3520 := congrArg Int32.toInt hv3520
                have x3521 := HI.eqI hI2776 (p := 231) (b := 13) ((((hF2777.1 231 13 (by decide)).trans ((hF2767.1 231 13 (by decide)).trans ((hF2755.1 231 13 (by decide)).trans ((hF2741.1 231 13 (by decide)).trans ((hF2727.1 231 13 (by decide)).trans (hF2713.1 231 13 (by decide))))))).trans hv3520))
                obtain ⟨v3523, hv3523⟩ : ∃ v, gI g0 231 15 = v := ⟨_, rfl⟩
                have rv3523 := RgF.at hI0.2.1 (p := 231) (b := 15) rfl
                rw [hv3523] at rv3523
                dsimp only at rv3523
                have tv3523 := congrArg Int32.toInt hv3523
                have x3524 := HI.eqI hI2776 (p := 231) (b := 15) ((((hF2777.1 231 15 (by decide)).trans ((hF2767.1 231 15 (by decide)).trans ((hF2755.1 231 15 (by decide)).trans ((hF2741.1 231 15 (by decide)).trans ((hF2727.1 231 15 (by decide)).trans (hF2713.1 231 15 (by decide))))))).trans hv3523))
                obtain ⟨v3525, hv3525⟩ : ∃ v, gI g0 231 20 = v := ⟨_, rfl⟩
                have tv3525 := congrArg Int32.toInt hv3525
                have x3526 := HI.eqI hI2776 (p := 231) (b := 20) ((((hF2777.1 231 20 (by decide)).trans ((hF2767.1 231 20 (by decide)).trans ((hF2755.1 231 20 (by decide)).trans ((hF2741.1 231 20 (by decide)).trans ((hF2727.1 231 20 (by decide)).trans (hF2713.1 231 20 (by decide))))))).trans hv3525))
                obtain ⟨v3528, hv3528⟩ : ∃ v, gI g0 231 24 = v := ⟨_, rfl⟩
                have tv3528 := congrArg Int32.toInt hv3528
                have x3529 := HI.eqI hI2776 (p := 231) (b := 24) ((((hF2777.1 231 24 (by decide)).trans ((hF2767.1 231 24 (by decide)).trans ((hF2755.1 231 24 (by decide)).trans ((hF2741.1 231 24 (by decide)).trans ((hF2727.1 231 24 (by decide)).trans (hF2713.1 231 24 (by decide))))))).trans hv3528))
                have x3531 := HI.eqI hI0 (p := 231) (b := 13) (hv3520)
                have x3532 := HI.eqI hI0 (p := 231) (b := 14) (hv6)
                have x3533 := HI.eqI hI0 (p := 231) (b := 15) (hv3523)
                have x3534 := HI.eqI hI0 (p := 231) (b := 20) (hv3525)
                have x3535 := HI.eqI hI0 (p := 231) (b := 23) (hv8)
                have x3536 := HI.eqI hI0 (p := 231) (b := 24) (hv3528)
                exact ⟨_, rfl, hI2776, hF2780, _, rfl, by decide, ⟨by omega, by omega, by omega, by omega, w263518, by omega, by omega, (fun hbad => ⟨by omega, (PT.mk (fun h => False.elim (by omega)) (fun _ => pg3514) (fun _ _ => nsq3517) (fun h => False.elim (by omega)))⟩), (fun hbad => by omega), (TKM.c hK (((hF2777.2.1 236 (by decide)).trans ((hF2767.2.1 236 (by decide)).trans ((hF2755.2.1 236 (by decide)).trans ((hF2741.2.1 236 (by decide)).trans ((hF2727.2.1 236 (by decide)).trans (hF2713.2.1 236 (by decide)))))))) (((hF2777.1 231 8 (by decide)).trans ((hF2767.1 231 8 (by decide)).trans ((hF2755.1 231 8 (by decide)).trans ((hF2741.1 231 8 (by decide)).trans ((hF2727.1 231 8 (by decide)).trans (hF2713.1 231 8 (by decide)))))))) (((hF2777.1 231 9 (by decide)).trans ((hF2767.1 231 9 (by decide)).trans ((hF2755.1 231 9 (by decide)).trans ((hF2741.1 231 9 (by decide)).trans ((hF2727.1 231 9 (by decide)).trans (hF2713.1 231 9 (by decide)))))))) (((hF2777.1 231 10 (by decide)).trans ((hF2767.1 231 10 (by decide)).trans ((hF2755.1 231 10 (by decide)).trans ((hF2741.1 231 10 (by decide)).trans ((hF2727.1 231 10 (by decide)).trans (hF2713.1 231 10 (by decide)))))))) (((hF2777.1 231 11 (by decide)).trans ((hF2767.1 231 11 (by decide)).trans ((hF2755.1 231 11 (by decide)).trans ((hF2741.1 231 11 (by decide)).trans ((hF2727.1 231 11 (by decide)).trans (hF2713.1 231 11 (by decide)))))))) (((hF2777.2.2 231 12 (by decide)).trans ((hF2767.2.2 231 12 (by decide)).trans ((hF2755.2.2 231 12 (by decide)).trans ((hF2741.2.2 231 12 (by decide)).trans ((hF2727.2.2 231 12 (by decide)).trans (hF2713.2.2 231 12 (by decide))))))))), (fun c0 b hC h => M.told h (fun z i => HBT.b4 hC i inn2772 (by omega) (by omega)) (TKM.some hK).choose_spec (by omega) inn2772 (by omega) cm2781 (by omega) (((hF2777.2.1 240 (by decide)).trans ((hF2767.2.1 240 (by decide)).trans ((hF2755.2.1 240 (by decide)).trans ((hF2741.2.1 240 (by decide)).trans ((hF2727.2.1 240 (by decide)).trans (hF2713.2.1 240 (by decide)))))))) (show (gI _ 231 23).toInt = (gI g0 231 23).toInt from by omega) (show (gI _ 231 24).toInt = (gI g0 231 24).toInt from by omega) (show (gI _ 231 9).toInt = (gI g0 231 9).toInt from by omega) (show (gI _ 231 20).toInt = (gI g0 231 20).toInt from by omega) (show (gI _ 231 15).toInt = (gI g0 231 15).toInt from by omega) (fun _ => ⟨show (gI _ 231 14).toInt = 0 from by omega, show (gI _ 231 13).toInt = (gI g0 231 13).toInt from by omega⟩) (fun z => absurd (show (gI g0 231 14).toInt = 0 from by omega) z)), (fun h14 c0 b K hC h => MG_told h (PLG2_cm h.1 cm2781 (by omega)) (TKM.some hK).choose_spec (by omega) cm2781 (by omega) (((hF2777.2.1 240 (by decide)).trans ((hF2767.2.1 240 (by decide)).trans ((hF2755.2.1 240 (by decide)).trans ((hF2741.2.1 240 (by decide)).trans ((hF2727.2.1 240 (by decide)).trans (hF2713.2.1 240 (by decide)))))))) (((hF2777.2.1 241 (by decide)).trans ((hF2767.2.1 241 (by decide)).trans ((hF2755.2.1 241 (by decide)).trans ((hF2741.2.1 241 (by decide)).trans ((hF2727.2.1 241 (by decide)).trans (hF2713.2.1 241 (by decide)))))))) (pI.c (((hF2777.1 231 23 (by decide)).trans ((hF2767.1 231 23 (by decide)).trans ((hF2755.1 231 23 (by decide)).trans ((hF2741.1 231 23 (by decide)).trans ((hF2727.1 231 23 (by decide)).trans (hF2713.1 231 23 (by decide))))))))) (SMG_mk (((hF2777.2.1 238 (by decide)).trans ((hF2767.2.1 238 (by decide)).trans ((hF2755.2.1 238 (by decide)).trans ((hF2741.2.1 238 (by decide)).trans ((hF2727.2.1 238 (by decide)).trans (hF2713.2.1 238 (by decide)))))))) (((hF2777.2.1 239 (by decide)).trans ((hF2767.2.1 239 (by decide)).trans ((hF2755.2.1 239 (by decide)).trans ((hF2741.2.1 239 (by decide)).trans ((hF2727.2.1 239 (by decide)).trans (hF2713.2.1 239 (by decide)))))))) (((hF2777.1 231 17 (by decide)).trans ((hF2767.1 231 17 (by decide)).trans ((hF2755.1 231 17 (by decide)).trans ((hF2741.1 231 17 (by decide)).trans ((hF2727.1 231 17 (by decide)).trans (hF2713.1 231 17 (by decide))))))))) (pI.c (((hF2777.1 231 9 (by decide)).trans ((hF2767.1 231 9 (by decide)).trans ((hF2755.1 231 9 (by decide)).trans ((hF2741.1 231 9 (by decide)).trans ((hF2727.1 231 9 (by decide)).trans (hF2713.1 231 9 (by decide))))))))))⟩⟩
            · have c2774_ : v2768.toInt = (-1) := en_i_ne_f c2774
              refine At.enter rfl ?_
              refine r_iload_n rfl ?_
              refine r_ifs 147 rfl (fun c3537 => ?_) (fun c3537 => ?_)
              · have c3537_ : a1.toInt ≠ 0 := en_k_ne_t c3537
                refine At.enter rfl ?_
                refine r_aload_n rfl ?_
                refine r_callV 153 rfl [.ref 231] [] (Nat.le_of_ble_eq_true rfl) rfl (T_X11_isCompared_231 _ hI2766) ?_
                rintro _ _ ⟨g3538, rfl, hI3539, hF3540, v3541, rfl, hr3542⟩
                refine At.sti ?_
                have hF3543 := Fr.tr hF2770 hF3540 rfl rfl
                have cm3544 := CMPD.fr0 hr3542.2 (((hF2767.2.1 240 (by decide)).trans ((hF2755.2.1 240 (by decide)).trans ((hF2741.2.1 240 (by decide)).trans ((hF2727.2.1 240 (by decide)).trans (hF2713.2.1 240 (by decide))))))) (((hF2767.1 231 23 (by decide)).trans ((hF2755.1 231 23 (by decide)).trans ((hF2741.1 231 23 (by decide)).trans ((hF2727.1 231 23 (by decide)).trans (hF2713.1 231 23 (by decide)))))))
                refine At.enter rfl ?_
                refine r_ifs 156 rfl (fun c3545 => ?_) (fun c3545 => ?_)
                · have c3545_ : v3541.toInt = 0 := en_k_eq_t c3545
                  refine At.enter rfl ?_
                  refine r_aload_n rfl ?_
                  refine r_bipush 60 rfl ?_
                  have x3546 := HI.eqI hI3539 (p := 231) (b := 11) ((((hF3540.1 231 11 (by decide)).trans ((hF2767.1 231 11 (by decide)).trans ((hF2755.1 231 11 (by decide)).trans ((hF2741.1 231 11 (by decide)).trans ((hF2727.1 231 11 (by decide)).trans (hF2713.1 231 11 (by decide))))))).trans hv4))
                  have zv3547 : (60 : Int32).toInt = 60 := rfl
                  refine r_callV 164 rfl [.ref 231, .int 60] [] (Nat.le_of_ble_eq_true rfl) rfl (T_X11_isSign_231 _ hI3539 60 (by omega)) ?_
                  rintro _ _ ⟨g3548, rfl, hI3549, hF3550, v3551, rfl, hr3552⟩
                  refine At.sti ?_
                  have hF3553 := Fr.tr hF3543 hF3550 rfl rfl
                  have x3556 := HI.eqI hI3549 (p := 231) (b := 11) ((((hF3550.1 231 11 (by decide)).trans ((hF3540.1 231 11 (by decide)).trans ((hF2767.1 231 11 (by decide)).trans ((hF2755.1 231 11 (by decide)).trans ((hF2741.1 231 11 (by decide)).trans ((hF2727.1 231 11 (by decide)).trans (hF2713.1 231 11 (by decide)))))))).trans hv4))
                  have hb3557 : BL (CDM g0 = 24) v3551.toInt := by have z := ISM.sign (c := 24) hr3552.2.2 (TKM.c hK (((hF3540.2.1 236 (by decide)).trans ((hF2767.2.1 236 (by decide)).trans ((hF2755.2.1 236 (by decide)).trans ((hF2741.2.1 236 (by decide)).trans ((hF2727.2.1 236 (by decide)).trans (hF2713.2.1 236 (by decide)))))))) (((hF3540.1 231 8 (by decide)).trans ((hF2767.1 231 8 (by decide)).trans ((hF2755.1 231 8 (by decide)).trans ((hF2741.1 231 8 (by decide)).trans ((hF2727.1 231 8 (by decide)).trans (hF2713.1 231 8 (by decide)))))))) (((hF3540.1 231 9 (by decide)).trans ((hF2767.1 231 9 (by decide)).trans ((hF2755.1 231 9 (by decide)).trans ((hF2741.1 231 9 (by decide)).trans ((hF2727.1 231 9 (by decide)).trans (hF2713.1 231 9 (by decide)))))))) (((hF3540.1 231 10 (by decide)).trans ((hF2767.1 231 10 (by decide)).trans ((hF2755.1 231 10 (by decide)).trans ((hF2741.1 231 10 (by decide)).trans ((hF2727.1 231 10 (by decide)).trans (hF2713.1 231 10 (by decide)))))))) (((hF3540.1 231 11 (by decide)).trans ((hF2767.1 231 11 (by decide)).trans ((hF2755.1 231 11 (by decide)).trans ((hF2741.1 231 11 (by decide)).trans ((hF2727.1 231 11 (by decide)).trans (hF2713.1 231 11 (by decide)))))))) (((hF3540.2.2 231 12 (by decide)).trans ((hF2767.2.2 231 12 (by decide)).trans ((hF2755.2.2 231 12 (by decide)).trans ((hF2741.2.2 231 12 (by decide)).trans ((hF2727.2.2 231 12 (by decide)).trans (hF2713.2.2 231 12 (by decide))))))))) (isSC_d (by omega)) (by decide +kernel); rw [CDM.c (((hF3540.2.1 236 (by decide)).trans ((hF2767.2.1 236 (by decide)).trans ((hF2755.2.1 236 (by decide)).trans ((hF2741.2.1 236 (by decide)).trans ((hF2727.2.1 236 (by decide)).trans (hF2713.2.1 236 (by decide)))))))) (((hF3540.1 231 9 (by decide)).trans ((hF2767.1 231 9 (by decide)).trans ((hF2755.1 231 9 (by decide)).trans ((hF2741.1 231 9 (by decide)).trans ((hF2727.1 231 9 (by decide)).trans (hF2713.1 231 9 (by decide)))))))) (((hF3540.1 231 10 (by decide)).trans ((hF2767.1 231 10 (by decide)).trans ((hF2755.1 231 10 (by decide)).trans ((hF2741.1 231 10 (by decide)).trans ((hF2727.1 231 10 (by decide)).trans (hF2713.1 231 10 (by decide)))))))) (((hF3540.1 231 11 (by decide)).trans ((hF2767.1 231 11 (by decide)).trans ((hF2755.1 231 11 (by decide)).trans ((hF2741.1 231 11 (by decide)).trans ((hF2727.1 231 11 (by decide)).trans (hF2713.1 231 11 (by decide))))))))] at z; exact z
                  refine At.enter rfl ?_
                  refine r_ifs 167 rfl (fun c3558 => ?_) (fun c3558 => ?_)
                  · have c3558_ : v3551.toInt = 0 := en_k_eq_t c3558
                    have i3559 := BL.no hb3557 (by omega)
                    refine At.enter rfl ?_
                    refine r_aload_n rfl ?_
                    refine r_bipush 62 rfl ?_
                    have zv3561 : (62 : Int32).toInt = 62 := rfl
                    refine r_callV 178 rfl [.ref 231, .int 62] [] (Nat.le_of_ble_eq_true rfl) rfl (T_X11_isSign_231 _ hI3549 62 (by omega)) ?_
                    rintro _ _ ⟨g3562, rfl, hI3563, hF3564, v3565, rfl, hr3566⟩
                    refine At.sti ?_
                    have hF3567 := Fr.tr hF3553 hF3564 rfl rfl
                    have x3570 := HI.eqI hI3563 (p := 231) (b := 11) ((((hF3564.1 231 11 (by decide)).trans ((hF3550.1 231 11 (by decide)).trans ((hF3540.1 231 11 (by decide)).trans ((hF2767.1 231 11 (by decide)).trans ((hF2755.1 231 11 (by decide)).trans ((hF2741.1 231 11 (by decide)).trans ((hF2727.1 231 11 (by decide)).trans (hF2713.1 231 11 (by decide))))))))).trans hv4))
                    have hb3571 : BL (CDM g0 = 25) v3565.toInt := by have z := ISM.sign (c := 25) hr3566.2.2 (TKM.c hK (((hF3550.2.1 236 (by decide)).trans ((hF3540.2.1 236 (by decide)).trans ((hF2767.2.1 236 (by decide)).trans ((hF2755.2.1 236 (by decide)).trans ((hF2741.2.1 236 (by decide)).trans ((hF2727.2.1 236 (by decide)).trans (hF2713.2.1 236 (by decide))))))))) (((hF3550.1 231 8 (by decide)).trans ((hF3540.1 231 8 (by decide)).trans ((hF2767.1 231 8 (by decide)).trans ((hF2755.1 231 8 (by decide)).trans ((hF2741.1 231 8 (by decide)).trans ((hF2727.1 231 8 (by decide)).trans (hF2713.1 231 8 (by decide))))))))) (((hF3550.1 231 9 (by decide)).trans ((hF3540.1 231 9 (by decide)).trans ((hF2767.1 231 9 (by decide)).trans ((hF2755.1 231 9 (by decide)).trans ((hF2741.1 231 9 (by decide)).trans ((hF2727.1 231 9 (by decide)).trans (hF2713.1 231 9 (by decide))))))))) (((hF3550.1 231 10 (by decide)).trans ((hF3540.1 231 10 (by decide)).trans ((hF2767.1 231 10 (by decide)).trans ((hF2755.1 231 10 (by decide)).trans ((hF2741.1 231 10 (by decide)).trans ((hF2727.1 231 10 (by decide)).trans (hF2713.1 231 10 (by decide))))))))) (((hF3550.1 231 11 (by decide)).trans ((hF3540.1 231 11 (by decide)).trans ((hF2767.1 231 11 (by decide)).trans ((hF2755.1 231 11 (by decide)).trans ((hF2741.1 231 11 (by decide)).trans ((hF2727.1 231 11 (by decide)).trans (hF2713.1 231 11 (by decide))))))))) (((hF3550.2.2 231 12 (by decide)).trans ((hF3540.2.2 231 12 (by decide)).trans ((hF2767.2.2 231 12 (by decide)).trans ((hF2755.2.2 231 12 (by decide)).trans ((hF2741.2.2 231 12 (by decide)).trans ((hF2727.2.2 231 12 (by decide)).trans (hF2713.2.2 231 12 (by decide)))))))))) (isSC_d (by omega)) (by decide +kernel); rw [CDM.c (((hF3550.2.1 236 (by decide)).trans ((hF3540.2.1 236 (by decide)).trans ((hF2767.2.1 236 (by decide)).trans ((hF2755.2.1 236 (by decide)).trans ((hF2741.2.1 236 (by decide)).trans ((hF2727.2.1 236 (by decide)).trans (hF2713.2.1 236 (by decide))))))))) (((hF3550.1 231 9 (by decide)).trans ((hF3540.1 231 9 (by decide)).trans ((hF2767.1 231 9 (by decide)).trans ((hF2755.1 231 9 (by decide)).trans ((hF2741.1 231 9 (by decide)).trans ((hF2727.1 231 9 (by decide)).trans (hF2713.1 231 9 (by decide))))))))) (((hF3550.1 231 10 (by decide)).trans ((hF3540.1 231 10 (by decide)).trans ((hF2767.1 231 10 (by decide)).trans ((hF2755.1 231 10 (by decide)).trans ((hF2741.1 231 10 (by decide)).trans ((hF2727.1 231 10 (by decide)).trans (hF2713.1 231 10 (by decide))))))))) (((hF3550.1 231 11 (by decide)).trans ((hF3540.1 231 11 (by decide)).trans ((hF2767.1 231 11 (by decide)).trans ((hF2755.1 231 11 (by decide)).trans ((hF2741.1 231 11 (by decide)).trans ((hF2727.1 231 11 (by decide)).trans (hF2713.1 231 11 (by decide)))))))))] at z; exact z
                    refine At.enter rfl ?_
                    refine r_ifs 181 rfl (fun c3572 => ?_) (fun c3572 => ?_)
                    · have c3572_ : v3565.toInt = 0 := en_k_eq_t c3572
                      have i3573 := BL.no hb3571 (by omega)
                      refine At.enter rfl ?_
                      refine r_bipush 26 rfl ?_
                      refine Ar.fall 188 rfl ?_
                      refine At.enter rfl ?_
                      refine r_istore_n ([(2, .int 26), (3, .int v2768), (0, .ref 231), (1, .int a1)]) rfl ?_
                      refine r_aload_n rfl ?_
                      refine r_iload_n rfl ?_
                      refine r_bipush 26 rfl ?_
                      refine r_icf 196 rfl (by decide) ?_
                      refine At.enter rfl ?_
                      refine r_aload_n rfl ?_
                      refine r_bipush 61 rfl ?_
                      have zv3575 : (61 : Int32).toInt = 61 := rfl
                      refine r_callV 202 rfl [.ref 231, .int 61] [.ref 231] (Nat.le_of_ble_eq_true rfl) rfl (T_X11_isSign_231 _ hI3563 61 (by omega)) ?_
                      rintro _ _ ⟨g3576, rfl, hI3577, hF3578, v3579, rfl, hr3580⟩
                      refine At.sti ?_
                      have hF3581 := Fr.tr hF3567 hF3578 rfl rfl
                      have x3584 := HI.eqI hI3577 (p := 231) (b := 11) ((((hF3578.1 231 11 (by decide)).trans ((hF3564.1 231 11 (by decide)).trans ((hF3550.1 231 11 (by decide)).trans ((hF3540.1 231 11 (by decide)).trans ((hF2767.1 231 11 (by decide)).trans ((hF2755.1 231 11 (by decide)).trans ((hF2741.1 231 11 (by decide)).trans ((hF2727.1 231 11 (by decide)).trans (hF2713.1 231 11 (by decide)))))))))).trans hv4))
                      have hb3585 : BL (CDM g0 = 26) v3579.toInt := by have z := ISM.sign (c := 26) hr3580.2.2 (TKM.c hK (((hF3564.2.1 236 (by decide)).trans ((hF3550.2.1 236 (by decide)).trans ((hF3540.2.1 236 (by decide)).trans ((hF2767.2.1 236 (by decide)).trans ((hF2755.2.1 236 (by decide)).trans ((hF2741.2.1 236 (by decide)).trans ((hF2727.2.1 236 (by decide)).trans (hF2713.2.1 236 (by decide)))))))))) (((hF3564.1 231 8 (by decide)).trans ((hF3550.1 231 8 (by decide)).trans ((hF3540.1 231 8 (by decide)).trans ((hF2767.1 231 8 (by decide)).trans ((hF2755.1 231 8 (by decide)).trans ((hF2741.1 231 8 (by decide)).trans ((hF2727.1 231 8 (by decide)).trans (hF2713.1 231 8 (by decide)))))))))) (((hF3564.1 231 9 (by decide)).trans ((hF3550.1 231 9 (by decide)).trans ((hF3540.1 231 9 (by decide)).trans ((hF2767.1 231 9 (by decide)).trans ((hF2755.1 231 9 (by decide)).trans ((hF2741.1 231 9 (by decide)).trans ((hF2727.1 231 9 (by decide)).trans (hF2713.1 231 9 (by decide)))))))))) (((hF3564.1 231 10 (by decide)).trans ((hF3550.1 231 10 (by decide)).trans ((hF3540.1 231 10 (by decide)).trans ((hF2767.1 231 10 (by decide)).trans ((hF2755.1 231 10 (by decide)).trans ((hF2741.1 231 10 (by decide)).trans ((hF2727.1 231 10 (by decide)).trans (hF2713.1 231 10 (by decide)))))))))) (((hF3564.1 231 11 (by decide)).trans ((hF3550.1 231 11 (by decide)).trans ((hF3540.1 231 11 (by decide)).trans ((hF2767.1 231 11 (by decide)).trans ((hF2755.1 231 11 (by decide)).trans ((hF2741.1 231 11 (by decide)).trans ((hF2727.1 231 11 (by decide)).trans (hF2713.1 231 11 (by decide)))))))))) (((hF3564.2.2 231 12 (by decide)).trans ((hF3550.2.2 231 12 (by decide)).trans ((hF3540.2.2 231 12 (by decide)).trans ((hF2767.2.2 231 12 (by decide)).trans ((hF2755.2.2 231 12 (by decide)).trans ((hF2741.2.2 231 12 (by decide)).trans ((hF2727.2.2 231 12 (by decide)).trans (hF2713.2.2 231 12 (by decide))))))))))) (isSC_d (by omega)) (by decide +kernel); rw [CDM.c (((hF3564.2.1 236 (by decide)).trans ((hF3550.2.1 236 (by decide)).trans ((hF3540.2.1 236 (by decide)).trans ((hF2767.2.1 236 (by decide)).trans ((hF2755.2.1 236 (by decide)).trans ((hF2741.2.1 236 (by decide)).trans ((hF2727.2.1 236 (by decide)).trans (hF2713.2.1 236 (by decide)))))))))) (((hF3564.1 231 9 (by decide)).trans ((hF3550.1 231 9 (by decide)).trans ((hF3540.1 231 9 (by decide)).trans ((hF2767.1 231 9 (by decide)).trans ((hF2755.1 231 9 (by decide)).trans ((hF2741.1 231 9 (by decide)).trans ((hF2727.1 231 9 (by decide)).trans (hF2713.1 231 9 (by decide)))))))))) (((hF3564.1 231 10 (by decide)).trans ((hF3550.1 231 10 (by decide)).trans ((hF3540.1 231 10 (by decide)).trans ((hF2767.1 231 10 (by decide)).trans ((hF2755.1 231 10 (by decide)).trans ((hF2741.1 231 10 (by decide)).trans ((hF2727.1 231 10 (by decide)).trans (hF2713.1 231 10 (by decide)))))))))) (((hF3564.1 231 11 (by decide)).trans ((hF3550.1 231 11 (by decide)).trans ((hF3540.1 231 11 (by decide)).trans ((hF2767.1 231 11 (by decide)).trans ((hF2755.1 231 11 (by decide)).trans ((hF2741.1 231 11 (by decide)).trans ((hF2727.1 231 11 (by decide)).trans (hF2713.1 231 11 (by decide))))))))))] at z; exact z
                      refine At.enter rfl ?_
                      refine r_ifs 205 rfl (fun c3586 => ?_) (fun c3586 => ?_)
                      · have c3586_ : v3579.toInt = 0 := en_k_eq_t c3586
                        have i3587 := BL.no hb3585 (by omega)
                        refine At.enter rfl ?_
                        refine r_iconst 0 rfl ?_
                        refine Ar.fall 210 rfl ?_
                        refine At.enter rfl ?_
                        have x3588 := HI.eqI hI3577 (p := 231) (b := 8) ((((hF3578.1 231 8 (by decide)).trans ((hF3564.1 231 8 (by decide)).trans ((hF3550.1 231 8 (by decide)).trans ((hF3540.1 231 8 (by decide)).trans ((hF2767.1 231 8 (by decide)).trans ((hF2755.1 231 8 (by decide)).trans ((hF2741.1 231 8 (by decide)).trans ((hF2727.1 231 8 (by decide)).trans (hF2713.1 231 8 (by decide)))))))))).trans hv1))
                        have x3589 := HI.eqI hI3577 (p := 231) (b := 9) ((((hF3578.1 231 9 (by decide)).trans ((hF3564.1 231 9 (by decide)).trans ((hF3550.1 231 9 (by decide)).trans ((hF3540.1 231 9 (by decide)).trans ((hF2767.1 231 9 (by decide)).trans ((hF2755.1 231 9 (by decide)).trans ((hF2741.1 231 9 (by decide)).trans ((hF2727.1 231 9 (by decide)).trans (hF2713.1 231 9 (by decide)))))))))).trans hv2))
                        have x3590 := HI.eqI hI3577 (p := 231) (b := 10) ((((hF3578.1 231 10 (by decide)).trans ((hF3564.1 231 10 (by decide)).trans ((hF3550.1 231 10 (by decide)).trans ((hF3540.1 231 10 (by decide)).trans ((hF2767.1 231 10 (by decide)).trans ((hF2755.1 231 10 (by decide)).trans ((hF2741.1 231 10 (by decide)).trans ((hF2727.1 231 10 (by decide)).trans (hF2713.1 231 10 (by decide)))))))))).trans hv3))
                        have w263592 := W26.cong hW hI3577 (((hF3578.1 231 9 (by decide)).trans ((hF3564.1 231 9 (by decide)).trans ((hF3550.1 231 9 (by decide)).trans ((hF3540.1 231 9 (by decide)).trans ((hF2767.1 231 9 (by decide)).trans ((hF2755.1 231 9 (by decide)).trans ((hF2741.1 231 9 (by decide)).trans ((hF2727.1 231 9 (by decide)).trans (hF2713.1 231 9 (by decide))))))))))) (((hF3578.1 231 10 (by decide)).trans ((hF3564.1 231 10 (by decide)).trans ((hF3550.1 231 10 (by decide)).trans ((hF3540.1 231 10 (by decide)).trans ((hF2767.1 231 10 (by decide)).trans ((hF2755.1 231 10 (by decide)).trans ((hF2741.1 231 10 (by decide)).trans ((hF2727.1 231 10 (by decide)).trans (hF2713.1 231 10 (by decide))))))))))) (((hF3578.1 231 11 (by decide)).trans ((hF3564.1 231 11 (by decide)).trans ((hF3550.1 231 11 (by decide)).trans ((hF3540.1 231 11 (by decide)).trans ((hF2767.1 231 11 (by decide)).trans ((hF2755.1 231 11 (by decide)).trans ((hF2741.1 231 11 (by decide)).trans ((hF2727.1 231 11 (by decide)).trans (hF2713.1 231 11 (by decide))))))))))) (((hF3578.2.2 231 12 (by decide)).trans ((hF3564.2.2 231 12 (by decide)).trans ((hF3550.2.2 231 12 (by decide)).trans ((hF3540.2.2 231 12 (by decide)).trans ((hF2767.2.2 231 12 (by decide)).trans ((hF2755.2.2 231 12 (by decide)).trans ((hF2741.2.2 231 12 (by decide)).trans ((hF2727.2.2 231 12 (by decide)).trans (hF2713.2.2 231 12 (by decide)))))))))))
                        have zv3593 : (0 : Int32).toInt = 0 := rfl
                        refine r_callV 213 rfl [.ref 231, .int 0] [] (Nat.le_of_ble_eq_true rfl) rfl (T_X11_must_231 _ hI3577 0 (by decide) (by refine ⟨?_, ?_, ?_, ?_⟩ <;> omega) w263592 (TKM.c hK (((hF3578.2.1 236 (by decide)).trans ((hF3564.2.1 236 (by decide)).trans ((hF3550.2.1 236 (by decide)).trans ((hF3540.2.1 236 (by decide)).trans ((hF2767.2.1 236 (by decide)).trans ((hF2755.2.1 236 (by decide)).trans ((hF2741.2.1 236 (by decide)).trans ((hF2727.2.1 236 (by decide)).trans (hF2713.2.1 236 (by decide))))))))))) (((hF3578.1 231 8 (by decide)).trans ((hF3564.1 231 8 (by decide)).trans ((hF3550.1 231 8 (by decide)).trans ((hF3540.1 231 8 (by decide)).trans ((hF2767.1 231 8 (by decide)).trans ((hF2755.1 231 8 (by decide)).trans ((hF2741.1 231 8 (by decide)).trans ((hF2727.1 231 8 (by decide)).trans (hF2713.1 231 8 (by decide))))))))))) (((hF3578.1 231 9 (by decide)).trans ((hF3564.1 231 9 (by decide)).trans ((hF3550.1 231 9 (by decide)).trans ((hF3540.1 231 9 (by decide)).trans ((hF2767.1 231 9 (by decide)).trans ((hF2755.1 231 9 (by decide)).trans ((hF2741.1 231 9 (by decide)).trans ((hF2727.1 231 9 (by decide)).trans (hF2713.1 231 9 (by decide))))))))))) (((hF3578.1 231 10 (by decide)).trans ((hF3564.1 231 10 (by decide)).trans ((hF3550.1 231 10 (by decide)).trans ((hF3540.1 231 10 (by decide)).trans ((hF2767.1 231 10 (by decide)).trans ((hF2755.1 231 10 (by decide)).trans ((hF2741.1 231 10 (by decide)).trans ((hF2727.1 231 10 (by decide)).trans (hF2713.1 231 10 (by decide))))))))))) (((hF3578.1 231 11 (by decide)).trans ((hF3564.1 231 11 (by decide)).trans ((hF3550.1 231 11 (by decide)).trans ((hF3540.1 231 11 (by decide)).trans ((hF2767.1 231 11 (by decide)).trans ((hF2755.1 231 11 (by decide)).trans ((hF2741.1 231 11 (by decide)).trans ((hF2727.1 231 11 (by decide)).trans (hF2713.1 231 11 (by decide))))))))))) (((hF3578.2.2 231 12 (by decide)).trans ((hF3564.2.2 231 12 (by decide)).trans ((hF3550.2.2 231 12 (by decide)).trans ((hF3540.2.2 231 12 (by decide)).trans ((hF2767.2.2 231 12 (by decide)).trans ((hF2755.2.2 231 12 (by decide)).trans ((hF2741.2.2 231 12 (by decide)).trans ((hF2727.2.2 231 12 (by decide)).trans (hF2713.2.2 231 12 (by decide))))))))))))) ?_
                        rintro _ _ ⟨g3594, rfl, hI3595, hF3596, rfl, hr3598⟩
                        refine At.stn ?_
                        have hF3599 := Fr.tr hF3581 hF3596 rfl rfl
                        have x3605 := HI.eqI hI3577 (p := 231) (b := 14) ((((hF3578.1 231 14 (by decide)).trans ((hF3564.1 231 14 (by decide)).trans ((hF3550.1 231 14 (by decide)).trans ((hF3540.1 231 14 (by decide)).trans ((hF2767.1 231 14 (by decide)).trans ((hF2755.1 231 14 (by decide)).trans ((hF2741.1 231 14 (by decide)).trans ((hF2727.1 231 14 (by decide)).trans (hF2713.1 231 14 (by decide)))))))))).trans hv6))
                        have x3606 := HI.eqI hI3595 (p := 231) (b := 8) ((((hF3596.1 231 8 (by decide)).trans ((hF3578.1 231 8 (by decide)).trans ((hF3564.1 231 8 (by decide)).trans ((hF3550.1 231 8 (by decide)).trans ((hF3540.1 231 8 (by decide)).trans ((hF2767.1 231 8 (by decide)).trans ((hF2755.1 231 8 (by decide)).trans ((hF2741.1 231 8 (by decide)).trans ((hF2727.1 231 8 (by decide)).trans (hF2713.1 231 8 (by decide))))))))))).trans hv1))
                        obtain ⟨v3607, hv3607⟩ : ∃ v, gI g3594 231 9 = v := ⟨_, rfl⟩
                        have rv3607 := RgF.at hI3595.2.1 (p := 231) (b := 9) rfl
                        rw [hv3607] at rv3607
                        dsimp only at rv3607
                        have tv3607 := congrArg Int32.toInt hv3607
                        have x3608 := HI.eqI hI3595 (p := 231) (b := 9) (hv3607)
                        obtain ⟨v3609, hv3609⟩ : ∃ v, gI g3594 231 10 = v := ⟨_, rfl⟩
                        have rv3609 := RgF.at hI3595.2.1 (p := 231) (b := 10) rfl
                        rw [hv3609] at rv3609
                        dsimp only at rv3609
                        have tv3609 := congrArg Int32.toInt hv3609
                        have x3610 := HI.eqI hI3595 (p := 231) (b := 10) (hv3609)
                        obtain ⟨v3611, hv3611⟩ : ∃ v, gI g3594 231 11 = v := ⟨_, rfl⟩
                        have tv3611 := congrArg Int32.toInt hv3611
                        have x3612 := HI.eqI hI3595 (p := 231) (b := 11) (hv3611)
                        obtain ⟨v3613, hv3613⟩ : ∃ v, gI g3594 231 14 = v := ⟨_, rfl⟩
                        have tv3613 := congrArg Int32.toInt hv3613
                        have x3614 := HI.eqI hI3595 (p := 231) (b := 14) (hv3613)
                        obtain ⟨c3615, c3616, c3617, c3618, c3619, c3620, c3621, c3622⟩ := hr3598
                        obtain ⟨v3623, hv3623⟩ : ∃ v, gI g0 231 13 = v := ⟨_, rfl⟩
                        have tv3623 := congrArg Int32.toInt hv3623
                        have x3624 := HI.eqI hI3577 (p := 231) (b := 13) ((((hF3578.1 231 13 (by decide)).trans ((hF3564.1 231 13 (by decide)).trans ((hF3550.1 231 13 (by decide)).trans ((hF3540.1 231 13 (by decide)).trans ((hF2767.1 231 13 (by decide)).trans ((hF2755.1 231 13 (by decide)).trans ((hF2741.1 231 13 (by decide)).trans ((hF2727.1 231 13 (by decide)).trans (hF2713.1 231 13 (by decide)))))))))).trans hv3623))
                        obtain ⟨v3626, hv3626⟩ : ∃ v, gI g3594 231 13 = v := ⟨_, rfl⟩
                        have tv3626 := congrArg Int32.toInt hv3626
                        have x3627 := HI.eqI hI3595 (p := 231) (b := 13) (hv3626)
                        unfold MUSTP at c3622
                        rw [TM.c (((hF3578.2.1 236 (by decide)).trans ((hF3564.2.1 236 (by decide)).trans ((hF3550.2.1 236 (by decide)).trans ((hF3540.2.1 236 (by decide)).trans ((hF2767.2.1 236 (by decide)).trans ((hF2755.2.1 236 (by decide)).trans ((hF2741.2.1 236 (by decide)).trans ((hF2727.2.1 236 (by decide)).trans (hF2713.2.1 236 (by decide))))))))))), nM.c (((hF3578.1 231 8 (by decide)).trans ((hF3564.1 231 8 (by decide)).trans ((hF3550.1 231 8 (by decide)).trans ((hF3540.1 231 8 (by decide)).trans ((hF2767.1 231 8 (by decide)).trans ((hF2755.1 231 8 (by decide)).trans ((hF2741.1 231 8 (by decide)).trans ((hF2727.1 231 8 (by decide)).trans (hF2713.1 231 8 (by decide))))))))))), pI.c (b := 14) (((hF3578.1 231 14 (by decide)).trans ((hF3564.1 231 14 (by decide)).trans ((hF3550.1 231 14 (by decide)).trans ((hF3540.1 231 14 (by decide)).trans ((hF2767.1 231 14 (by decide)).trans ((hF2755.1 231 14 (by decide)).trans ((hF2741.1 231 14 (by decide)).trans ((hF2727.1 231 14 (by decide)).trans (hF2713.1 231 14 (by decide))))))))))), pI.c (b := 13) (((hF3578.1 231 13 (by decide)).trans ((hF3564.1 231 13 (by decide)).trans ((hF3550.1 231 13 (by decide)).trans ((hF3540.1 231 13 (by decide)).trans ((hF2767.1 231 13 (by decide)).trans ((hF2755.1 231 13 (by decide)).trans ((hF2741.1 231 13 (by decide)).trans ((hF2727.1 231 13 (by decide)).trans (hF2713.1 231 13 (by decide))))))))))), pI.c (b := 10) (((hF3578.1 231 10 (by decide)).trans ((hF3564.1 231 10 (by decide)).trans ((hF3550.1 231 10 (by decide)).trans ((hF3540.1 231 10 (by decide)).trans ((hF2767.1 231 10 (by decide)).trans ((hF2755.1 231 10 (by decide)).trans ((hF2741.1 231 10 (by decide)).trans ((hF2727.1 231 10 (by decide)).trans (hF2713.1 231 10 (by decide))))))))))), pI.c (b := 9) (((hF3578.1 231 9 (by decide)).trans ((hF3564.1 231 9 (by decide)).trans ((hF3550.1 231 9 (by decide)).trans ((hF3540.1 231 9 (by decide)).trans ((hF2767.1 231 9 (by decide)).trans ((hF2755.1 231 9 (by decide)).trans ((hF2741.1 231 9 (by decide)).trans ((hF2727.1 231 9 (by decide)).trans (hF2713.1 231 9 (by decide)))))))))))] at c3622
                        have mu3628 : MUSTP g0 g3594 0 := c3622
                        clear c3622
                        have hK3629 := mu3628.1
                        refine At.enter rfl ?_
                        refine r_aload_n rfl ?_
                        refine q_getI (Sh.int hI3595.1 kx_231 rfl) v3613 hv3613 ?_
                        refine r_ifs 220 rfl (fun c3630 => ?_) (fun c3630 => ?_)
                        · have c3630_ : v3613.toInt ≠ 0 := en_k_ne_t c3630
                          clear c3621
                          obtain ⟨i3631, i3632⟩ := MUSTP.y mu3628 (by omega) (by omega)
                          refine At.enter rfl ?_
                          refine r_iconst 1 rfl ?_
                          refine r_ireti ?_
                          obtain ⟨v3637, hv3637⟩ : ∃ v, gJ g3594 231 12 = v := ⟨_, rfl⟩
                          have x3638 := HI.eqJ hI3595 (b := 12) (hv3637)
                          have x3640 := HI.eqI hI3595 (p := 231) (b := 17) ((((hF3596.1 231 17 (by decide)).trans ((hF3578.1 231 17 (by decide)).trans ((hF3564.1 231 17 (by decide)).trans ((hF3550.1 231 17 (by decide)).trans ((hF3540.1 231 17 (by decide)).trans ((hF2767.1 231 17 (by decide)).trans ((hF2755.1 231 17 (by decide)).trans ((hF2741.1 231 17 (by decide)).trans ((hF2727.1 231 17 (by decide)).trans (hF2713.1 231 17 (by decide))))))))))).trans hv7))
                          have x3641 := HI.eqI hI3595 (p := 231) (b := 23) ((((hF3596.1 231 23 (by decide)).trans ((hF3578.1 231 23 (by decide)).trans ((hF3564.1 231 23 (by decide)).trans ((hF3550.1 231 23 (by decide)).trans ((hF3540.1 231 23 (by decide)).trans ((hF2767.1 231 23 (by decide)).trans ((hF2755.1 231 23 (by decide)).trans ((hF2741.1 231 23 (by decide)).trans ((hF2727.1 231 23 (by decide)).trans (hF2713.1 231 23 (by decide))))))))))).trans hv8))
                          have x3642 := HI.eqI hI0 (p := 231) (b := 9) (hv2)
                          have zv3643 : (1 : Int32).toInt = 1 := rfl
                          obtain ⟨v3647, hv3647⟩ : ∃ v, gI g0 231 15 = v := ⟨_, rfl⟩
                          have rv3647 := RgF.at hI0.2.1 (p := 231) (b := 15) rfl
                          rw [hv3647] at rv3647
                          dsimp only at rv3647
                          have tv3647 := congrArg Int32.toInt hv3647
                          have x3648 := HI.eqI hI3595 (p := 231) (b := 15) ((((hF3596.1 231 15 (by decide)).trans ((hF3578.1 231 15 (by decide)).trans ((hF3564.1 231 15 (by decide)).trans ((hF3550.1 231 15 (by decide)).trans ((hF3540.1 231 15 (by decide)).trans ((hF2767.1 231 15 (by decide)).trans ((hF2755.1 231 15 (by decide)).trans ((hF2741.1 231 15 (by decide)).trans ((hF2727.1 231 15 (by decide)).trans (hF2713.1 231 15 (by decide))))))))))).trans hv3647))
                          obtain ⟨v3649, hv3649⟩ : ∃ v, gI g0 231 20 = v := ⟨_, rfl⟩
                          have tv3649 := congrArg Int32.toInt hv3649
                          have x3650 := HI.eqI hI3595 (p := 231) (b := 20) ((((hF3596.1 231 20 (by decide)).trans ((hF3578.1 231 20 (by decide)).trans ((hF3564.1 231 20 (by decide)).trans ((hF3550.1 231 20 (by decide)).trans ((hF3540.1 231 20 (by decide)).trans ((hF2767.1 231 20 (by decide)).trans ((hF2755.1 231 20 (by decide)).trans ((hF2741.1 231 20 (by decide)).trans ((hF2727.1 231 20 (by decide)).trans (hF2713.1 231 20 (by decide))))))))))).trans hv3649))
                          obtain ⟨v3652, hv3652⟩ : ∃ v, gI g0 231 24 = v := ⟨_, rfl⟩
                          have tv3652 := congrArg Int32.toInt hv3652
                          have x3653 := HI.eqI hI3595 (p := 231) (b := 24) ((((hF3596.1 231 24 (by decide)).trans ((hF3578.1 231 24 (by decide)).trans ((hF3564.1 231 24 (by decide)).trans ((hF3550.1 231 24 (by decide)).trans ((hF3540.1 231 24 (by decide)).trans ((hF2767.1 231 24 (by decide)).trans ((hF2755.1 231 24 (by decide)).trans ((hF2741.1 231 24 (by decide)).trans ((hF2727.1 231 24 (by decide)).trans (hF2713.1 231 24 (by decide))))))))))).trans hv3652))
                          have x3655 := HI.eqI hI0 (p := 231) (b := 13) (hv3623)
                          have x3656 := HI.eqI hI0 (p := 231) (b := 14) (hv6)
                          have x3657 := HI.eqI hI0 (p := 231) (b := 15) (hv3647)
                          have x3658 := HI.eqI hI0 (p := 231) (b := 20) (hv3649)
                          have x3659 := HI.eqI hI0 (p := 231) (b := 23) (hv8)
                          have x3660 := HI.eqI hI0 (p := 231) (b := 24) (hv3652)
                          have mf3661 := mu3628.2.2.1 (show (gI g0 231 14).toInt = 0 from by omega) (by omega)
                          have y3662 : (gI _ 231 14).toInt ≠ 0 := mf3661.1
                          have y3663 : (gI _ 231 13).toInt = (gI g0 231 9).toInt := mf3661.2
                          exact ⟨_, rfl, hI3595, hF3599, _, rfl, by decide, ⟨by omega, by omega, by omega, by omega, c3620, by omega, by omega, (fun hbad => ⟨by omega, (PT.mk (fun h => False.elim (by omega)) (fun h => False.elim (by omega)) (fun h h9 => False.elim (by omega)) (fun h => False.elim (by omega)))⟩), (fun hbad => by omega), hK3629, (fun c0 b hC h => M.cmpF h (fun z i => HBT.b4 hC i inn2772 (by omega) (by omega)) (TKM.some hK).choose_spec (by omega) (by omega) inn2772 (by omega) cm3544 (by omega) (fun _ => ⟨show (gI _ 231 14).toInt ≠ 0 from by omega, show (gI _ 231 13).toInt = (gI g0 231 9).toInt from by omega⟩) (fun z => absurd (show (gI g0 231 14).toInt = 0 from by omega) z) _), (fun h14 c0 b K hC h => absurd (show (gI _ 231 14).toInt = 0 from h14) (by omega))⟩⟩
                        · have c3630_ : v3613.toInt = 0 := en_k_ne_f c3630
                          obtain ⟨i3664, i3665, i3666⟩ := c3621 (by omega)
                          obtain ⟨i3667, i3668⟩ := MUSTP.z mu3628 (by omega) (by omega)
                          refine At.enter rfl ?_
                          refine r_aload_n rfl ?_
                          refine r_iconst 5 rfl ?_
                          have x3669 := HI.eqI hI3595 (p := 231) (b := 17) ((((hF3596.1 231 17 (by decide)).trans ((hF3578.1 231 17 (by decide)).trans ((hF3564.1 231 17 (by decide)).trans ((hF3550.1 231 17 (by decide)).trans ((hF3540.1 231 17 (by decide)).trans ((hF2767.1 231 17 (by decide)).trans ((hF2755.1 231 17 (by decide)).trans ((hF2741.1 231 17 (by decide)).trans ((hF2727.1 231 17 (by decide)).trans (hF2713.1 231 17 (by decide))))))))))).trans hv7))
                          have x3670 := HI.eqI hI3595 (p := 231) (b := 23) ((((hF3596.1 231 23 (by decide)).trans ((hF3578.1 231 23 (by decide)).trans ((hF3564.1 231 23 (by decide)).trans ((hF3550.1 231 23 (by decide)).trans ((hF3540.1 231 23 (by decide)).trans ((hF2767.1 231 23 (by decide)).trans ((hF2755.1 231 23 (by decide)).trans ((hF2741.1 231 23 (by decide)).trans ((hF2727.1 231 23 (by decide)).trans (hF2713.1 231 23 (by decide))))))))))).trans hv8))
                          have zv3671 : (5 : Int32).toInt = 5 := rfl
                          refine r_callV 225 rfl [.ref 231, .int 5] [] (Nat.le_of_ble_eq_true rfl) rfl (T_X11_settle_231 _ hI3595 5 (by decide) (by omega)) ?_
                          rintro _ _ ⟨g3672, rfl, hI3673, hF3674, rfl, hr3676⟩
                          refine At.stn ?_
                          have hF3677 := Fr.tr hF3599 hF3674 rfl rfl
                          obtain ⟨sp3679, sq3680, sg3681⟩ := hr3676
                          have sq3682 := SETQ.fr sq3680 (((hF3596.2.1 240 (by decide)).trans ((hF3578.2.1 240 (by decide)).trans ((hF3564.2.1 240 (by decide)).trans ((hF3550.2.1 240 (by decide)).trans ((hF3540.2.1 240 (by decide)).trans ((hF2767.2.1 240 (by decide)).trans ((hF2755.2.1 240 (by decide)).trans ((hF2741.2.1 240 (by decide)).trans ((hF2727.2.1 240 (by decide)).trans (hF2713.2.1 240 (by decide)))))))))))) (((hF3596.1 231 23 (by decide)).trans ((hF3578.1 231 23 (by decide)).trans ((hF3564.1 231 23 (by decide)).trans ((hF3550.1 231 23 (by decide)).trans ((hF3540.1 231 23 (by decide)).trans ((hF2767.1 231 23 (by decide)).trans ((hF2755.1 231 23 (by decide)).trans ((hF2741.1 231 23 (by decide)).trans ((hF2727.1 231 23 (by decide)).trans (hF2713.1 231 23 (by decide))))))))))))
                          have sg3683 := SETG_fr sg3681 (((hF3596.2.1 240 (by decide)).trans ((hF3578.2.1 240 (by decide)).trans ((hF3564.2.1 240 (by decide)).trans ((hF3550.2.1 240 (by decide)).trans ((hF3540.2.1 240 (by decide)).trans ((hF2767.2.1 240 (by decide)).trans ((hF2755.2.1 240 (by decide)).trans ((hF2741.2.1 240 (by decide)).trans ((hF2727.2.1 240 (by decide)).trans (hF2713.2.1 240 (by decide)))))))))))) (((hF3596.2.1 241 (by decide)).trans ((hF3578.2.1 241 (by decide)).trans ((hF3564.2.1 241 (by decide)).trans ((hF3550.2.1 241 (by decide)).trans ((hF3540.2.1 241 (by decide)).trans ((hF2767.2.1 241 (by decide)).trans ((hF2755.2.1 241 (by decide)).trans ((hF2741.2.1 241 (by decide)).trans ((hF2727.2.1 241 (by decide)).trans (hF2713.2.1 241 (by decide)))))))))))) (((hF3596.1 231 23 (by decide)).trans ((hF3578.1 231 23 (by decide)).trans ((hF3564.1 231 23 (by decide)).trans ((hF3550.1 231 23 (by decide)).trans ((hF3540.1 231 23 (by decide)).trans ((hF2767.1 231 23 (by decide)).trans ((hF2755.1 231 23 (by decide)).trans ((hF2741.1 231 23 (by decide)).trans ((hF2727.1 231 23 (by decide)).trans (hF2713.1 231 23 (by decide)))))))))))) (SMG_mk (((hF3596.2.1 238 (by decide)).trans ((hF3578.2.1 238 (by decide)).trans ((hF3564.2.1 238 (by decide)).trans ((hF3550.2.1 238 (by decide)).trans ((hF3540.2.1 238 (by decide)).trans ((hF2767.2.1 238 (by decide)).trans ((hF2755.2.1 238 (by decide)).trans ((hF2741.2.1 238 (by decide)).trans ((hF2727.2.1 238 (by decide)).trans (hF2713.2.1 238 (by decide)))))))))))) (((hF3596.2.1 239 (by decide)).trans ((hF3578.2.1 239 (by decide)).trans ((hF3564.2.1 239 (by decide)).trans ((hF3550.2.1 239 (by decide)).trans ((hF3540.2.1 239 (by decide)).trans ((hF2767.2.1 239 (by decide)).trans ((hF2755.2.1 239 (by decide)).trans ((hF2741.2.1 239 (by decide)).trans ((hF2727.2.1 239 (by decide)).trans (hF2713.2.1 239 (by decide)))))))))))) (((hF3596.1 231 17 (by decide)).trans ((hF3578.1 231 17 (by decide)).trans ((hF3564.1 231 17 (by decide)).trans ((hF3550.1 231 17 (by decide)).trans ((hF3540.1 231 17 (by decide)).trans ((hF2767.1 231 17 (by decide)).trans ((hF2755.1 231 17 (by decide)).trans ((hF2741.1 231 17 (by decide)).trans ((hF2727.1 231 17 (by decide)).trans (hF2713.1 231 17 (by decide)))))))))))))
                          obtain ⟨v3686, hv3686⟩ : ∃ v, gI g3672 231 17 = v := ⟨_, rfl⟩
                          have rv3686 := RgF.at hI3673.2.1 (p := 231) (b := 17) rfl
                          rw [hv3686] at rv3686
                          dsimp only at rv3686
                          have tv3686 := congrArg Int32.toInt hv3686
                          have x3687 := HI.eqI hI3673 (p := 231) (b := 17) (hv3686)
                          obtain ⟨v3688, hv3688⟩ : ∃ v, gI g3672 231 23 = v := ⟨_, rfl⟩
                          have rv3688 := RgF.at hI3673.2.1 (p := 231) (b := 23) rfl
                          rw [hv3688] at rv3688
                          dsimp only at rv3688
                          have tv3688 := congrArg Int32.toInt hv3688
                          have x3689 := HI.eqI hI3673 (p := 231) (b := 23) (hv3688)
                          have y3690 : (gI _ 231 23).toInt ≤ (gI _ 231 23).toInt := sp3679.1
                          have y3691 : (gI _ 231 17).toInt + (gI _ 231 23).toInt ≤ (gI _ 231 17).toInt + (gI _ 231 23).toInt := sp3679.2.1
                          have inn3692 := INN.cong inn2771 hI3595 (((hF3596.2.1 240 (by decide)).trans ((hF3578.2.1 240 (by decide)).trans ((hF3564.2.1 240 (by decide)).trans ((hF3550.2.1 240 (by decide)).trans (hF3540.2.1 240 (by decide))))))) (((hF3596.1 231 23 (by decide)).trans ((hF3578.1 231 23 (by decide)).trans ((hF3564.1 231 23 (by decide)).trans ((hF3550.1 231 23 (by decide)).trans (hF3540.1 231 23 (by decide)))))))
                          have pg3693 := PG.cong (hP.2.1 (by decide)) hI3595 (((hF3596.2.1 238 (by decide)).trans ((hF3578.2.1 238 (by decide)).trans ((hF3564.2.1 238 (by decide)).trans ((hF3550.2.1 238 (by decide)).trans ((hF3540.2.1 238 (by decide)).trans ((hF2767.2.1 238 (by decide)).trans ((hF2755.2.1 238 (by decide)).trans ((hF2741.2.1 238 (by decide)).trans ((hF2727.2.1 238 (by decide)).trans (hF2713.2.1 238 (by decide)))))))))))) (((hF3596.2.1 239 (by decide)).trans ((hF3578.2.1 239 (by decide)).trans ((hF3564.2.1 239 (by decide)).trans ((hF3550.2.1 239 (by decide)).trans ((hF3540.2.1 239 (by decide)).trans ((hF2767.2.1 239 (by decide)).trans ((hF2755.2.1 239 (by decide)).trans ((hF2741.2.1 239 (by decide)).trans ((hF2727.2.1 239 (by decide)).trans (hF2713.2.1 239 (by decide)))))))))))) (((hF3596.2.1 240 (by decide)).trans ((hF3578.2.1 240 (by decide)).trans ((hF3564.2.1 240 (by decide)).trans ((hF3550.2.1 240 (by decide)).trans ((hF3540.2.1 240 (by decide)).trans ((hF2767.2.1 240 (by decide)).trans ((hF2755.2.1 240 (by decide)).trans ((hF2741.2.1 240 (by decide)).trans ((hF2727.2.1 240 (by decide)).trans (hF2713.2.1 240 (by decide)))))))))))) (((hF3596.2.1 241 (by decide)).trans ((hF3578.2.1 241 (by decide)).trans ((hF3564.2.1 241 (by decide)).trans ((hF3550.2.1 241 (by decide)).trans ((hF3540.2.1 241 (by decide)).trans ((hF2767.2.1 241 (by decide)).trans ((hF2755.2.1 241 (by decide)).trans ((hF2741.2.1 241 (by decide)).trans ((hF2727.2.1 241 (by decide)).trans (hF2713.2.1 241 (by decide)))))))))))) (((hF3596.1 231 17 (by decide)).trans ((hF3578.1 231 17 (by decide)).trans ((hF3564.1 231 17 (by decide)).trans ((hF3550.1 231 17 (by decide)).trans ((hF3540.1 231 17 (by decide)).trans ((hF2767.1 231 17 (by decide)).trans ((hF2755.1 231 17 (by decide)).trans ((hF2741.1 231 17 (by decide)).trans ((hF2727.1 231 17 (by decide)).trans (hF2713.1 231 17 (by decide)))))))))))) (((hF3596.1 231 23 (by decide)).trans ((hF3578.1 231 23 (by decide)).trans ((hF3564.1 231 23 (by decide)).trans ((hF3550.1 231 23 (by decide)).trans ((hF3540.1 231 23 (by decide)).trans ((hF2767.1 231 23 (by decide)).trans ((hF2755.1 231 23 (by decide)).trans ((hF2741.1 231 23 (by decide)).trans ((hF2727.1 231 23 (by decide)).trans (hF2713.1 231 23 (by decide))))))))))))
                          have nsq3694 := INN.nsq inn3692 pg3693 (by omega)
                          have pg3695 := PG.cong (hP.2.1 (by decide)) hI3595 (((hF3596.2.1 238 (by decide)).trans ((hF3578.2.1 238 (by decide)).trans ((hF3564.2.1 238 (by decide)).trans ((hF3550.2.1 238 (by decide)).trans ((hF3540.2.1 238 (by decide)).trans ((hF2767.2.1 238 (by decide)).trans ((hF2755.2.1 238 (by decide)).trans ((hF2741.2.1 238 (by decide)).trans ((hF2727.2.1 238 (by decide)).trans (hF2713.2.1 238 (by decide)))))))))))) (((hF3596.2.1 239 (by decide)).trans ((hF3578.2.1 239 (by decide)).trans ((hF3564.2.1 239 (by decide)).trans ((hF3550.2.1 239 (by decide)).trans ((hF3540.2.1 239 (by decide)).trans ((hF2767.2.1 239 (by decide)).trans ((hF2755.2.1 239 (by decide)).trans ((hF2741.2.1 239 (by decide)).trans ((hF2727.2.1 239 (by decide)).trans (hF2713.2.1 239 (by decide)))))))))))) (((hF3596.2.1 240 (by decide)).trans ((hF3578.2.1 240 (by decide)).trans ((hF3564.2.1 240 (by decide)).trans ((hF3550.2.1 240 (by decide)).trans ((hF3540.2.1 240 (by decide)).trans ((hF2767.2.1 240 (by decide)).trans ((hF2755.2.1 240 (by decide)).trans ((hF2741.2.1 240 (by decide)).trans ((hF2727.2.1 240 (by decide)).trans (hF2713.2.1 240 (by decide)))))))))))) (((hF3596.2.1 241 (by decide)).trans ((hF3578.2.1 241 (by decide)).trans ((hF3564.2.1 241 (by decide)).trans ((hF3550.2.1 241 (by decide)).trans ((hF3540.2.1 241 (by decide)).trans ((hF2767.2.1 241 (by decide)).trans ((hF2755.2.1 241 (by decide)).trans ((hF2741.2.1 241 (by decide)).trans ((hF2727.2.1 241 (by decide)).trans (hF2713.2.1 241 (by decide)))))))))))) (((hF3596.1 231 17 (by decide)).trans ((hF3578.1 231 17 (by decide)).trans ((hF3564.1 231 17 (by decide)).trans ((hF3550.1 231 17 (by decide)).trans ((hF3540.1 231 17 (by decide)).trans ((hF2767.1 231 17 (by decide)).trans ((hF2755.1 231 17 (by decide)).trans ((hF2741.1 231 17 (by decide)).trans ((hF2727.1 231 17 (by decide)).trans (hF2713.1 231 17 (by decide)))))))))))) (((hF3596.1 231 23 (by decide)).trans ((hF3578.1 231 23 (by decide)).trans ((hF3564.1 231 23 (by decide)).trans ((hF3550.1 231 23 (by decide)).trans ((hF3540.1 231 23 (by decide)).trans ((hF2767.1 231 23 (by decide)).trans ((hF2755.1 231 23 (by decide)).trans ((hF2741.1 231 23 (by decide)).trans ((hF2727.1 231 23 (by decide)).trans (hF2713.1 231 23 (by decide))))))))))))
                          have inn3697 := INN.cong inn2771 hI3595 (((hF3596.2.1 240 (by decide)).trans ((hF3578.2.1 240 (by decide)).trans ((hF3564.2.1 240 (by decide)).trans ((hF3550.2.1 240 (by decide)).trans (hF3540.2.1 240 (by decide))))))) (((hF3596.1 231 23 (by decide)).trans ((hF3578.1 231 23 (by decide)).trans ((hF3564.1 231 23 (by decide)).trans ((hF3550.1 231 23 (by decide)).trans (hF3540.1 231 23 (by decide)))))))
                          have pg3696 := sp3679.2.2.1 _ _ _ pg3695
                          have nsq3699 := NSQ.le nsq3694 hI3673 sp3679.2.2.2.2.1 sp3679.1
                          refine At.enter rfl ?_
                          refine r_aload_n rfl ?_
                          refine r_iload_n rfl ?_
                          refine r_iconst 0 rfl ?_
                          have zv3701 : (26 : Int32).toInt = 26 := rfl
                          refine r_callV 231 rfl [.ref 231, .int 26, .int 0] [] (Nat.le_of_ble_eq_true rfl) rfl (T_X11_push_231 _ hI3673 26 (by decide) 0 (by decide) (by omega)) ?_
                          rintro _ _ ⟨g3703, rfl, hI3704, hF3705, rfl, hr3707⟩
                          refine At.stn ?_
                          have hF3708 := Fr.tr hF3677 hF3705 rfl rfl
                          have x3713 := HI.eqI hI3704 (p := 231) (b := 17) (((hF3705.1 231 17 (by decide)).trans hv3686))
                          obtain ⟨v3714, hv3714⟩ : ∃ v, gI g3703 231 23 = v := ⟨_, rfl⟩
                          have rv3714 := RgF.at hI3704.2.1 (p := 231) (b := 23) rfl
                          rw [hv3714] at rv3714
                          dsimp only at rv3714
                          have tv3714 := congrArg Int32.toInt hv3714
                          have x3715 := HI.eqI hI3704 (p := 231) (b := 23) (hv3714)
                          have y3716 : (gI _ 231 23).toInt = (gI _ 231 23).toInt + 1 := hr3707.1
                          have pg3717 := PG.push (e' := 0) pg3696 hr3707 (hF3705.2.1 238 (by decide)) (hF3705.2.1 239 (by decide)) (hF3705.1 231 17 (by decide)) ⟨by omega, by omega⟩ (Or.inr nsq3699) (by omega) (by omega)
                          have nsq3718 := NSQ.push nsq3699 hr3707 (by omega)
                          refine At.enter rfl ?_
                          refine r_iconst 1 rfl ?_
                          refine r_ireti ?_
                          have x3719 := HI.eqI hI3704 (p := 231) (b := 8) ((((hF3705.1 231 8 (by decide)).trans ((hF3674.1 231 8 (by decide)).trans ((hF3596.1 231 8 (by decide)).trans ((hF3578.1 231 8 (by decide)).trans ((hF3564.1 231 8 (by decide)).trans ((hF3550.1 231 8 (by decide)).trans ((hF3540.1 231 8 (by decide)).trans ((hF2767.1 231 8 (by decide)).trans ((hF2755.1 231 8 (by decide)).trans ((hF2741.1 231 8 (by decide)).trans ((hF2727.1 231 8 (by decide)).trans (hF2713.1 231 8 (by decide))))))))))))).trans hv1))
                          have x3720 := HI.eqI hI3704 (p := 231) (b := 9) ((((hF3705.1 231 9 (by decide)).trans (hF3674.1 231 9 (by decide))).trans hv3607))
                          have x3721 := HI.eqI hI3704 (p := 231) (b := 10) ((((hF3705.1 231 10 (by decide)).trans (hF3674.1 231 10 (by decide))).trans hv3609))
                          have x3722 := HI.eqI hI3704 (p := 231) (b := 11) ((((hF3705.1 231 11 (by decide)).trans (hF3674.1 231 11 (by decide))).trans hv3611))
                          obtain ⟨v3723, hv3723⟩ : ∃ v, gJ g3594 231 12 = v := ⟨_, rfl⟩
                          have x3724 := HI.eqJ hI3704 (b := 12) ((((hF3705.2.2 231 12 (by decide)).trans (hF3674.2.2 231 12 (by decide))).trans hv3723))
                          have x3725 := HI.eqI hI3704 (p := 231) (b := 14) ((((hF3705.1 231 14 (by decide)).trans (hF3674.1 231 14 (by decide))).trans hv3613))
                          have x3728 := HI.eqI hI0 (p := 231) (b := 9) (hv2)
                          have zv3729 : (1 : Int32).toInt = 1 := rfl
                          have w263730 := W26.cong c3620 hI3704 (((hF3705.1 231 9 (by decide)).trans (hF3674.1 231 9 (by decide)))) (((hF3705.1 231 10 (by decide)).trans (hF3674.1 231 10 (by decide)))) (((hF3705.1 231 11 (by decide)).trans (hF3674.1 231 11 (by decide)))) (((hF3705.2.2 231 12 (by decide)).trans (hF3674.2.2 231 12 (by decide))))
                          have x3732 := HI.eqI hI3704 (p := 231) (b := 13) ((((hF3705.1 231 13 (by decide)).trans (hF3674.1 231 13 (by decide))).trans hv3626))
                          obtain ⟨v3734, hv3734⟩ : ∃ v, gI g0 231 15 = v := ⟨_, rfl⟩
                          have rv3734 := RgF.at hI0.2.1 (p := 231) (b := 15) rfl
                          rw [hv3734] at rv3734
                          dsimp only at rv3734
                          have tv3734 := congrArg Int32.toInt hv3734
                          have x3735 := HI.eqI hI3704 (p := 231) (b := 15) ((((hF3705.1 231 15 (by decide)).trans ((hF3674.1 231 15 (by decide)).trans ((hF3596.1 231 15 (by decide)).trans ((hF3578.1 231 15 (by decide)).trans ((hF3564.1 231 15 (by decide)).trans ((hF3550.1 231 15 (by decide)).trans ((hF3540.1 231 15 (by decide)).trans ((hF2767.1 231 15 (by decide)).trans ((hF2755.1 231 15 (by decide)).trans ((hF2741.1 231 15 (by decide)).trans ((hF2727.1 231 15 (by decide)).trans (hF2713.1 231 15 (by decide))))))))))))).trans hv3734))
                          obtain ⟨v3736, hv3736⟩ : ∃ v, gI g0 231 20 = v := ⟨_, rfl⟩
                          have tv3736 := congrArg Int32.toInt hv3736
                          have x3737 := HI.eqI hI3704 (p := 231) (b := 20) ((((hF3705.1 231 20 (by decide)).trans ((hF3674.1 231 20 (by decide)).trans ((hF3596.1 231 20 (by decide)).trans ((hF3578.1 231 20 (by decide)).trans ((hF3564.1 231 20 (by decide)).trans ((hF3550.1 231 20 (by decide)).trans ((hF3540.1 231 20 (by decide)).trans ((hF2767.1 231 20 (by decide)).trans ((hF2755.1 231 20 (by decide)).trans ((hF2741.1 231 20 (by decide)).trans ((hF2727.1 231 20 (by decide)).trans (hF2713.1 231 20 (by decide))))))))))))).trans hv3736))
                          obtain ⟨v3739, hv3739⟩ : ∃ v, gI g0 231 24 = v := ⟨_, rfl⟩
                          have tv3739 := congrArg Int32.toInt hv3739
                          have x3740 := HI.eqI hI3704 (p := 231) (b := 24) ((((hF3705.1 231 24 (by decide)).trans ((hF3674.1 231 24 (by decide)).trans ((hF3596.1 231 24 (by decide)).trans ((hF3578.1 231 24 (by decide)).trans ((hF3564.1 231 24 (by decide)).trans ((hF3550.1 231 24 (by decide)).trans ((hF3540.1 231 24 (by decide)).trans ((hF2767.1 231 24 (by decide)).trans ((hF2755.1 231 24 (by decide)).trans ((hF2741.1 231 24 (by decide)).trans ((hF2727.1 231 24 (by decide)).trans (hF2713.1 231 24 (by decide))))))))))))).trans hv3739))
                          have x3742 := HI.eqI hI0 (p := 231) (b := 13) (hv3623)
                          have x3743 := HI.eqI hI0 (p := 231) (b := 14) (hv6)
                          have x3744 := HI.eqI hI0 (p := 231) (b := 15) (hv3734)
                          have x3745 := HI.eqI hI0 (p := 231) (b := 20) (hv3736)
                          have x3746 := HI.eqI hI0 (p := 231) (b := 23) (hv8)
                          have x3747 := HI.eqI hI0 (p := 231) (b := 24) (hv3739)
                          have x3749 := HI.eqI hI3673 (p := 231) (b := 24) ((((hF3674.1 231 24 (by decide)).trans ((hF3596.1 231 24 (by decide)).trans ((hF3578.1 231 24 (by decide)).trans ((hF3564.1 231 24 (by decide)).trans ((hF3550.1 231 24 (by decide)).trans ((hF3540.1 231 24 (by decide)).trans ((hF2767.1 231 24 (by decide)).trans ((hF2755.1 231 24 (by decide)).trans ((hF2741.1 231 24 (by decide)).trans ((hF2727.1 231 24 (by decide)).trans (hF2713.1 231 24 (by decide)))))))))))).trans hv3739))
                          have y3754 : (gI g3594 231 13).toInt = (gI g0 231 13).toInt := (mu3628.2.1 (show (gI g0 231 14).toInt = 0 from by omega) (by omega)).2.1
                          exact ⟨_, rfl, hI3704, hF3708, _, rfl, by decide, ⟨by omega, by omega, by omega, by omega, w263730, by omega, by omega, (fun hbad => ⟨by omega, (PT.mk (fun _ => pg3717) (fun h => False.elim (by omega)) (fun h h9 => False.elim (by omega)) (fun h => False.elim (by omega)))⟩), (fun hbad => by omega), (TKM.c hK3629 (((hF3705.2.1 236 (by decide)).trans (hF3674.2.1 236 (by decide)))) (((hF3705.1 231 8 (by decide)).trans (hF3674.1 231 8 (by decide)))) (((hF3705.1 231 9 (by decide)).trans (hF3674.1 231 9 (by decide)))) (((hF3705.1 231 10 (by decide)).trans (hF3674.1 231 10 (by decide)))) (((hF3705.1 231 11 (by decide)).trans (hF3674.1 231 11 (by decide)))) (((hF3705.2.2 231 12 (by decide)).trans (hF3674.2.2 231 12 (by decide))))), (fun c0 b hC h => M.cmp h (fun z i => HBT.b4 hC i inn2772 (by omega) (by omega)) (by rw [pI.c (((hF3705.1 231 9 (by decide)).trans (hF3674.1 231 9 (by decide))))]; exact (MUSTP.tok hK mu3628 (by omega) (by omega))) (by omega) inn2772 (by omega) cm3544 (by omega) sq3682 (by omega) (PUSH.fr2 hr3707 rfl rfl rfl rfl rfl rfl) (by omega) (pI.c (((hF3674.1 231 24 (by decide)).trans ((hF3596.1 231 24 (by decide)).trans ((hF3578.1 231 24 (by decide)).trans ((hF3564.1 231 24 (by decide)).trans ((hF3550.1 231 24 (by decide)).trans ((hF3540.1 231 24 (by decide)).trans ((hF2767.1 231 24 (by decide)).trans ((hF2755.1 231 24 (by decide)).trans ((hF2741.1 231 24 (by decide)).trans ((hF2727.1 231 24 (by decide)).trans (hF2713.1 231 24 (by decide)))))))))))))) (show (gI _ 231 24).toInt = (gI g3672 231 24).toInt from by omega) (show (gI _ 231 20).toInt = (gI g0 231 20).toInt from by omega) (show (gI _ 231 15).toInt = (gI g0 231 15).toInt from by omega) (fun _ => ⟨show (gI _ 231 14).toInt = 0 from by omega, show (gI _ 231 13).toInt = (gI g0 231 13).toInt from by omega⟩) (fun z => absurd (show (gI g0 231 14).toInt = 0 from by omega) z)), (fun h14 c0 b K hC h => MG_cmp h (PLG2_in h.1 hC inn2772 (by omega) (by omega)) (by rw [pI.c (((hF3705.1 231 9 (by decide)).trans (hF3674.1 231 9 (by decide))))]; exact (MUSTP.tok hK mu3628 (by omega) (by omega))) (by omega) inn2772 (by omega) cm3544 (by omega) sg3683 (by omega) sq3682 (PUSH.fr2 hr3707 rfl rfl rfl rfl rfl rfl) (by omega) rfl (SMG_mk ((hF3705.2.1 238 (by decide))) ((hF3705.2.1 239 (by decide))) ((hF3705.1 231 17 (by decide)))) (by show 0 ≤ (gI g3672 231 17).toInt; omega))⟩⟩
                      · have c3586_ : v3579.toInt ≠ 0 := en_k_eq_f c3586
                        have i3757 := BL.yes hb3585 (by omega)
                        refine At.enter rfl ?_
                        refine r_iconst 1 rfl ?_
                        refine r_goto ?_
                        refine At.enter rfl ?_
                        have x3758 := HI.eqI hI3577 (p := 231) (b := 8) ((((hF3578.1 231 8 (by decide)).trans ((hF3564.1 231 8 (by decide)).trans ((hF3550.1 231 8 (by decide)).trans ((hF3540.1 231 8 (by decide)).trans ((hF2767.1 231 8 (by decide)).trans ((hF2755.1 231 8 (by decide)).trans ((hF2741.1 231 8 (by decide)).trans ((hF2727.1 231 8 (by decide)).trans (hF2713.1 231 8 (by decide)))))))))).trans hv1))
                        have x3759 := HI.eqI hI3577 (p := 231) (b := 9) ((((hF3578.1 231 9 (by decide)).trans ((hF3564.1 231 9 (by decide)).trans ((hF3550.1 231 9 (by decide)).trans ((hF3540.1 231 9 (by decide)).trans ((hF2767.1 231 9 (by decide)).trans ((hF2755.1 231 9 (by decide)).trans ((hF2741.1 231 9 (by decide)).trans ((hF2727.1 231 9 (by decide)).trans (hF2713.1 231 9 (by decide)))))))))).trans hv2))
                        have x3760 := HI.eqI hI3577 (p := 231) (b := 10) ((((hF3578.1 231 10 (by decide)).trans ((hF3564.1 231 10 (by decide)).trans ((hF3550.1 231 10 (by decide)).trans ((hF3540.1 231 10 (by decide)).trans ((hF2767.1 231 10 (by decide)).trans ((hF2755.1 231 10 (by decide)).trans ((hF2741.1 231 10 (by decide)).trans ((hF2727.1 231 10 (by decide)).trans (hF2713.1 231 10 (by decide)))))))))).trans hv3))
                        have w263762 := W26.cong hW hI3577 (((hF3578.1 231 9 (by decide)).trans ((hF3564.1 231 9 (by decide)).trans ((hF3550.1 231 9 (by decide)).trans ((hF3540.1 231 9 (by decide)).trans ((hF2767.1 231 9 (by decide)).trans ((hF2755.1 231 9 (by decide)).trans ((hF2741.1 231 9 (by decide)).trans ((hF2727.1 231 9 (by decide)).trans (hF2713.1 231 9 (by decide))))))))))) (((hF3578.1 231 10 (by decide)).trans ((hF3564.1 231 10 (by decide)).trans ((hF3550.1 231 10 (by decide)).trans ((hF3540.1 231 10 (by decide)).trans ((hF2767.1 231 10 (by decide)).trans ((hF2755.1 231 10 (by decide)).trans ((hF2741.1 231 10 (by decide)).trans ((hF2727.1 231 10 (by decide)).trans (hF2713.1 231 10 (by decide))))))))))) (((hF3578.1 231 11 (by decide)).trans ((hF3564.1 231 11 (by decide)).trans ((hF3550.1 231 11 (by decide)).trans ((hF3540.1 231 11 (by decide)).trans ((hF2767.1 231 11 (by decide)).trans ((hF2755.1 231 11 (by decide)).trans ((hF2741.1 231 11 (by decide)).trans ((hF2727.1 231 11 (by decide)).trans (hF2713.1 231 11 (by decide))))))))))) (((hF3578.2.2 231 12 (by decide)).trans ((hF3564.2.2 231 12 (by decide)).trans ((hF3550.2.2 231 12 (by decide)).trans ((hF3540.2.2 231 12 (by decide)).trans ((hF2767.2.2 231 12 (by decide)).trans ((hF2755.2.2 231 12 (by decide)).trans ((hF2741.2.2 231 12 (by decide)).trans ((hF2727.2.2 231 12 (by decide)).trans (hF2713.2.2 231 12 (by decide)))))))))))
                        have zv3763 : (1 : Int32).toInt = 1 := rfl
                        refine r_callV 213 rfl [.ref 231, .int 1] [] (Nat.le_of_ble_eq_true rfl) rfl (T_X11_must_231 _ hI3577 1 (by decide) (by refine ⟨?_, ?_, ?_, ?_⟩ <;> omega) w263762 (TKM.c hK (((hF3578.2.1 236 (by decide)).trans ((hF3564.2.1 236 (by decide)).trans ((hF3550.2.1 236 (by decide)).trans ((hF3540.2.1 236 (by decide)).trans ((hF2767.2.1 236 (by decide)).trans ((hF2755.2.1 236 (by decide)).trans ((hF2741.2.1 236 (by decide)).trans ((hF2727.2.1 236 (by decide)).trans (hF2713.2.1 236 (by decide))))))))))) (((hF3578.1 231 8 (by decide)).trans ((hF3564.1 231 8 (by decide)).trans ((hF3550.1 231 8 (by decide)).trans ((hF3540.1 231 8 (by decide)).trans ((hF2767.1 231 8 (by decide)).trans ((hF2755.1 231 8 (by decide)).trans ((hF2741.1 231 8 (by decide)).trans ((hF2727.1 231 8 (by decide)).trans (hF2713.1 231 8 (by decide))))))))))) (((hF3578.1 231 9 (by decide)).trans ((hF3564.1 231 9 (by decide)).trans ((hF3550.1 231 9 (by decide)).trans ((hF3540.1 231 9 (by decide)).trans ((hF2767.1 231 9 (by decide)).trans ((hF2755.1 231 9 (by decide)).trans ((hF2741.1 231 9 (by decide)).trans ((hF2727.1 231 9 (by decide)).trans (hF2713.1 231 9 (by decide))))))))))) (((hF3578.1 231 10 (by decide)).trans ((hF3564.1 231 10 (by decide)).trans ((hF3550.1 231 10 (by decide)).trans ((hF3540.1 231 10 (by decide)).trans ((hF2767.1 231 10 (by decide)).trans ((hF2755.1 231 10 (by decide)).trans ((hF2741.1 231 10 (by decide)).trans ((hF2727.1 231 10 (by decide)).trans (hF2713.1 231 10 (by decide))))))))))) (((hF3578.1 231 11 (by decide)).trans ((hF3564.1 231 11 (by decide)).trans ((hF3550.1 231 11 (by decide)).trans ((hF3540.1 231 11 (by decide)).trans ((hF2767.1 231 11 (by decide)).trans ((hF2755.1 231 11 (by decide)).trans ((hF2741.1 231 11 (by decide)).trans ((hF2727.1 231 11 (by decide)).trans (hF2713.1 231 11 (by decide))))))))))) (((hF3578.2.2 231 12 (by decide)).trans ((hF3564.2.2 231 12 (by decide)).trans ((hF3550.2.2 231 12 (by decide)).trans ((hF3540.2.2 231 12 (by decide)).trans ((hF2767.2.2 231 12 (by decide)).trans ((hF2755.2.2 231 12 (by decide)).trans ((hF2741.2.2 231 12 (by decide)).trans ((hF2727.2.2 231 12 (by decide)).trans (hF2713.2.2 231 12 (by decide))))))))))))) ?_
                        rintro _ _ ⟨g3764, rfl, hI3765, hF3766, rfl, hr3768⟩
                        refine At.stn ?_
                        have hF3769 := Fr.tr hF3581 hF3766 rfl rfl
                        have x3775 := HI.eqI hI3577 (p := 231) (b := 14) ((((hF3578.1 231 14 (by decide)).trans ((hF3564.1 231 14 (by decide)).trans ((hF3550.1 231 14 (by decide)).trans ((hF3540.1 231 14 (by decide)).trans ((hF2767.1 231 14 (by decide)).trans ((hF2755.1 231 14 (by decide)).trans ((hF2741.1 231 14 (by decide)).trans ((hF2727.1 231 14 (by decide)).trans (hF2713.1 231 14 (by decide)))))))))).trans hv6))
                        have x3776 := HI.eqI hI3765 (p := 231) (b := 8) ((((hF3766.1 231 8 (by decide)).trans ((hF3578.1 231 8 (by decide)).trans ((hF3564.1 231 8 (by decide)).trans ((hF3550.1 231 8 (by decide)).trans ((hF3540.1 231 8 (by decide)).trans ((hF2767.1 231 8 (by decide)).trans ((hF2755.1 231 8 (by decide)).trans ((hF2741.1 231 8 (by decide)).trans ((hF2727.1 231 8 (by decide)).trans (hF2713.1 231 8 (by decide))))))))))).trans hv1))
                        obtain ⟨v3777, hv3777⟩ : ∃ v, gI g3764 231 9 = v := ⟨_, rfl⟩
                        have rv3777 := RgF.at hI3765.2.1 (p := 231) (b := 9) rfl
                        rw [hv3777] at rv3777
                        dsimp only at rv3777
                        have tv3777 := congrArg Int32.toInt hv3777
                        have x3778 := HI.eqI hI3765 (p := 231) (b := 9) (hv3777)
                        obtain ⟨v3779, hv3779⟩ : ∃ v, gI g3764 231 10 = v := ⟨_, rfl⟩
                        have rv3779 := RgF.at hI3765.2.1 (p := 231) (b := 10) rfl
                        rw [hv3779] at rv3779
                        dsimp only at rv3779
                        have tv3779 := congrArg Int32.toInt hv3779
                        have x3780 := HI.eqI hI3765 (p := 231) (b := 10) (hv3779)
                        obtain ⟨v3781, hv3781⟩ : ∃ v, gI g3764 231 11 = v := ⟨_, rfl⟩
                        have tv3781 := congrArg Int32.toInt hv3781
                        have x3782 := HI.eqI hI3765 (p := 231) (b := 11) (hv3781)
                        obtain ⟨v3783, hv3783⟩ : ∃ v, gI g3764 231 14 = v := ⟨_, rfl⟩
                        have tv3783 := congrArg Int32.toInt hv3783
                        have x3784 := HI.eqI hI3765 (p := 231) (b := 14) (hv3783)
                        obtain ⟨c3785, c3786, c3787, c3788, c3789, c3790, c3791, c3792⟩ := hr3768
                        obtain ⟨v3793, hv3793⟩ : ∃ v, gI g0 231 13 = v := ⟨_, rfl⟩
                        have tv3793 := congrArg Int32.toInt hv3793
                        have x3794 := HI.eqI hI3577 (p := 231) (b := 13) ((((hF3578.1 231 13 (by decide)).trans ((hF3564.1 231 13 (by decide)).trans ((hF3550.1 231 13 (by decide)).trans ((hF3540.1 231 13 (by decide)).trans ((hF2767.1 231 13 (by decide)).trans ((hF2755.1 231 13 (by decide)).trans ((hF2741.1 231 13 (by decide)).trans ((hF2727.1 231 13 (by decide)).trans (hF2713.1 231 13 (by decide)))))))))).trans hv3793))
                        obtain ⟨v3796, hv3796⟩ : ∃ v, gI g3764 231 13 = v := ⟨_, rfl⟩
                        have tv3796 := congrArg Int32.toInt hv3796
                        have x3797 := HI.eqI hI3765 (p := 231) (b := 13) (hv3796)
                        unfold MUSTP at c3792
                        rw [TM.c (((hF3578.2.1 236 (by decide)).trans ((hF3564.2.1 236 (by decide)).trans ((hF3550.2.1 236 (by decide)).trans ((hF3540.2.1 236 (by decide)).trans ((hF2767.2.1 236 (by decide)).trans ((hF2755.2.1 236 (by decide)).trans ((hF2741.2.1 236 (by decide)).trans ((hF2727.2.1 236 (by decide)).trans (hF2713.2.1 236 (by decide))))))))))), nM.c (((hF3578.1 231 8 (by decide)).trans ((hF3564.1 231 8 (by decide)).trans ((hF3550.1 231 8 (by decide)).trans ((hF3540.1 231 8 (by decide)).trans ((hF2767.1 231 8 (by decide)).trans ((hF2755.1 231 8 (by decide)).trans ((hF2741.1 231 8 (by decide)).trans ((hF2727.1 231 8 (by decide)).trans (hF2713.1 231 8 (by decide))))))))))), pI.c (b := 14) (((hF3578.1 231 14 (by decide)).trans ((hF3564.1 231 14 (by decide)).trans ((hF3550.1 231 14 (by decide)).trans ((hF3540.1 231 14 (by decide)).trans ((hF2767.1 231 14 (by decide)).trans ((hF2755.1 231 14 (by decide)).trans ((hF2741.1 231 14 (by decide)).trans ((hF2727.1 231 14 (by decide)).trans (hF2713.1 231 14 (by decide))))))))))), pI.c (b := 13) (((hF3578.1 231 13 (by decide)).trans ((hF3564.1 231 13 (by decide)).trans ((hF3550.1 231 13 (by decide)).trans ((hF3540.1 231 13 (by decide)).trans ((hF2767.1 231 13 (by decide)).trans ((hF2755.1 231 13 (by decide)).trans ((hF2741.1 231 13 (by decide)).trans ((hF2727.1 231 13 (by decide)).trans (hF2713.1 231 13 (by decide))))))))))), pI.c (b := 10) (((hF3578.1 231 10 (by decide)).trans ((hF3564.1 231 10 (by decide)).trans ((hF3550.1 231 10 (by decide)).trans ((hF3540.1 231 10 (by decide)).trans ((hF2767.1 231 10 (by decide)).trans ((hF2755.1 231 10 (by decide)).trans ((hF2741.1 231 10 (by decide)).trans ((hF2727.1 231 10 (by decide)).trans (hF2713.1 231 10 (by decide))))))))))), pI.c (b := 9) (((hF3578.1 231 9 (by decide)).trans ((hF3564.1 231 9 (by decide)).trans ((hF3550.1 231 9 (by decide)).trans ((hF3540.1 231 9 (by decide)).trans ((hF2767.1 231 9 (by decide)).trans ((hF2755.1 231 9 (by decide)).trans ((hF2741.1 231 9 (by decide)).trans ((hF2727.1 231 9 (by decide)).trans (hF2713.1 231 9 (by decide)))))))))))] at c3792
                        have mu3798 : MUSTP g0 g3764 1 := c3792
                        clear c3792
                        have hK3799 := mu3798.1
                        refine At.enter rfl ?_
                        refine r_aload_n rfl ?_
                        refine q_getI (Sh.int hI3765.1 kx_231 rfl) v3783 hv3783 ?_
                        refine r_ifs 220 rfl (fun c3800 => ?_) (fun c3800 => ?_)
                        · have c3800_ : v3783.toInt ≠ 0 := en_k_ne_t c3800
                          clear c3791
                          obtain ⟨i3801, i3802⟩ := MUSTP.y mu3798 (by omega) (by omega)
                          refine At.enter rfl ?_
                          refine r_iconst 1 rfl ?_
                          refine r_ireti ?_
                          obtain ⟨v3807, hv3807⟩ : ∃ v, gJ g3764 231 12 = v := ⟨_, rfl⟩
                          have x3808 := HI.eqJ hI3765 (b := 12) (hv3807)
                          have x3810 := HI.eqI hI3765 (p := 231) (b := 17) ((((hF3766.1 231 17 (by decide)).trans ((hF3578.1 231 17 (by decide)).trans ((hF3564.1 231 17 (by decide)).trans ((hF3550.1 231 17 (by decide)).trans ((hF3540.1 231 17 (by decide)).trans ((hF2767.1 231 17 (by decide)).trans ((hF2755.1 231 17 (by decide)).trans ((hF2741.1 231 17 (by decide)).trans ((hF2727.1 231 17 (by decide)).trans (hF2713.1 231 17 (by decide))))))))))).trans hv7))
                          have x3811 := HI.eqI hI3765 (p := 231) (b := 23) ((((hF3766.1 231 23 (by decide)).trans ((hF3578.1 231 23 (by decide)).trans ((hF3564.1 231 23 (by decide)).trans ((hF3550.1 231 23 (by decide)).trans ((hF3540.1 231 23 (by decide)).trans ((hF2767.1 231 23 (by decide)).trans ((hF2755.1 231 23 (by decide)).trans ((hF2741.1 231 23 (by decide)).trans ((hF2727.1 231 23 (by decide)).trans (hF2713.1 231 23 (by decide))))))))))).trans hv8))
                          have x3812 := HI.eqI hI0 (p := 231) (b := 9) (hv2)
                          obtain ⟨v3817, hv3817⟩ : ∃ v, gI g0 231 15 = v := ⟨_, rfl⟩
                          have rv3817 := RgF.at hI0.2.1 (p := 231) (b := 15) rfl
                          rw [hv3817] at rv3817
                          dsimp only at rv3817
                          have tv3817 := congrArg Int32.toInt hv3817
                          have x3818 := HI.eqI hI3765 (p := 231) (b := 15) ((((hF3766.1 231 15 (by decide)).trans ((hF3578.1 231 15 (by decide)).trans ((hF3564.1 231 15 (by decide)).trans ((hF3550.1 231 15 (by decide)).trans ((hF3540.1 231 15 (by decide)).trans ((hF2767.1 231 15 (by decide)).trans ((hF2755.1 231 15 (by decide)).trans ((hF2741.1 231 15 (by decide)).trans ((hF2727.1 231 15 (by decide)).trans (hF2713.1 231 15 (by decide))))))))))).trans hv3817))
                          obtain ⟨v3819, hv3819⟩ : ∃ v, gI g0 231 20 = v := ⟨_, rfl⟩
                          have tv3819 := congrArg Int32.toInt hv3819
                          have x3820 := HI.eqI hI3765 (p := 231) (b := 20) ((((hF3766.1 231 20 (by decide)).trans ((hF3578.1 231 20 (by decide)).trans ((hF3564.1 231 20 (by decide)).trans ((hF3550.1 231 20 (by decide)).trans ((hF3540.1 231 20 (by decide)).trans ((hF2767.1 231 20 (by decide)).trans ((hF2755.1 231 20 (by decide)).trans ((hF2741.1 231 20 (by decide)).trans ((hF2727.1 231 20 (by decide)).trans (hF2713.1 231 20 (by decide))))))))))).trans hv3819))
                          obtain ⟨v3822, hv3822⟩ : ∃ v, gI g0 231 24 = v := ⟨_, rfl⟩
                          have tv3822 := congrArg Int32.toInt hv3822
                          have x3823 := HI.eqI hI3765 (p := 231) (b := 24) ((((hF3766.1 231 24 (by decide)).trans ((hF3578.1 231 24 (by decide)).trans ((hF3564.1 231 24 (by decide)).trans ((hF3550.1 231 24 (by decide)).trans ((hF3540.1 231 24 (by decide)).trans ((hF2767.1 231 24 (by decide)).trans ((hF2755.1 231 24 (by decide)).trans ((hF2741.1 231 24 (by decide)).trans ((hF2727.1 231 24 (by decide)).trans (hF2713.1 231 24 (by decide))))))))))).trans hv3822))
                          have x3825 := HI.eqI hI0 (p := 231) (b := 13) (hv3793)
                          have x3826 := HI.eqI hI0 (p := 231) (b := 14) (hv6)
                          have x3827 := HI.eqI hI0 (p := 231) (b := 15) (hv3817)
                          have x3828 := HI.eqI hI0 (p := 231) (b := 20) (hv3819)
                          have x3829 := HI.eqI hI0 (p := 231) (b := 23) (hv8)
                          have x3830 := HI.eqI hI0 (p := 231) (b := 24) (hv3822)
                          have mf3831 := mu3798.2.2.1 (show (gI g0 231 14).toInt = 0 from by omega) (by omega)
                          have y3832 : (gI _ 231 14).toInt ≠ 0 := mf3831.1
                          have y3833 : (gI _ 231 13).toInt = (gI g0 231 9).toInt := mf3831.2
                          exact ⟨_, rfl, hI3765, hF3769, _, rfl, by decide, ⟨by omega, by omega, by omega, by omega, c3790, by omega, by omega, (fun hbad => ⟨by omega, (PT.mk (fun h => False.elim (by omega)) (fun h => False.elim (by omega)) (fun h h9 => False.elim (by omega)) (fun h => False.elim (by omega)))⟩), (fun hbad => by omega), hK3799, (fun c0 b hC h => M.cmpF h (fun z i => HBT.b4 hC i inn2772 (by omega) (by omega)) (TKM.some hK).choose_spec (by omega) (by omega) inn2772 (by omega) cm3544 (by omega) (fun _ => ⟨show (gI _ 231 14).toInt ≠ 0 from by omega, show (gI _ 231 13).toInt = (gI g0 231 9).toInt from by omega⟩) (fun z => absurd (show (gI g0 231 14).toInt = 0 from by omega) z) _), (fun h14 c0 b K hC h => absurd (show (gI _ 231 14).toInt = 0 from h14) (by omega))⟩⟩
                        · have c3800_ : v3783.toInt = 0 := en_k_ne_f c3800
                          obtain ⟨i3834, i3835, i3836⟩ := c3791 (by omega)
                          obtain ⟨i3837, i3838⟩ := MUSTP.z mu3798 (by omega) (by omega)
                          refine At.enter rfl ?_
                          refine r_aload_n rfl ?_
                          refine r_iconst 5 rfl ?_
                          have x3839 := HI.eqI hI3765 (p := 231) (b := 17) ((((hF3766.1 231 17 (by decide)).trans ((hF3578.1 231 17 (by decide)).trans ((hF3564.1 231 17 (by decide)).trans ((hF3550.1 231 17 (by decide)).trans ((hF3540.1 231 17 (by decide)).trans ((hF2767.1 231 17 (by decide)).trans ((hF2755.1 231 17 (by decide)).trans ((hF2741.1 231 17 (by decide)).trans ((hF2727.1 231 17 (by decide)).trans (hF2713.1 231 17 (by decide))))))))))).trans hv7))
                          have x3840 := HI.eqI hI3765 (p := 231) (b := 23) ((((hF3766.1 231 23 (by decide)).trans ((hF3578.1 231 23 (by decide)).trans ((hF3564.1 231 23 (by decide)).trans ((hF3550.1 231 23 (by decide)).trans ((hF3540.1 231 23 (by decide)).trans ((hF2767.1 231 23 (by decide)).trans ((hF2755.1 231 23 (by decide)).trans ((hF2741.1 231 23 (by decide)).trans ((hF2727.1 231 23 (by decide)).trans (hF2713.1 231 23 (by decide))))))))))).trans hv8))
                          have zv3841 : (5 : Int32).toInt = 5 := rfl
                          refine r_callV 225 rfl [.ref 231, .int 5] [] (Nat.le_of_ble_eq_true rfl) rfl (T_X11_settle_231 _ hI3765 5 (by decide) (by omega)) ?_
                          rintro _ _ ⟨g3842, rfl, hI3843, hF3844, rfl, hr3846⟩
                          refine At.stn ?_
                          have hF3847 := Fr.tr hF3769 hF3844 rfl rfl
                          obtain ⟨sp3849, sq3850, sg3851⟩ := hr3846
                          have sq3852 := SETQ.fr sq3850 (((hF3766.2.1 240 (by decide)).trans ((hF3578.2.1 240 (by decide)).trans ((hF3564.2.1 240 (by decide)).trans ((hF3550.2.1 240 (by decide)).trans ((hF3540.2.1 240 (by decide)).trans ((hF2767.2.1 240 (by decide)).trans ((hF2755.2.1 240 (by decide)).trans ((hF2741.2.1 240 (by decide)).trans ((hF2727.2.1 240 (by decide)).trans (hF2713.2.1 240 (by decide)))))))))))) (((hF3766.1 231 23 (by decide)).trans ((hF3578.1 231 23 (by decide)).trans ((hF3564.1 231 23 (by decide)).trans ((hF3550.1 231 23 (by decide)).trans ((hF3540.1 231 23 (by decide)).trans ((hF2767.1 231 23 (by decide)).trans ((hF2755.1 231 23 (by decide)).trans ((hF2741.1 231 23 (by decide)).trans ((hF2727.1 231 23 (by decide)).trans (hF2713.1 231 23 (by decide))))))))))))
                          have sg3853 := SETG_fr sg3851 (((hF3766.2.1 240 (by decide)).trans ((hF3578.2.1 240 (by decide)).trans ((hF3564.2.1 240 (by decide)).trans ((hF3550.2.1 240 (by decide)).trans ((hF3540.2.1 240 (by decide)).trans ((hF2767.2.1 240 (by decide)).trans ((hF2755.2.1 240 (by decide)).trans ((hF2741.2.1 240 (by decide)).trans ((hF2727.2.1 240 (by decide)).trans (hF2713.2.1 240 (by decide)))))))))))) (((hF3766.2.1 241 (by decide)).trans ((hF3578.2.1 241 (by decide)).trans ((hF3564.2.1 241 (by decide)).trans ((hF3550.2.1 241 (by decide)).trans ((hF3540.2.1 241 (by decide)).trans ((hF2767.2.1 241 (by decide)).trans ((hF2755.2.1 241 (by decide)).trans ((hF2741.2.1 241 (by decide)).trans ((hF2727.2.1 241 (by decide)).trans (hF2713.2.1 241 (by decide)))))))))))) (((hF3766.1 231 23 (by decide)).trans ((hF3578.1 231 23 (by decide)).trans ((hF3564.1 231 23 (by decide)).trans ((hF3550.1 231 23 (by decide)).trans ((hF3540.1 231 23 (by decide)).trans ((hF2767.1 231 23 (by decide)).trans ((hF2755.1 231 23 (by decide)).trans ((hF2741.1 231 23 (by decide)).trans ((hF2727.1 231 23 (by decide)).trans (hF2713.1 231 23 (by decide)))))))))))) (SMG_mk (((hF3766.2.1 238 (by decide)).trans ((hF3578.2.1 238 (by decide)).trans ((hF3564.2.1 238 (by decide)).trans ((hF3550.2.1 238 (by decide)).trans ((hF3540.2.1 238 (by decide)).trans ((hF2767.2.1 238 (by decide)).trans ((hF2755.2.1 238 (by decide)).trans ((hF2741.2.1 238 (by decide)).trans ((hF2727.2.1 238 (by decide)).trans (hF2713.2.1 238 (by decide)))))))))))) (((hF3766.2.1 239 (by decide)).trans ((hF3578.2.1 239 (by decide)).trans ((hF3564.2.1 239 (by decide)).trans ((hF3550.2.1 239 (by decide)).trans ((hF3540.2.1 239 (by decide)).trans ((hF2767.2.1 239 (by decide)).trans ((hF2755.2.1 239 (by decide)).trans ((hF2741.2.1 239 (by decide)).trans ((hF2727.2.1 239 (by decide)).trans (hF2713.2.1 239 (by decide)))))))))))) (((hF3766.1 231 17 (by decide)).trans ((hF3578.1 231 17 (by decide)).trans ((hF3564.1 231 17 (by decide)).trans ((hF3550.1 231 17 (by decide)).trans ((hF3540.1 231 17 (by decide)).trans ((hF2767.1 231 17 (by decide)).trans ((hF2755.1 231 17 (by decide)).trans ((hF2741.1 231 17 (by decide)).trans ((hF2727.1 231 17 (by decide)).trans (hF2713.1 231 17 (by decide)))))))))))))
                          obtain ⟨v3856, hv3856⟩ : ∃ v, gI g3842 231 17 = v := ⟨_, rfl⟩
                          have rv3856 := RgF.at hI3843.2.1 (p := 231) (b := 17) rfl
                          rw [hv3856] at rv3856
                          dsimp only at rv3856
                          have tv3856 := congrArg Int32.toInt hv3856
                          have x3857 := HI.eqI hI3843 (p := 231) (b := 17) (hv3856)
                          obtain ⟨v3858, hv3858⟩ : ∃ v, gI g3842 231 23 = v := ⟨_, rfl⟩
                          have rv3858 := RgF.at hI3843.2.1 (p := 231) (b := 23) rfl
                          rw [hv3858] at rv3858
                          dsimp only at rv3858
                          have tv3858 := congrArg Int32.toInt hv3858
                          have x3859 := HI.eqI hI3843 (p := 231) (b := 23) (hv3858)
                          have y3860 : (gI _ 231 23).toInt ≤ (gI _ 231 23).toInt := sp3849.1
                          have y3861 : (gI _ 231 17).toInt + (gI _ 231 23).toInt ≤ (gI _ 231 17).toInt + (gI _ 231 23).toInt := sp3849.2.1
                          have inn3862 := INN.cong inn2771 hI3765 (((hF3766.2.1 240 (by decide)).trans ((hF3578.2.1 240 (by decide)).trans ((hF3564.2.1 240 (by decide)).trans ((hF3550.2.1 240 (by decide)).trans (hF3540.2.1 240 (by decide))))))) (((hF3766.1 231 23 (by decide)).trans ((hF3578.1 231 23 (by decide)).trans ((hF3564.1 231 23 (by decide)).trans ((hF3550.1 231 23 (by decide)).trans (hF3540.1 231 23 (by decide)))))))
                          have pg3863 := PG.cong (hP.2.1 (by decide)) hI3765 (((hF3766.2.1 238 (by decide)).trans ((hF3578.2.1 238 (by decide)).trans ((hF3564.2.1 238 (by decide)).trans ((hF3550.2.1 238 (by decide)).trans ((hF3540.2.1 238 (by decide)).trans ((hF2767.2.1 238 (by decide)).trans ((hF2755.2.1 238 (by decide)).trans ((hF2741.2.1 238 (by decide)).trans ((hF2727.2.1 238 (by decide)).trans (hF2713.2.1 238 (by decide)))))))))))) (((hF3766.2.1 239 (by decide)).trans ((hF3578.2.1 239 (by decide)).trans ((hF3564.2.1 239 (by decide)).trans ((hF3550.2.1 239 (by decide)).trans ((hF3540.2.1 239 (by decide)).trans ((hF2767.2.1 239 (by decide)).trans ((hF2755.2.1 239 (by decide)).trans ((hF2741.2.1 239 (by decide)).trans ((hF2727.2.1 239 (by decide)).trans (hF2713.2.1 239 (by decide)))))))))))) (((hF3766.2.1 240 (by decide)).trans ((hF3578.2.1 240 (by decide)).trans ((hF3564.2.1 240 (by decide)).trans ((hF3550.2.1 240 (by decide)).trans ((hF3540.2.1 240 (by decide)).trans ((hF2767.2.1 240 (by decide)).trans ((hF2755.2.1 240 (by decide)).trans ((hF2741.2.1 240 (by decide)).trans ((hF2727.2.1 240 (by decide)).trans (hF2713.2.1 240 (by decide)))))))))))) (((hF3766.2.1 241 (by decide)).trans ((hF3578.2.1 241 (by decide)).trans ((hF3564.2.1 241 (by decide)).trans ((hF3550.2.1 241 (by decide)).trans ((hF3540.2.1 241 (by decide)).trans ((hF2767.2.1 241 (by decide)).trans ((hF2755.2.1 241 (by decide)).trans ((hF2741.2.1 241 (by decide)).trans ((hF2727.2.1 241 (by decide)).trans (hF2713.2.1 241 (by decide)))))))))))) (((hF3766.1 231 17 (by decide)).trans ((hF3578.1 231 17 (by decide)).trans ((hF3564.1 231 17 (by decide)).trans ((hF3550.1 231 17 (by decide)).trans ((hF3540.1 231 17 (by decide)).trans ((hF2767.1 231 17 (by decide)).trans ((hF2755.1 231 17 (by decide)).trans ((hF2741.1 231 17 (by decide)).trans ((hF2727.1 231 17 (by decide)).trans (hF2713.1 231 17 (by decide)))))))))))) (((hF3766.1 231 23 (by decide)).trans ((hF3578.1 231 23 (by decide)).trans ((hF3564.1 231 23 (by decide)).trans ((hF3550.1 231 23 (by decide)).trans ((hF3540.1 231 23 (by decide)).trans ((hF2767.1 231 23 (by decide)).trans ((hF2755.1 231 23 (by decide)).trans ((hF2741.1 231 23 (by decide)).trans ((hF2727.1 231 23 (by decide)).trans (hF2713.1 231 23 (by decide))))))))))))
                          have nsq3864 := INN.nsq inn3862 pg3863 (by omega)
                          have pg3865 := PG.cong (hP.2.1 (by decide)) hI3765 (((hF3766.2.1 238 (by decide)).trans ((hF3578.2.1 238 (by decide)).trans ((hF3564.2.1 238 (by decide)).trans ((hF3550.2.1 238 (by decide)).trans ((hF3540.2.1 238 (by decide)).trans ((hF2767.2.1 238 (by decide)).trans ((hF2755.2.1 238 (by decide)).trans ((hF2741.2.1 238 (by decide)).trans ((hF2727.2.1 238 (by decide)).trans (hF2713.2.1 238 (by decide)))))))))))) (((hF3766.2.1 239 (by decide)).trans ((hF3578.2.1 239 (by decide)).trans ((hF3564.2.1 239 (by decide)).trans ((hF3550.2.1 239 (by decide)).trans ((hF3540.2.1 239 (by decide)).trans ((hF2767.2.1 239 (by decide)).trans ((hF2755.2.1 239 (by decide)).trans ((hF2741.2.1 239 (by decide)).trans ((hF2727.2.1 239 (by decide)).trans (hF2713.2.1 239 (by decide)))))))))))) (((hF3766.2.1 240 (by decide)).trans ((hF3578.2.1 240 (by decide)).trans ((hF3564.2.1 240 (by decide)).trans ((hF3550.2.1 240 (by decide)).trans ((hF3540.2.1 240 (by decide)).trans ((hF2767.2.1 240 (by decide)).trans ((hF2755.2.1 240 (by decide)).trans ((hF2741.2.1 240 (by decide)).trans ((hF2727.2.1 240 (by decide)).trans (hF2713.2.1 240 (by decide)))))))))))) (((hF3766.2.1 241 (by decide)).trans ((hF3578.2.1 241 (by decide)).trans ((hF3564.2.1 241 (by decide)).trans ((hF3550.2.1 241 (by decide)).trans ((hF3540.2.1 241 (by decide)).trans ((hF2767.2.1 241 (by decide)).trans ((hF2755.2.1 241 (by decide)).trans ((hF2741.2.1 241 (by decide)).trans ((hF2727.2.1 241 (by decide)).trans (hF2713.2.1 241 (by decide)))))))))))) (((hF3766.1 231 17 (by decide)).trans ((hF3578.1 231 17 (by decide)).trans ((hF3564.1 231 17 (by decide)).trans ((hF3550.1 231 17 (by decide)).trans ((hF3540.1 231 17 (by decide)).trans ((hF2767.1 231 17 (by decide)).trans ((hF2755.1 231 17 (by decide)).trans ((hF2741.1 231 17 (by decide)).trans ((hF2727.1 231 17 (by decide)).trans (hF2713.1 231 17 (by decide)))))))))))) (((hF3766.1 231 23 (by decide)).trans ((hF3578.1 231 23 (by decide)).trans ((hF3564.1 231 23 (by decide)).trans ((hF3550.1 231 23 (by decide)).trans ((hF3540.1 231 23 (by decide)).trans ((hF2767.1 231 23 (by decide)).trans ((hF2755.1 231 23 (by decide)).trans ((hF2741.1 231 23 (by decide)).trans ((hF2727.1 231 23 (by decide)).trans (hF2713.1 231 23 (by decide))))))))))))
                          have inn3867 := INN.cong inn2771 hI3765 (((hF3766.2.1 240 (by decide)).trans ((hF3578.2.1 240 (by decide)).trans ((hF3564.2.1 240 (by decide)).trans ((hF3550.2.1 240 (by decide)).trans (hF3540.2.1 240 (by decide))))))) (((hF3766.1 231 23 (by decide)).trans ((hF3578.1 231 23 (by decide)).trans ((hF3564.1 231 23 (by decide)).trans ((hF3550.1 231 23 (by decide)).trans (hF3540.1 231 23 (by decide)))))))
                          have pg3866 := sp3849.2.2.1 _ _ _ pg3865
                          have nsq3869 := NSQ.le nsq3864 hI3843 sp3849.2.2.2.2.1 sp3849.1
                          refine At.enter rfl ?_
                          refine r_aload_n rfl ?_
                          refine r_iload_n rfl ?_
                          refine r_iconst 0 rfl ?_
                          have zv3871 : (26 : Int32).toInt = 26 := rfl
                          have zv3872 : (0 : Int32).toInt = 0 := rfl
                          refine r_callV 231 rfl [.ref 231, .int 26, .int 0] [] (Nat.le_of_ble_eq_true rfl) rfl (T_X11_push_231 _ hI3843 26 (by decide) 0 (by decide) (by omega)) ?_
                          rintro _ _ ⟨g3873, rfl, hI3874, hF3875, rfl, hr3877⟩
                          refine At.stn ?_
                          have hF3878 := Fr.tr hF3847 hF3875 rfl rfl
                          have x3883 := HI.eqI hI3874 (p := 231) (b := 17) (((hF3875.1 231 17 (by decide)).trans hv3856))
                          obtain ⟨v3884, hv3884⟩ : ∃ v, gI g3873 231 23 = v := ⟨_, rfl⟩
                          have rv3884 := RgF.at hI3874.2.1 (p := 231) (b := 23) rfl
                          rw [hv3884] at rv3884
                          dsimp only at rv3884
                          have tv3884 := congrArg Int32.toInt hv3884
                          have x3885 := HI.eqI hI3874 (p := 231) (b := 23) (hv3884)
                          have y3886 : (gI _ 231 23).toInt = (gI _ 231 23).toInt + 1 := hr3877.1
                          have pg3887 := PG.push (e' := 0) pg3866 hr3877 (hF3875.2.1 238 (by decide)) (hF3875.2.1 239 (by decide)) (hF3875.1 231 17 (by decide)) ⟨by omega, by omega⟩ (Or.inr nsq3869) (by omega) (by omega)
                          have nsq3888 := NSQ.push nsq3869 hr3877 (by omega)
                          refine At.enter rfl ?_
                          refine r_iconst 1 rfl ?_
                          refine r_ireti ?_
                          have x3889 := HI.eqI hI3874 (p := 231) (b := 8) ((((hF3875.1 231 8 (by decide)).trans ((hF3844.1 231 8 (by decide)).trans ((hF3766.1 231 8 (by decide)).trans ((hF3578.1 231 8 (by decide)).trans ((hF3564.1 231 8 (by decide)).trans ((hF3550.1 231 8 (by decide)).trans ((hF3540.1 231 8 (by decide)).trans ((hF2767.1 231 8 (by decide)).trans ((hF2755.1 231 8 (by decide)).trans ((hF2741.1 231 8 (by decide)).trans ((hF2727.1 231 8 (by decide)).trans (hF2713.1 231 8 (by decide))))))))))))).trans hv1))
                          have x3890 := HI.eqI hI3874 (p := 231) (b := 9) ((((hF3875.1 231 9 (by decide)).trans (hF3844.1 231 9 (by decide))).trans hv3777))
                          have x3891 := HI.eqI hI3874 (p := 231) (b := 10) ((((hF3875.1 231 10 (by decide)).trans (hF3844.1 231 10 (by decide))).trans hv3779))
                          have x3892 := HI.eqI hI3874 (p := 231) (b := 11) ((((hF3875.1 231 11 (by decide)).trans (hF3844.1 231 11 (by decide))).trans hv3781))
                          obtain ⟨v3893, hv3893⟩ : ∃ v, gJ g3764 231 12 = v := ⟨_, rfl⟩
                          have x3894 := HI.eqJ hI3874 (b := 12) ((((hF3875.2.2 231 12 (by decide)).trans (hF3844.2.2 231 12 (by decide))).trans hv3893))
                          have x3895 := HI.eqI hI3874 (p := 231) (b := 14) ((((hF3875.1 231 14 (by decide)).trans (hF3844.1 231 14 (by decide))).trans hv3783))
                          have x3898 := HI.eqI hI0 (p := 231) (b := 9) (hv2)
                          have w263900 := W26.cong c3790 hI3874 (((hF3875.1 231 9 (by decide)).trans (hF3844.1 231 9 (by decide)))) (((hF3875.1 231 10 (by decide)).trans (hF3844.1 231 10 (by decide)))) (((hF3875.1 231 11 (by decide)).trans (hF3844.1 231 11 (by decide)))) (((hF3875.2.2 231 12 (by decide)).trans (hF3844.2.2 231 12 (by decide))))
                          have x3902 := HI.eqI hI3874 (p := 231) (b := 13) ((((hF3875.1 231 13 (by decide)).trans (hF3844.1 231 13 (by decide))).trans hv3796))
                          obtain ⟨v3904, hv3904⟩ : ∃ v, gI g0 231 15 = v := ⟨_, rfl⟩
                          have rv3904 := RgF.at hI0.2.1 (p := 231) (b := 15) rfl
                          rw [hv3904] at rv3904
                          dsimp only at rv3904
                          have tv3904 := congrArg Int32.toInt hv3904
                          have x3905 := HI.eqI hI3874 (p := 231) (b := 15) ((((hF3875.1 231 15 (by decide)).trans ((hF3844.1 231 15 (by decide)).trans ((hF3766.1 231 15 (by decide)).trans ((hF3578.1 231 15 (by decide)).trans ((hF3564.1 231 15 (by decide)).trans ((hF3550.1 231 15 (by decide)).trans ((hF3540.1 231 15 (by decide)).trans ((hF2767.1 231 15 (by decide)).trans ((hF2755.1 231 15 (by decide)).trans ((hF2741.1 231 15 (by decide)).trans ((hF2727.1 231 15 (by decide)).trans (hF2713.1 231 15 (by decide))))))))))))).trans hv3904))
                          obtain ⟨v3906, hv3906⟩ : ∃ v, gI g0 231 20 = v := ⟨_, rfl⟩
                          have tv3906 := congrArg Int32.toInt hv3906
                          have x3907 := HI.eqI hI3874 (p := 231) (b := 20) ((((hF3875.1 231 20 (by decide)).trans ((hF3844.1 231 20 (by decide)).trans ((hF3766.1 231 20 (by decide)).trans ((hF3578.1 231 20 (by decide)).trans ((hF3564.1 231 20 (by decide)).trans ((hF3550.1 231 20 (by decide)).trans ((hF3540.1 231 20 (by decide)).trans ((hF2767.1 231 20 (by decide)).trans ((hF2755.1 231 20 (by decide)).trans ((hF2741.1 231 20 (by decide)).trans ((hF2727.1 231 20 (by decide)).trans (hF2713.1 231 20 (by decide))))))))))))).trans hv3906))
                          obtain ⟨v3909, hv3909⟩ : ∃ v, gI g0 231 24 = v := ⟨_, rfl⟩
                          have tv3909 := congrArg Int32.toInt hv3909
                          have x3910 := HI.eqI hI3874 (p := 231) (b := 24) ((((hF3875.1 231 24 (by decide)).trans ((hF3844.1 231 24 (by decide)).trans ((hF3766.1 231 24 (by decide)).trans ((hF3578.1 231 24 (by decide)).trans ((hF3564.1 231 24 (by decide)).trans ((hF3550.1 231 24 (by decide)).trans ((hF3540.1 231 24 (by decide)).trans ((hF2767.1 231 24 (by decide)).trans ((hF2755.1 231 24 (by decide)).trans ((hF2741.1 231 24 (by decide)).trans ((hF2727.1 231 24 (by decide)).trans (hF2713.1 231 24 (by decide))))))))))))).trans hv3909))
                          have x3912 := HI.eqI hI0 (p := 231) (b := 13) (hv3793)
                          have x3913 := HI.eqI hI0 (p := 231) (b := 14) (hv6)
                          have x3914 := HI.eqI hI0 (p := 231) (b := 15) (hv3904)
                          have x3915 := HI.eqI hI0 (p := 231) (b := 20) (hv3906)
                          have x3916 := HI.eqI hI0 (p := 231) (b := 23) (hv8)
                          have x3917 := HI.eqI hI0 (p := 231) (b := 24) (hv3909)
                          have x3919 := HI.eqI hI3843 (p := 231) (b := 24) ((((hF3844.1 231 24 (by decide)).trans ((hF3766.1 231 24 (by decide)).trans ((hF3578.1 231 24 (by decide)).trans ((hF3564.1 231 24 (by decide)).trans ((hF3550.1 231 24 (by decide)).trans ((hF3540.1 231 24 (by decide)).trans ((hF2767.1 231 24 (by decide)).trans ((hF2755.1 231 24 (by decide)).trans ((hF2741.1 231 24 (by decide)).trans ((hF2727.1 231 24 (by decide)).trans (hF2713.1 231 24 (by decide)))))))))))).trans hv3909))
                          have y3924 : (gI g3764 231 13).toInt = (gI g0 231 13).toInt := (mu3798.2.1 (show (gI g0 231 14).toInt = 0 from by omega) (by omega)).2.1
                          exact ⟨_, rfl, hI3874, hF3878, _, rfl, by decide, ⟨by omega, by omega, by omega, by omega, w263900, by omega, by omega, (fun hbad => ⟨by omega, (PT.mk (fun _ => pg3887) (fun h => False.elim (by omega)) (fun h h9 => False.elim (by omega)) (fun h => False.elim (by omega)))⟩), (fun hbad => by omega), (TKM.c hK3799 (((hF3875.2.1 236 (by decide)).trans (hF3844.2.1 236 (by decide)))) (((hF3875.1 231 8 (by decide)).trans (hF3844.1 231 8 (by decide)))) (((hF3875.1 231 9 (by decide)).trans (hF3844.1 231 9 (by decide)))) (((hF3875.1 231 10 (by decide)).trans (hF3844.1 231 10 (by decide)))) (((hF3875.1 231 11 (by decide)).trans (hF3844.1 231 11 (by decide)))) (((hF3875.2.2 231 12 (by decide)).trans (hF3844.2.2 231 12 (by decide))))), (fun c0 b hC h => M.cmp h (fun z i => HBT.b4 hC i inn2772 (by omega) (by omega)) (by rw [pI.c (((hF3875.1 231 9 (by decide)).trans (hF3844.1 231 9 (by decide))))]; exact (MUSTP.tok hK mu3798 (by omega) (by omega))) (by omega) inn2772 (by omega) cm3544 (by omega) sq3852 (by omega) (PUSH.fr2 hr3877 rfl rfl rfl rfl rfl rfl) (by omega) (pI.c (((hF3844.1 231 24 (by decide)).trans ((hF3766.1 231 24 (by decide)).trans ((hF3578.1 231 24 (by decide)).trans ((hF3564.1 231 24 (by decide)).trans ((hF3550.1 231 24 (by decide)).trans ((hF3540.1 231 24 (by decide)).trans ((hF2767.1 231 24 (by decide)).trans ((hF2755.1 231 24 (by decide)).trans ((hF2741.1 231 24 (by decide)).trans ((hF2727.1 231 24 (by decide)).trans (hF2713.1 231 24 (by decide)))))))))))))) (show (gI _ 231 24).toInt = (gI g3842 231 24).toInt from by omega) (show (gI _ 231 20).toInt = (gI g0 231 20).toInt from by omega) (show (gI _ 231 15).toInt = (gI g0 231 15).toInt from by omega) (fun _ => ⟨show (gI _ 231 14).toInt = 0 from by omega, show (gI _ 231 13).toInt = (gI g0 231 13).toInt from by omega⟩) (fun z => absurd (show (gI g0 231 14).toInt = 0 from by omega) z)), (fun h14 c0 b K hC h => MG_cmp h (PLG2_in h.1 hC inn2772 (by omega) (by omega)) (by rw [pI.c (((hF3875.1 231 9 (by decide)).trans (hF3844.1 231 9 (by decide))))]; exact (MUSTP.tok hK mu3798 (by omega) (by omega))) (by omega) inn2772 (by omega) cm3544 (by omega) sg3853 (by omega) sq3852 (PUSH.fr2 hr3877 rfl rfl rfl rfl rfl rfl) (by omega) rfl (SMG_mk ((hF3875.2.1 238 (by decide))) ((hF3875.2.1 239 (by decide))) ((hF3875.1 231 17 (by decide)))) (by show 0 ≤ (gI g3842 231 17).toInt; omega))⟩⟩
                    · have c3572_ : v3565.toInt ≠ 0 := en_k_eq_f c3572
                      have i3927 := BL.yes hb3571 (by omega)
                      refine At.enter rfl ?_
                      refine r_bipush 25 rfl ?_
                      refine r_goto ?_
                      refine At.enter rfl ?_
                      refine r_istore_n ([(2, .int 25), (3, .int v2768), (0, .ref 231), (1, .int a1)]) rfl ?_
                      refine r_aload_n rfl ?_
                      refine r_iload_n rfl ?_
                      refine r_bipush 26 rfl ?_
                      refine r_ict (by decide) ?_
                      refine At.enter rfl ?_
                      refine r_iconst 1 rfl ?_
                      refine r_goto ?_
                      refine At.enter rfl ?_
                      have x3928 := HI.eqI hI3563 (p := 231) (b := 8) ((((hF3564.1 231 8 (by decide)).trans ((hF3550.1 231 8 (by decide)).trans ((hF3540.1 231 8 (by decide)).trans ((hF2767.1 231 8 (by decide)).trans ((hF2755.1 231 8 (by decide)).trans ((hF2741.1 231 8 (by decide)).trans ((hF2727.1 231 8 (by decide)).trans (hF2713.1 231 8 (by decide))))))))).trans hv1))
                      have x3929 := HI.eqI hI3563 (p := 231) (b := 9) ((((hF3564.1 231 9 (by decide)).trans ((hF3550.1 231 9 (by decide)).trans ((hF3540.1 231 9 (by decide)).trans ((hF2767.1 231 9 (by decide)).trans ((hF2755.1 231 9 (by decide)).trans ((hF2741.1 231 9 (by decide)).trans ((hF2727.1 231 9 (by decide)).trans (hF2713.1 231 9 (by decide))))))))).trans hv2))
                      have x3930 := HI.eqI hI3563 (p := 231) (b := 10) ((((hF3564.1 231 10 (by decide)).trans ((hF3550.1 231 10 (by decide)).trans ((hF3540.1 231 10 (by decide)).trans ((hF2767.1 231 10 (by decide)).trans ((hF2755.1 231 10 (by decide)).trans ((hF2741.1 231 10 (by decide)).trans ((hF2727.1 231 10 (by decide)).trans (hF2713.1 231 10 (by decide))))))))).trans hv3))
                      have w263932 := W26.cong hW hI3563 (((hF3564.1 231 9 (by decide)).trans ((hF3550.1 231 9 (by decide)).trans ((hF3540.1 231 9 (by decide)).trans ((hF2767.1 231 9 (by decide)).trans ((hF2755.1 231 9 (by decide)).trans ((hF2741.1 231 9 (by decide)).trans ((hF2727.1 231 9 (by decide)).trans (hF2713.1 231 9 (by decide)))))))))) (((hF3564.1 231 10 (by decide)).trans ((hF3550.1 231 10 (by decide)).trans ((hF3540.1 231 10 (by decide)).trans ((hF2767.1 231 10 (by decide)).trans ((hF2755.1 231 10 (by decide)).trans ((hF2741.1 231 10 (by decide)).trans ((hF2727.1 231 10 (by decide)).trans (hF2713.1 231 10 (by decide)))))))))) (((hF3564.1 231 11 (by decide)).trans ((hF3550.1 231 11 (by decide)).trans ((hF3540.1 231 11 (by decide)).trans ((hF2767.1 231 11 (by decide)).trans ((hF2755.1 231 11 (by decide)).trans ((hF2741.1 231 11 (by decide)).trans ((hF2727.1 231 11 (by decide)).trans (hF2713.1 231 11 (by decide)))))))))) (((hF3564.2.2 231 12 (by decide)).trans ((hF3550.2.2 231 12 (by decide)).trans ((hF3540.2.2 231 12 (by decide)).trans ((hF2767.2.2 231 12 (by decide)).trans ((hF2755.2.2 231 12 (by decide)).trans ((hF2741.2.2 231 12 (by decide)).trans ((hF2727.2.2 231 12 (by decide)).trans (hF2713.2.2 231 12 (by decide))))))))))
                      have zv3933 : (1 : Int32).toInt = 1 := rfl
                      refine r_callV 213 rfl [.ref 231, .int 1] [] (Nat.le_of_ble_eq_true rfl) rfl (T_X11_must_231 _ hI3563 1 (by decide) (by refine ⟨?_, ?_, ?_, ?_⟩ <;> omega) w263932 (TKM.c hK (((hF3564.2.1 236 (by decide)).trans ((hF3550.2.1 236 (by decide)).trans ((hF3540.2.1 236 (by decide)).trans ((hF2767.2.1 236 (by decide)).trans ((hF2755.2.1 236 (by decide)).trans ((hF2741.2.1 236 (by decide)).trans ((hF2727.2.1 236 (by decide)).trans (hF2713.2.1 236 (by decide)))))))))) (((hF3564.1 231 8 (by decide)).trans ((hF3550.1 231 8 (by decide)).trans ((hF3540.1 231 8 (by decide)).trans ((hF2767.1 231 8 (by decide)).trans ((hF2755.1 231 8 (by decide)).trans ((hF2741.1 231 8 (by decide)).trans ((hF2727.1 231 8 (by decide)).trans (hF2713.1 231 8 (by decide)))))))))) (((hF3564.1 231 9 (by decide)).trans ((hF3550.1 231 9 (by decide)).trans ((hF3540.1 231 9 (by decide)).trans ((hF2767.1 231 9 (by decide)).trans ((hF2755.1 231 9 (by decide)).trans ((hF2741.1 231 9 (by decide)).trans ((hF2727.1 231 9 (by decide)).trans (hF2713.1 231 9 (by decide)))))))))) (((hF3564.1 231 10 (by decide)).trans ((hF3550.1 231 10 (by decide)).trans ((hF3540.1 231 10 (by decide)).trans ((hF2767.1 231 10 (by decide)).trans ((hF2755.1 231 10 (by decide)).trans ((hF2741.1 231 10 (by decide)).trans ((hF2727.1 231 10 (by decide)).trans (hF2713.1 231 10 (by decide)))))))))) (((hF3564.1 231 11 (by decide)).trans ((hF3550.1 231 11 (by decide)).trans ((hF3540.1 231 11 (by decide)).trans ((hF2767.1 231 11 (by decide)).trans ((hF2755.1 231 11 (by decide)).trans ((hF2741.1 231 11 (by decide)).trans ((hF2727.1 231 11 (by decide)).trans (hF2713.1 231 11 (by decide)))))))))) (((hF3564.2.2 231 12 (by decide)).trans ((hF3550.2.2 231 12 (by decide)).trans ((hF3540.2.2 231 12 (by decide)).trans ((hF2767.2.2 231 12 (by decide)).trans ((hF2755.2.2 231 12 (by decide)).trans ((hF2741.2.2 231 12 (by decide)).trans ((hF2727.2.2 231 12 (by decide)).trans (hF2713.2.2 231 12 (by decide)))))))))))) ?_
                      rintro _ _ ⟨g3934, rfl, hI3935, hF3936, rfl, hr3938⟩
                      refine At.stn ?_
                      have hF3939 := Fr.tr hF3567 hF3936 rfl rfl
                      have x3945 := HI.eqI hI3563 (p := 231) (b := 14) ((((hF3564.1 231 14 (by decide)).trans ((hF3550.1 231 14 (by decide)).trans ((hF3540.1 231 14 (by decide)).trans ((hF2767.1 231 14 (by decide)).trans ((hF2755.1 231 14 (by decide)).trans ((hF2741.1 231 14 (by decide)).trans ((hF2727.1 231 14 (by decide)).trans (hF2713.1 231 14 (by decide))))))))).trans hv6))
                      have x3946 := HI.eqI hI3935 (p := 231) (b := 8) ((((hF3936.1 231 8 (by decide)).trans ((hF3564.1 231 8 (by decide)).trans ((hF3550.1 231 8 (by decide)).trans ((hF3540.1 231 8 (by decide)).trans ((hF2767.1 231 8 (by decide)).trans ((hF2755.1 231 8 (by decide)).trans ((hF2741.1 231 8 (by decide)).trans ((hF2727.1 231 8 (by decide)).trans (hF2713.1 231 8 (by decide)))))))))).trans hv1))
                      obtain ⟨v3947, hv3947⟩ : ∃ v, gI g3934 231 9 = v := ⟨_, rfl⟩
                      have rv3947 := RgF.at hI3935.2.1 (p := 231) (b := 9) rfl
                      rw [hv3947] at rv3947
                      dsimp only at rv3947
                      have tv3947 := congrArg Int32.toInt hv3947
                      have x3948 := HI.eqI hI3935 (p := 231) (b := 9) (hv3947)
                      obtain ⟨v3949, hv3949⟩ : ∃ v, gI g3934 231 10 = v := ⟨_, rfl⟩
                      have rv3949 := RgF.at hI3935.2.1 (p := 231) (b := 10) rfl
                      rw [hv3949] at rv3949
                      dsimp only at rv3949
                      have tv3949 := congrArg Int32.toInt hv3949
                      have x3950 := HI.eqI hI3935 (p := 231) (b := 10) (hv3949)
                      obtain ⟨v3951, hv3951⟩ : ∃ v, gI g3934 231 11 = v := ⟨_, rfl⟩
                      have tv3951 := congrArg Int32.toInt hv3951
                      have x3952 := HI.eqI hI3935 (p := 231) (b := 11) (hv3951)
                      obtain ⟨v3953, hv3953⟩ : ∃ v, gI g3934 231 14 = v := ⟨_, rfl⟩
                      have tv3953 := congrArg Int32.toInt hv3953
                      have x3954 := HI.eqI hI3935 (p := 231) (b := 14) (hv3953)
                      obtain ⟨c3955, c3956, c3957, c3958, c3959, c3960, c3961, c3962⟩ := hr3938
                      obtain ⟨v3963, hv3963⟩ : ∃ v, gI g0 231 13 = v := ⟨_, rfl⟩
                      have tv3963 := congrArg Int32.toInt hv3963
                      have x3964 := HI.eqI hI3563 (p := 231) (b := 13) ((((hF3564.1 231 13 (by decide)).trans ((hF3550.1 231 13 (by decide)).trans ((hF3540.1 231 13 (by decide)).trans ((hF2767.1 231 13 (by decide)).trans ((hF2755.1 231 13 (by decide)).trans ((hF2741.1 231 13 (by decide)).trans ((hF2727.1 231 13 (by decide)).trans (hF2713.1 231 13 (by decide))))))))).trans hv3963))
                      obtain ⟨v3966, hv3966⟩ : ∃ v, gI g3934 231 13 = v := ⟨_, rfl⟩
                      have tv3966 := congrArg Int32.toInt hv3966
                      have x3967 := HI.eqI hI3935 (p := 231) (b := 13) (hv3966)
                      unfold MUSTP at c3962
                      rw [TM.c (((hF3564.2.1 236 (by decide)).trans ((hF3550.2.1 236 (by decide)).trans ((hF3540.2.1 236 (by decide)).trans ((hF2767.2.1 236 (by decide)).trans ((hF2755.2.1 236 (by decide)).trans ((hF2741.2.1 236 (by decide)).trans ((hF2727.2.1 236 (by decide)).trans (hF2713.2.1 236 (by decide)))))))))), nM.c (((hF3564.1 231 8 (by decide)).trans ((hF3550.1 231 8 (by decide)).trans ((hF3540.1 231 8 (by decide)).trans ((hF2767.1 231 8 (by decide)).trans ((hF2755.1 231 8 (by decide)).trans ((hF2741.1 231 8 (by decide)).trans ((hF2727.1 231 8 (by decide)).trans (hF2713.1 231 8 (by decide)))))))))), pI.c (b := 14) (((hF3564.1 231 14 (by decide)).trans ((hF3550.1 231 14 (by decide)).trans ((hF3540.1 231 14 (by decide)).trans ((hF2767.1 231 14 (by decide)).trans ((hF2755.1 231 14 (by decide)).trans ((hF2741.1 231 14 (by decide)).trans ((hF2727.1 231 14 (by decide)).trans (hF2713.1 231 14 (by decide)))))))))), pI.c (b := 13) (((hF3564.1 231 13 (by decide)).trans ((hF3550.1 231 13 (by decide)).trans ((hF3540.1 231 13 (by decide)).trans ((hF2767.1 231 13 (by decide)).trans ((hF2755.1 231 13 (by decide)).trans ((hF2741.1 231 13 (by decide)).trans ((hF2727.1 231 13 (by decide)).trans (hF2713.1 231 13 (by decide)))))))))), pI.c (b := 10) (((hF3564.1 231 10 (by decide)).trans ((hF3550.1 231 10 (by decide)).trans ((hF3540.1 231 10 (by decide)).trans ((hF2767.1 231 10 (by decide)).trans ((hF2755.1 231 10 (by decide)).trans ((hF2741.1 231 10 (by decide)).trans ((hF2727.1 231 10 (by decide)).trans (hF2713.1 231 10 (by decide)))))))))), pI.c (b := 9) (((hF3564.1 231 9 (by decide)).trans ((hF3550.1 231 9 (by decide)).trans ((hF3540.1 231 9 (by decide)).trans ((hF2767.1 231 9 (by decide)).trans ((hF2755.1 231 9 (by decide)).trans ((hF2741.1 231 9 (by decide)).trans ((hF2727.1 231 9 (by decide)).trans (hF2713.1 231 9 (by decide))))))))))] at c3962
                      have mu3968 : MUSTP g0 g3934 1 := c3962
                      clear c3962
                      have hK3969 := mu3968.1
                      refine At.enter rfl ?_
                      refine r_aload_n rfl ?_
                      refine q_getI (Sh.int hI3935.1 kx_231 rfl) v3953 hv3953 ?_
                      refine r_ifs 220 rfl (fun c3970 => ?_) (fun c3970 => ?_)
                      · have c3970_ : v3953.toInt ≠ 0 := en_k_ne_t c3970
                        clear c3961
                        obtain ⟨i3971, i3972⟩ := MUSTP.y mu3968 (by omega) (by omega)
                        refine At.enter rfl ?_
                        refine r_iconst 1 rfl ?_
                        refine r_ireti ?_
                        obtain ⟨v3977, hv3977⟩ : ∃ v, gJ g3934 231 12 = v := ⟨_, rfl⟩
                        have x3978 := HI.eqJ hI3935 (b := 12) (hv3977)
                        have x3980 := HI.eqI hI3935 (p := 231) (b := 17) ((((hF3936.1 231 17 (by decide)).trans ((hF3564.1 231 17 (by decide)).trans ((hF3550.1 231 17 (by decide)).trans ((hF3540.1 231 17 (by decide)).trans ((hF2767.1 231 17 (by decide)).trans ((hF2755.1 231 17 (by decide)).trans ((hF2741.1 231 17 (by decide)).trans ((hF2727.1 231 17 (by decide)).trans (hF2713.1 231 17 (by decide)))))))))).trans hv7))
                        have x3981 := HI.eqI hI3935 (p := 231) (b := 23) ((((hF3936.1 231 23 (by decide)).trans ((hF3564.1 231 23 (by decide)).trans ((hF3550.1 231 23 (by decide)).trans ((hF3540.1 231 23 (by decide)).trans ((hF2767.1 231 23 (by decide)).trans ((hF2755.1 231 23 (by decide)).trans ((hF2741.1 231 23 (by decide)).trans ((hF2727.1 231 23 (by decide)).trans (hF2713.1 231 23 (by decide)))))))))).trans hv8))
                        have x3982 := HI.eqI hI0 (p := 231) (b := 9) (hv2)
                        obtain ⟨v3987, hv3987⟩ : ∃ v, gI g0 231 15 = v := ⟨_, rfl⟩
                        have rv3987 := RgF.at hI0.2.1 (p := 231) (b := 15) rfl
                        rw [hv3987] at rv3987
                        dsimp only at rv3987
                        have tv3987 := congrArg Int32.toInt hv3987
                        have x3988 := HI.eqI hI3935 (p := 231) (b := 15) ((((hF3936.1 231 15 (by decide)).trans ((hF3564.1 231 15 (by decide)).trans ((hF3550.1 231 15 (by decide)).trans ((hF3540.1 231 15 (by decide)).trans ((hF2767.1 231 15 (by decide)).trans ((hF2755.1 231 15 (by decide)).trans ((hF2741.1 231 15 (by decide)).trans ((hF2727.1 231 15 (by decide)).trans (hF2713.1 231 15 (by decide)))))))))).trans hv3987))
                        obtain ⟨v3989, hv3989⟩ : ∃ v, gI g0 231 20 = v := ⟨_, rfl⟩
                        have tv3989 := congrArg Int32.toInt hv3989
                        have x3990 := HI.eqI hI3935 (p := 231) (b := 20) ((((hF3936.1 231 20 (by decide)).trans ((hF3564.1 231 20 (by decide)).trans ((hF3550.1 231 20 (by decide)).trans ((hF3540.1 231 20 (by decide)).trans ((hF2767.1 231 20 (by decide)).trans ((hF2755.1 231 20 (by decide)).trans ((hF2741.1 231 20 (by decide)).trans ((hF2727.1 231 20 (by decide)).trans (hF2713.1 231 20 (by decide)))))))))).trans hv3989))
                        obtain ⟨v3992, hv3992⟩ : ∃ v, gI g0 231 24 = v := ⟨_, rfl⟩
                        have tv3992 := congrArg Int32.toInt hv3992
                        have x3993 := HI.eqI hI3935 (p := 231) (b := 24) ((((hF3936.1 231 24 (by decide)).trans ((hF3564.1 231 24 (by decide)).trans ((hF3550.1 231 24 (by decide)).trans ((hF3540.1 231 24 (by decide)).trans ((hF2767.1 231 24 (by decide)).trans ((hF2755.1 231 24 (by decide)).trans ((hF2741.1 231 24 (by decide)).trans ((hF2727.1 231 24 (by decide)).trans (hF2713.1 231 24 (by decide)))))))))).trans hv3992))
                        have x3995 := HI.eqI hI0 (p := 231) (b := 13) (hv3963)
                        have x3996 := HI.eqI hI0 (p := 231) (b := 14) (hv6)
                        have x3997 := HI.eqI hI0 (p := 231) (b := 15) (hv3987)
                        have x3998 := HI.eqI hI0 (p := 231) (b := 20) (hv3989)
                        have x3999 := HI.eqI hI0 (p := 231) (b := 23) (hv8)
                        have x4000 := HI.eqI hI0 (p := 231) (b := 24) (hv3992)
                        have mf4001 := mu3968.2.2.1 (show (gI g0 231 14).toInt = 0 from by omega) (by omega)
                        have y4002 : (gI _ 231 14).toInt ≠ 0 := mf4001.1
                        have y4003 : (gI _ 231 13).toInt = (gI g0 231 9).toInt := mf4001.2
                        exact ⟨_, rfl, hI3935, hF3939, _, rfl, by decide, ⟨by omega, by omega, by omega, by omega, c3960, by omega, by omega, (fun hbad => ⟨by omega, (PT.mk (fun h => False.elim (by omega)) (fun h => False.elim (by omega)) (fun h h9 => False.elim (by omega)) (fun h => False.elim (by omega)))⟩), (fun hbad => by omega), hK3969, (fun c0 b hC h => M.cmpF h (fun z i => HBT.b4 hC i inn2772 (by omega) (by omega)) (TKM.some hK).choose_spec (by omega) (by omega) inn2772 (by omega) cm3544 (by omega) (fun _ => ⟨show (gI _ 231 14).toInt ≠ 0 from by omega, show (gI _ 231 13).toInt = (gI g0 231 9).toInt from by omega⟩) (fun z => absurd (show (gI g0 231 14).toInt = 0 from by omega) z) _), (fun h14 c0 b K hC h => absurd (show (gI _ 231 14).toInt = 0 from h14) (by omega))⟩⟩
                      · have c3970_ : v3953.toInt = 0 := en_k_ne_f c3970
                        obtain ⟨i4004, i4005, i4006⟩ := c3961 (by omega)
                        obtain ⟨i4007, i4008⟩ := MUSTP.z mu3968 (by omega) (by omega)
                        refine At.enter rfl ?_
                        refine r_aload_n rfl ?_
                        refine r_iconst 5 rfl ?_
                        have x4009 := HI.eqI hI3935 (p := 231) (b := 17) ((((hF3936.1 231 17 (by decide)).trans ((hF3564.1 231 17 (by decide)).trans ((hF3550.1 231 17 (by decide)).trans ((hF3540.1 231 17 (by decide)).trans ((hF2767.1 231 17 (by decide)).trans ((hF2755.1 231 17 (by decide)).trans ((hF2741.1 231 17 (by decide)).trans ((hF2727.1 231 17 (by decide)).trans (hF2713.1 231 17 (by decide)))))))))).trans hv7))
                        have x4010 := HI.eqI hI3935 (p := 231) (b := 23) ((((hF3936.1 231 23 (by decide)).trans ((hF3564.1 231 23 (by decide)).trans ((hF3550.1 231 23 (by decide)).trans ((hF3540.1 231 23 (by decide)).trans ((hF2767.1 231 23 (by decide)).trans ((hF2755.1 231 23 (by decide)).trans ((hF2741.1 231 23 (by decide)).trans ((hF2727.1 231 23 (by decide)).trans (hF2713.1 231 23 (by decide)))))))))).trans hv8))
                        have zv4011 : (5 : Int32).toInt = 5 := rfl
                        refine r_callV 225 rfl [.ref 231, .int 5] [] (Nat.le_of_ble_eq_true rfl) rfl (T_X11_settle_231 _ hI3935 5 (by decide) (by omega)) ?_
                        rintro _ _ ⟨g4012, rfl, hI4013, hF4014, rfl, hr4016⟩
                        refine At.stn ?_
                        have hF4017 := Fr.tr hF3939 hF4014 rfl rfl
                        obtain ⟨sp4019, sq4020, sg4021⟩ := hr4016
                        have sq4022 := SETQ.fr sq4020 (((hF3936.2.1 240 (by decide)).trans ((hF3564.2.1 240 (by decide)).trans ((hF3550.2.1 240 (by decide)).trans ((hF3540.2.1 240 (by decide)).trans ((hF2767.2.1 240 (by decide)).trans ((hF2755.2.1 240 (by decide)).trans ((hF2741.2.1 240 (by decide)).trans ((hF2727.2.1 240 (by decide)).trans (hF2713.2.1 240 (by decide))))))))))) (((hF3936.1 231 23 (by decide)).trans ((hF3564.1 231 23 (by decide)).trans ((hF3550.1 231 23 (by decide)).trans ((hF3540.1 231 23 (by decide)).trans ((hF2767.1 231 23 (by decide)).trans ((hF2755.1 231 23 (by decide)).trans ((hF2741.1 231 23 (by decide)).trans ((hF2727.1 231 23 (by decide)).trans (hF2713.1 231 23 (by decide)))))))))))
                        have sg4023 := SETG_fr sg4021 (((hF3936.2.1 240 (by decide)).trans ((hF3564.2.1 240 (by decide)).trans ((hF3550.2.1 240 (by decide)).trans ((hF3540.2.1 240 (by decide)).trans ((hF2767.2.1 240 (by decide)).trans ((hF2755.2.1 240 (by decide)).trans ((hF2741.2.1 240 (by decide)).trans ((hF2727.2.1 240 (by decide)).trans (hF2713.2.1 240 (by decide))))))))))) (((hF3936.2.1 241 (by decide)).trans ((hF3564.2.1 241 (by decide)).trans ((hF3550.2.1 241 (by decide)).trans ((hF3540.2.1 241 (by decide)).trans ((hF2767.2.1 241 (by decide)).trans ((hF2755.2.1 241 (by decide)).trans ((hF2741.2.1 241 (by decide)).trans ((hF2727.2.1 241 (by decide)).trans (hF2713.2.1 241 (by decide))))))))))) (((hF3936.1 231 23 (by decide)).trans ((hF3564.1 231 23 (by decide)).trans ((hF3550.1 231 23 (by decide)).trans ((hF3540.1 231 23 (by decide)).trans ((hF2767.1 231 23 (by decide)).trans ((hF2755.1 231 23 (by decide)).trans ((hF2741.1 231 23 (by decide)).trans ((hF2727.1 231 23 (by decide)).trans (hF2713.1 231 23 (by decide))))))))))) (SMG_mk (((hF3936.2.1 238 (by decide)).trans ((hF3564.2.1 238 (by decide)).trans ((hF3550.2.1 238 (by decide)).trans ((hF3540.2.1 238 (by decide)).trans ((hF2767.2.1 238 (by decide)).trans ((hF2755.2.1 238 (by decide)).trans ((hF2741.2.1 238 (by decide)).trans ((hF2727.2.1 238 (by decide)).trans (hF2713.2.1 238 (by decide))))))))))) (((hF3936.2.1 239 (by decide)).trans ((hF3564.2.1 239 (by decide)).trans ((hF3550.2.1 239 (by decide)).trans ((hF3540.2.1 239 (by decide)).trans ((hF2767.2.1 239 (by decide)).trans ((hF2755.2.1 239 (by decide)).trans ((hF2741.2.1 239 (by decide)).trans ((hF2727.2.1 239 (by decide)).trans (hF2713.2.1 239 (by decide))))))))))) (((hF3936.1 231 17 (by decide)).trans ((hF3564.1 231 17 (by decide)).trans ((hF3550.1 231 17 (by decide)).trans ((hF3540.1 231 17 (by decide)).trans ((hF2767.1 231 17 (by decide)).trans ((hF2755.1 231 17 (by decide)).trans ((hF2741.1 231 17 (by decide)).trans ((hF2727.1 231 17 (by decide)).trans (hF2713.1 231 17 (by decide))))))))))))
                        obtain ⟨v4026, hv4026⟩ : ∃ v, gI g4012 231 17 = v := ⟨_, rfl⟩
                        have rv4026 := RgF.at hI4013.2.1 (p := 231) (b := 17) rfl
                        rw [hv4026] at rv4026
                        dsimp only at rv4026
                        have tv4026 := congrArg Int32.toInt hv4026
                        have x4027 := HI.eqI hI4013 (p := 231) (b := 17) (hv4026)
                        obtain ⟨v4028, hv4028⟩ : ∃ v, gI g4012 231 23 = v := ⟨_, rfl⟩
                        have rv4028 := RgF.at hI4013.2.1 (p := 231) (b := 23) rfl
                        rw [hv4028] at rv4028
                        dsimp only at rv4028
                        have tv4028 := congrArg Int32.toInt hv4028
                        have x4029 := HI.eqI hI4013 (p := 231) (b := 23) (hv4028)
                        have y4030 : (gI _ 231 23).toInt ≤ (gI _ 231 23).toInt := sp4019.1
                        have y4031 : (gI _ 231 17).toInt + (gI _ 231 23).toInt ≤ (gI _ 231 17).toInt + (gI _ 231 23).toInt := sp4019.2.1
                        have inn4032 := INN.cong inn2771 hI3935 (((hF3936.2.1 240 (by decide)).trans ((hF3564.2.1 240 (by decide)).trans ((hF3550.2.1 240 (by decide)).trans (hF3540.2.1 240 (by decide)))))) (((hF3936.1 231 23 (by decide)).trans ((hF3564.1 231 23 (by decide)).trans ((hF3550.1 231 23 (by decide)).trans (hF3540.1 231 23 (by decide))))))
                        have pg4033 := PG.cong (hP.2.1 (by decide)) hI3935 (((hF3936.2.1 238 (by decide)).trans ((hF3564.2.1 238 (by decide)).trans ((hF3550.2.1 238 (by decide)).trans ((hF3540.2.1 238 (by decide)).trans ((hF2767.2.1 238 (by decide)).trans ((hF2755.2.1 238 (by decide)).trans ((hF2741.2.1 238 (by decide)).trans ((hF2727.2.1 238 (by decide)).trans (hF2713.2.1 238 (by decide))))))))))) (((hF3936.2.1 239 (by decide)).trans ((hF3564.2.1 239 (by decide)).trans ((hF3550.2.1 239 (by decide)).trans ((hF3540.2.1 239 (by decide)).trans ((hF2767.2.1 239 (by decide)).trans ((hF2755.2.1 239 (by decide)).trans ((hF2741.2.1 239 (by decide)).trans ((hF2727.2.1 239 (by decide)).trans (hF2713.2.1 239 (by decide))))))))))) (((hF3936.2.1 240 (by decide)).trans ((hF3564.2.1 240 (by decide)).trans ((hF3550.2.1 240 (by decide)).trans ((hF3540.2.1 240 (by decide)).trans ((hF2767.2.1 240 (by decide)).trans ((hF2755.2.1 240 (by decide)).trans ((hF2741.2.1 240 (by decide)).trans ((hF2727.2.1 240 (by decide)).trans (hF2713.2.1 240 (by decide))))))))))) (((hF3936.2.1 241 (by decide)).trans ((hF3564.2.1 241 (by decide)).trans ((hF3550.2.1 241 (by decide)).trans ((hF3540.2.1 241 (by decide)).trans ((hF2767.2.1 241 (by decide)).trans ((hF2755.2.1 241 (by decide)).trans ((hF2741.2.1 241 (by decide)).trans ((hF2727.2.1 241 (by decide)).trans (hF2713.2.1 241 (by decide))))))))))) (((hF3936.1 231 17 (by decide)).trans ((hF3564.1 231 17 (by decide)).trans ((hF3550.1 231 17 (by decide)).trans ((hF3540.1 231 17 (by decide)).trans ((hF2767.1 231 17 (by decide)).trans ((hF2755.1 231 17 (by decide)).trans ((hF2741.1 231 17 (by decide)).trans ((hF2727.1 231 17 (by decide)).trans (hF2713.1 231 17 (by decide))))))))))) (((hF3936.1 231 23 (by decide)).trans ((hF3564.1 231 23 (by decide)).trans ((hF3550.1 231 23 (by decide)).trans ((hF3540.1 231 23 (by decide)).trans ((hF2767.1 231 23 (by decide)).trans ((hF2755.1 231 23 (by decide)).trans ((hF2741.1 231 23 (by decide)).trans ((hF2727.1 231 23 (by decide)).trans (hF2713.1 231 23 (by decide)))))))))))
                        have nsq4034 := INN.nsq inn4032 pg4033 (by omega)
                        have pg4035 := PG.cong (hP.2.1 (by decide)) hI3935 (((hF3936.2.1 238 (by decide)).trans ((hF3564.2.1 238 (by decide)).trans ((hF3550.2.1 238 (by decide)).trans ((hF3540.2.1 238 (by decide)).trans ((hF2767.2.1 238 (by decide)).trans ((hF2755.2.1 238 (by decide)).trans ((hF2741.2.1 238 (by decide)).trans ((hF2727.2.1 238 (by decide)).trans (hF2713.2.1 238 (by decide))))))))))) (((hF3936.2.1 239 (by decide)).trans ((hF3564.2.1 239 (by decide)).trans ((hF3550.2.1 239 (by decide)).trans ((hF3540.2.1 239 (by decide)).trans ((hF2767.2.1 239 (by decide)).trans ((hF2755.2.1 239 (by decide)).trans ((hF2741.2.1 239 (by decide)).trans ((hF2727.2.1 239 (by decide)).trans (hF2713.2.1 239 (by decide))))))))))) (((hF3936.2.1 240 (by decide)).trans ((hF3564.2.1 240 (by decide)).trans ((hF3550.2.1 240 (by decide)).trans ((hF3540.2.1 240 (by decide)).trans ((hF2767.2.1 240 (by decide)).trans ((hF2755.2.1 240 (by decide)).trans ((hF2741.2.1 240 (by decide)).trans ((hF2727.2.1 240 (by decide)).trans (hF2713.2.1 240 (by decide))))))))))) (((hF3936.2.1 241 (by decide)).trans ((hF3564.2.1 241 (by decide)).trans ((hF3550.2.1 241 (by decide)).trans ((hF3540.2.1 241 (by decide)).trans ((hF2767.2.1 241 (by decide)).trans ((hF2755.2.1 241 (by decide)).trans ((hF2741.2.1 241 (by decide)).trans ((hF2727.2.1 241 (by decide)).trans (hF2713.2.1 241 (by decide))))))))))) (((hF3936.1 231 17 (by decide)).trans ((hF3564.1 231 17 (by decide)).trans ((hF3550.1 231 17 (by decide)).trans ((hF3540.1 231 17 (by decide)).trans ((hF2767.1 231 17 (by decide)).trans ((hF2755.1 231 17 (by decide)).trans ((hF2741.1 231 17 (by decide)).trans ((hF2727.1 231 17 (by decide)).trans (hF2713.1 231 17 (by decide))))))))))) (((hF3936.1 231 23 (by decide)).trans ((hF3564.1 231 23 (by decide)).trans ((hF3550.1 231 23 (by decide)).trans ((hF3540.1 231 23 (by decide)).trans ((hF2767.1 231 23 (by decide)).trans ((hF2755.1 231 23 (by decide)).trans ((hF2741.1 231 23 (by decide)).trans ((hF2727.1 231 23 (by decide)).trans (hF2713.1 231 23 (by decide)))))))))))
                        have inn4037 := INN.cong inn2771 hI3935 (((hF3936.2.1 240 (by decide)).trans ((hF3564.2.1 240 (by decide)).trans ((hF3550.2.1 240 (by decide)).trans (hF3540.2.1 240 (by decide)))))) (((hF3936.1 231 23 (by decide)).trans ((hF3564.1 231 23 (by decide)).trans ((hF3550.1 231 23 (by decide)).trans (hF3540.1 231 23 (by decide))))))
                        have pg4036 := sp4019.2.2.1 _ _ _ pg4035
                        have nsq4039 := NSQ.le nsq4034 hI4013 sp4019.2.2.2.2.1 sp4019.1
                        refine At.enter rfl ?_
                        refine r_aload_n rfl ?_
                        refine r_iload_n rfl ?_
                        refine r_iconst 0 rfl ?_
                        have zv4041 : (25 : Int32).toInt = 25 := rfl
                        have zv4042 : (0 : Int32).toInt = 0 := rfl
                        refine r_callV 231 rfl [.ref 231, .int 25, .int 0] [] (Nat.le_of_ble_eq_true rfl) rfl (T_X11_push_231 _ hI4013 25 (by decide) 0 (by decide) (by omega)) ?_
                        rintro _ _ ⟨g4043, rfl, hI4044, hF4045, rfl, hr4047⟩
                        refine At.stn ?_
                        have hF4048 := Fr.tr hF4017 hF4045 rfl rfl
                        have x4053 := HI.eqI hI4044 (p := 231) (b := 17) (((hF4045.1 231 17 (by decide)).trans hv4026))
                        obtain ⟨v4054, hv4054⟩ : ∃ v, gI g4043 231 23 = v := ⟨_, rfl⟩
                        have rv4054 := RgF.at hI4044.2.1 (p := 231) (b := 23) rfl
                        rw [hv4054] at rv4054
                        dsimp only at rv4054
                        have tv4054 := congrArg Int32.toInt hv4054
                        have x4055 := HI.eqI hI4044 (p := 231) (b := 23) (hv4054)
                        have y4056 : (gI _ 231 23).toInt = (gI _ 231 23).toInt + 1 := hr4047.1
                        have pg4057 := PG.push (e' := 0) pg4036 hr4047 (hF4045.2.1 238 (by decide)) (hF4045.2.1 239 (by decide)) (hF4045.1 231 17 (by decide)) ⟨by omega, by omega⟩ (Or.inr nsq4039) (by omega) (by omega)
                        have nsq4058 := NSQ.push nsq4039 hr4047 (by omega)
                        refine At.enter rfl ?_
                        refine r_iconst 1 rfl ?_
                        refine r_ireti ?_
                        have x4059 := HI.eqI hI4044 (p := 231) (b := 8) ((((hF4045.1 231 8 (by decide)).trans ((hF4014.1 231 8 (by decide)).trans ((hF3936.1 231 8 (by decide)).trans ((hF3564.1 231 8 (by decide)).trans ((hF3550.1 231 8 (by decide)).trans ((hF3540.1 231 8 (by decide)).trans ((hF2767.1 231 8 (by decide)).trans ((hF2755.1 231 8 (by decide)).trans ((hF2741.1 231 8 (by decide)).trans ((hF2727.1 231 8 (by decide)).trans (hF2713.1 231 8 (by decide)))))))))))).trans hv1))
                        have x4060 := HI.eqI hI4044 (p := 231) (b := 9) ((((hF4045.1 231 9 (by decide)).trans (hF4014.1 231 9 (by decide))).trans hv3947))
                        have x4061 := HI.eqI hI4044 (p := 231) (b := 10) ((((hF4045.1 231 10 (by decide)).trans (hF4014.1 231 10 (by decide))).trans hv3949))
                        have x4062 := HI.eqI hI4044 (p := 231) (b := 11) ((((hF4045.1 231 11 (by decide)).trans (hF4014.1 231 11 (by decide))).trans hv3951))
                        obtain ⟨v4063, hv4063⟩ : ∃ v, gJ g3934 231 12 = v := ⟨_, rfl⟩
                        have x4064 := HI.eqJ hI4044 (b := 12) ((((hF4045.2.2 231 12 (by decide)).trans (hF4014.2.2 231 12 (by decide))).trans hv4063))
                        have x4065 := HI.eqI hI4044 (p := 231) (b := 14) ((((hF4045.1 231 14 (by decide)).trans (hF4014.1 231 14 (by decide))).trans hv3953))
                        have x4068 := HI.eqI hI0 (p := 231) (b := 9) (hv2)
                        have w264070 := W26.cong c3960 hI4044 (((hF4045.1 231 9 (by decide)).trans (hF4014.1 231 9 (by decide)))) (((hF4045.1 231 10 (by decide)).trans (hF4014.1 231 10 (by decide)))) (((hF4045.1 231 11 (by decide)).trans (hF4014.1 231 11 (by decide)))) (((hF4045.2.2 231 12 (by decide)).trans (hF4014.2.2 231 12 (by decide))))
                        have x4072 := HI.eqI hI4044 (p := 231) (b := 13) ((((hF4045.1 231 13 (by decide)).trans (hF4014.1 231 13 (by decide))).trans hv3966))
                        obtain ⟨v4074, hv4074⟩ : ∃ v, gI g0 231 15 = v := ⟨_, rfl⟩
                        have rv4074 := RgF.at hI0.2.1 (p := 231) (b := 15) rfl
                        rw [hv4074] at rv4074
                        dsimp only at rv4074
                        have tv4074 := congrArg Int32.toInt hv4074
                        have x4075 := HI.eqI hI4044 (p := 231) (b := 15) ((((hF4045.1 231 15 (by decide)).trans ((hF4014.1 231 15 (by decide)).trans ((hF3936.1 231 15 (by decide)).trans ((hF3564.1 231 15 (by decide)).trans ((hF3550.1 231 15 (by decide)).trans ((hF3540.1 231 15 (by decide)).trans ((hF2767.1 231 15 (by decide)).trans ((hF2755.1 231 15 (by decide)).trans ((hF2741.1 231 15 (by decide)).trans ((hF2727.1 231 15 (by decide)).trans (hF2713.1 231 15 (by decide)))))))))))).trans hv4074))
                        obtain ⟨v4076, hv4076⟩ : ∃ v, gI g0 231 20 = v := ⟨_, rfl⟩
                        have tv4076 := congrArg Int32.toInt hv4076
                        have x4077 := HI.eqI hI4044 (p := 231) (b := 20) ((((hF4045.1 231 20 (by decide)).trans ((hF4014.1 231 20 (by decide)).trans ((hF3936.1 231 20 (by decide)).trans ((hF3564.1 231 20 (by decide)).trans ((hF3550.1 231 20 (by decide)).trans ((hF3540.1 231 20 (by decide)).trans ((hF2767.1 231 20 (by decide)).trans ((hF2755.1 231 20 (by decide)).trans ((hF2741.1 231 20 (by decide)).trans ((hF2727.1 231 20 (by decide)).trans (hF2713.1 231 20 (by decide)))))))))))).trans hv4076))
                        obtain ⟨v4079, hv4079⟩ : ∃ v, gI g0 231 24 = v := ⟨_, rfl⟩
                        have tv4079 := congrArg Int32.toInt hv4079
                        have x4080 := HI.eqI hI4044 (p := 231) (b := 24) ((((hF4045.1 231 24 (by decide)).trans ((hF4014.1 231 24 (by decide)).trans ((hF3936.1 231 24 (by decide)).trans ((hF3564.1 231 24 (by decide)).trans ((hF3550.1 231 24 (by decide)).trans ((hF3540.1 231 24 (by decide)).trans ((hF2767.1 231 24 (by decide)).trans ((hF2755.1 231 24 (by decide)).trans ((hF2741.1 231 24 (by decide)).trans ((hF2727.1 231 24 (by decide)).trans (hF2713.1 231 24 (by decide)))))))))))).trans hv4079))
                        have x4082 := HI.eqI hI0 (p := 231) (b := 13) (hv3963)
                        have x4083 := HI.eqI hI0 (p := 231) (b := 14) (hv6)
                        have x4084 := HI.eqI hI0 (p := 231) (b := 15) (hv4074)
                        have x4085 := HI.eqI hI0 (p := 231) (b := 20) (hv4076)
                        have x4086 := HI.eqI hI0 (p := 231) (b := 23) (hv8)
                        have x4087 := HI.eqI hI0 (p := 231) (b := 24) (hv4079)
                        have x4089 := HI.eqI hI4013 (p := 231) (b := 24) ((((hF4014.1 231 24 (by decide)).trans ((hF3936.1 231 24 (by decide)).trans ((hF3564.1 231 24 (by decide)).trans ((hF3550.1 231 24 (by decide)).trans ((hF3540.1 231 24 (by decide)).trans ((hF2767.1 231 24 (by decide)).trans ((hF2755.1 231 24 (by decide)).trans ((hF2741.1 231 24 (by decide)).trans ((hF2727.1 231 24 (by decide)).trans (hF2713.1 231 24 (by decide))))))))))).trans hv4079))
                        have y4094 : (gI g3934 231 13).toInt = (gI g0 231 13).toInt := (mu3968.2.1 (show (gI g0 231 14).toInt = 0 from by omega) (by omega)).2.1
                        exact ⟨_, rfl, hI4044, hF4048, _, rfl, by decide, ⟨by omega, by omega, by omega, by omega, w264070, by omega, by omega, (fun hbad => ⟨by omega, (PT.mk (fun _ => pg4057) (fun h => False.elim (by omega)) (fun h h9 => False.elim (by omega)) (fun h => False.elim (by omega)))⟩), (fun hbad => by omega), (TKM.c hK3969 (((hF4045.2.1 236 (by decide)).trans (hF4014.2.1 236 (by decide)))) (((hF4045.1 231 8 (by decide)).trans (hF4014.1 231 8 (by decide)))) (((hF4045.1 231 9 (by decide)).trans (hF4014.1 231 9 (by decide)))) (((hF4045.1 231 10 (by decide)).trans (hF4014.1 231 10 (by decide)))) (((hF4045.1 231 11 (by decide)).trans (hF4014.1 231 11 (by decide)))) (((hF4045.2.2 231 12 (by decide)).trans (hF4014.2.2 231 12 (by decide))))), (fun c0 b hC h => M.cmp h (fun z i => HBT.b4 hC i inn2772 (by omega) (by omega)) (by rw [pI.c (((hF4045.1 231 9 (by decide)).trans (hF4014.1 231 9 (by decide))))]; exact (MUSTP.tok hK mu3968 (by omega) (by omega))) (by omega) inn2772 (by omega) cm3544 (by omega) sq4022 (by omega) (PUSH.fr2 hr4047 rfl rfl rfl rfl rfl rfl) (by omega) (pI.c (((hF4014.1 231 24 (by decide)).trans ((hF3936.1 231 24 (by decide)).trans ((hF3564.1 231 24 (by decide)).trans ((hF3550.1 231 24 (by decide)).trans ((hF3540.1 231 24 (by decide)).trans ((hF2767.1 231 24 (by decide)).trans ((hF2755.1 231 24 (by decide)).trans ((hF2741.1 231 24 (by decide)).trans ((hF2727.1 231 24 (by decide)).trans (hF2713.1 231 24 (by decide))))))))))))) (show (gI _ 231 24).toInt = (gI g4012 231 24).toInt from by omega) (show (gI _ 231 20).toInt = (gI g0 231 20).toInt from by omega) (show (gI _ 231 15).toInt = (gI g0 231 15).toInt from by omega) (fun _ => ⟨show (gI _ 231 14).toInt = 0 from by omega, show (gI _ 231 13).toInt = (gI g0 231 13).toInt from by omega⟩) (fun z => absurd (show (gI g0 231 14).toInt = 0 from by omega) z)), (fun h14 c0 b K hC h => MG_cmp h (PLG2_in h.1 hC inn2772 (by omega) (by omega)) (by rw [pI.c (((hF4045.1 231 9 (by decide)).trans (hF4014.1 231 9 (by decide))))]; exact (MUSTP.tok hK mu3968 (by omega) (by omega))) (by omega) inn2772 (by omega) cm3544 (by omega) sg4023 (by omega) sq4022 (PUSH.fr2 hr4047 rfl rfl rfl rfl rfl rfl) (by omega) rfl (SMG_mk ((hF4045.2.1 238 (by decide))) ((hF4045.2.1 239 (by decide))) ((hF4045.1 231 17 (by decide)))) (by show 0 ≤ (gI g4012 231 17).toInt; omega))⟩⟩
                  · have c3558_ : v3551.toInt ≠ 0 := en_k_eq_f c3558
                    have i4097 := BL.yes hb3557 (by omega)
                    refine At.enter rfl ?_
                    refine r_bipush 24 rfl ?_
                    refine r_goto ?_
                    refine At.enter rfl ?_
                    refine r_istore_n ([(2, .int 24), (3, .int v2768), (0, .ref 231), (1, .int a1)]) rfl ?_
                    refine r_aload_n rfl ?_
                    refine r_iload_n rfl ?_
                    refine r_bipush 26 rfl ?_
                    refine r_ict (by decide) ?_
                    refine At.enter rfl ?_
                    refine r_iconst 1 rfl ?_
                    refine r_goto ?_
                    refine At.enter rfl ?_
                    have x4098 := HI.eqI hI3549 (p := 231) (b := 8) ((((hF3550.1 231 8 (by decide)).trans ((hF3540.1 231 8 (by decide)).trans ((hF2767.1 231 8 (by decide)).trans ((hF2755.1 231 8 (by decide)).trans ((hF2741.1 231 8 (by decide)).trans ((hF2727.1 231 8 (by decide)).trans (hF2713.1 231 8 (by decide)))))))).trans hv1))
                    have x4099 := HI.eqI hI3549 (p := 231) (b := 9) ((((hF3550.1 231 9 (by decide)).trans ((hF3540.1 231 9 (by decide)).trans ((hF2767.1 231 9 (by decide)).trans ((hF2755.1 231 9 (by decide)).trans ((hF2741.1 231 9 (by decide)).trans ((hF2727.1 231 9 (by decide)).trans (hF2713.1 231 9 (by decide)))))))).trans hv2))
                    have x4100 := HI.eqI hI3549 (p := 231) (b := 10) ((((hF3550.1 231 10 (by decide)).trans ((hF3540.1 231 10 (by decide)).trans ((hF2767.1 231 10 (by decide)).trans ((hF2755.1 231 10 (by decide)).trans ((hF2741.1 231 10 (by decide)).trans ((hF2727.1 231 10 (by decide)).trans (hF2713.1 231 10 (by decide)))))))).trans hv3))
                    have w264102 := W26.cong hW hI3549 (((hF3550.1 231 9 (by decide)).trans ((hF3540.1 231 9 (by decide)).trans ((hF2767.1 231 9 (by decide)).trans ((hF2755.1 231 9 (by decide)).trans ((hF2741.1 231 9 (by decide)).trans ((hF2727.1 231 9 (by decide)).trans (hF2713.1 231 9 (by decide))))))))) (((hF3550.1 231 10 (by decide)).trans ((hF3540.1 231 10 (by decide)).trans ((hF2767.1 231 10 (by decide)).trans ((hF2755.1 231 10 (by decide)).trans ((hF2741.1 231 10 (by decide)).trans ((hF2727.1 231 10 (by decide)).trans (hF2713.1 231 10 (by decide))))))))) (((hF3550.1 231 11 (by decide)).trans ((hF3540.1 231 11 (by decide)).trans ((hF2767.1 231 11 (by decide)).trans ((hF2755.1 231 11 (by decide)).trans ((hF2741.1 231 11 (by decide)).trans ((hF2727.1 231 11 (by decide)).trans (hF2713.1 231 11 (by decide))))))))) (((hF3550.2.2 231 12 (by decide)).trans ((hF3540.2.2 231 12 (by decide)).trans ((hF2767.2.2 231 12 (by decide)).trans ((hF2755.2.2 231 12 (by decide)).trans ((hF2741.2.2 231 12 (by decide)).trans ((hF2727.2.2 231 12 (by decide)).trans (hF2713.2.2 231 12 (by decide)))))))))
                    have zv4103 : (1 : Int32).toInt = 1 := rfl
                    refine r_callV 213 rfl [.ref 231, .int 1] [] (Nat.le_of_ble_eq_true rfl) rfl (T_X11_must_231 _ hI3549 1 (by decide) (by refine ⟨?_, ?_, ?_, ?_⟩ <;> omega) w264102 (TKM.c hK (((hF3550.2.1 236 (by decide)).trans ((hF3540.2.1 236 (by decide)).trans ((hF2767.2.1 236 (by decide)).trans ((hF2755.2.1 236 (by decide)).trans ((hF2741.2.1 236 (by decide)).trans ((hF2727.2.1 236 (by decide)).trans (hF2713.2.1 236 (by decide))))))))) (((hF3550.1 231 8 (by decide)).trans ((hF3540.1 231 8 (by decide)).trans ((hF2767.1 231 8 (by decide)).trans ((hF2755.1 231 8 (by decide)).trans ((hF2741.1 231 8 (by decide)).trans ((hF2727.1 231 8 (by decide)).trans (hF2713.1 231 8 (by decide))))))))) (((hF3550.1 231 9 (by decide)).trans ((hF3540.1 231 9 (by decide)).trans ((hF2767.1 231 9 (by decide)).trans ((hF2755.1 231 9 (by decide)).trans ((hF2741.1 231 9 (by decide)).trans ((hF2727.1 231 9 (by decide)).trans (hF2713.1 231 9 (by decide))))))))) (((hF3550.1 231 10 (by decide)).trans ((hF3540.1 231 10 (by decide)).trans ((hF2767.1 231 10 (by decide)).trans ((hF2755.1 231 10 (by decide)).trans ((hF2741.1 231 10 (by decide)).trans ((hF2727.1 231 10 (by decide)).trans (hF2713.1 231 10 (by decide))))))))) (((hF3550.1 231 11 (by decide)).trans ((hF3540.1 231 11 (by decide)).trans ((hF2767.1 231 11 (by decide)).trans ((hF2755.1 231 11 (by decide)).trans ((hF2741.1 231 11 (by decide)).trans ((hF2727.1 231 11 (by decide)).trans (hF2713.1 231 11 (by decide))))))))) (((hF3550.2.2 231 12 (by decide)).trans ((hF3540.2.2 231 12 (by decide)).trans ((hF2767.2.2 231 12 (by decide)).trans ((hF2755.2.2 231 12 (by decide)).trans ((hF2741.2.2 231 12 (by decide)).trans ((hF2727.2.2 231 12 (by decide)).trans (hF2713.2.2 231 12 (by decide))))))))))) ?_
                    rintro _ _ ⟨g4104, rfl, hI4105, hF4106, rfl, hr4108⟩
                    refine At.stn ?_
                    have hF4109 := Fr.tr hF3553 hF4106 rfl rfl
                    have x4115 := HI.eqI hI3549 (p := 231) (b := 14) ((((hF3550.1 231 14 (by decide)).trans ((hF3540.1 231 14 (by decide)).trans ((hF2767.1 231 14 (by decide)).trans ((hF2755.1 231 14 (by decide)).trans ((hF2741.1 231 14 (by decide)).trans ((hF2727.1 231 14 (by decide)).trans (hF2713.1 231 14 (by decide)))))))).trans hv6))
                    have x4116 := HI.eqI hI4105 (p := 231) (b := 8) ((((hF4106.1 231 8 (by decide)).trans ((hF3550.1 231 8 (by decide)).trans ((hF3540.1 231 8 (by decide)).trans ((hF2767.1 231 8 (by decide)).trans ((hF2755.1 231 8 (by decide)).trans ((hF2741.1 231 8 (by decide)).trans ((hF2727.1 231 8 (by decide)).trans (hF2713.1 231 8 (by decide))))))))).trans hv1))
                    obtain ⟨v4117, hv4117⟩ : ∃ v, gI g4104 231 9 = v := ⟨_, rfl⟩
                    have rv4117 := RgF.at hI4105.2.1 (p := 231) (b := 9) rfl
                    rw [hv4117] at rv4117
                    dsimp only at rv4117
                    have tv4117 := congrArg Int32.toInt hv4117
                    have x4118 := HI.eqI hI4105 (p := 231) (b := 9) (hv4117)
                    obtain ⟨v4119, hv4119⟩ : ∃ v, gI g4104 231 10 = v := ⟨_, rfl⟩
                    have rv4119 := RgF.at hI4105.2.1 (p := 231) (b := 10) rfl
                    rw [hv4119] at rv4119
                    dsimp only at rv4119
                    have tv4119 := congrArg Int32.toInt hv4119
                    have x4120 := HI.eqI hI4105 (p := 231) (b := 10) (hv4119)
                    obtain ⟨v4121, hv4121⟩ : ∃ v, gI g4104 231 11 = v := ⟨_, rfl⟩
                    have tv4121 := congrArg Int32.toInt hv4121
                    have x4122 := HI.eqI hI4105 (p := 231) (b := 11) (hv4121)
                    obtain ⟨v4123, hv4123⟩ : ∃ v, gI g4104 231 14 = v := ⟨_, rfl⟩
                    have tv4123 := congrArg Int32.toInt hv4123
                    have x4124 := HI.eqI hI4105 (p := 231) (b := 14) (hv4123)
                    obtain ⟨c4125, c4126, c4127, c4128, c4129, c4130, c4131, c4132⟩ := hr4108
                    obtain ⟨v4133, hv4133⟩ : ∃ v, gI g0 231 13 = v := ⟨_, rfl⟩
                    have tv4133 := congrArg Int32.toInt hv4133
                    have x4134 := HI.eqI hI3549 (p := 231) (b := 13) ((((hF3550.1 231 13 (by decide)).trans ((hF3540.1 231 13 (by decide)).trans ((hF2767.1 231 13 (by decide)).trans ((hF2755.1 231 13 (by decide)).trans ((hF2741.1 231 13 (by decide)).trans ((hF2727.1 231 13 (by decide)).trans (hF2713.1 231 13 (by decide)))))))).trans hv4133))
                    obtain ⟨v4136, hv4136⟩ : ∃ v, gI g4104 231 13 = v := ⟨_, rfl⟩
                    have tv4136 := congrArg Int32.toInt hv4136
                    have x4137 := HI.eqI hI4105 (p := 231) (b := 13) (hv4136)
                    unfold MUSTP at c4132
                    rw [TM.c (((hF3550.2.1 236 (by decide)).trans ((hF3540.2.1 236 (by decide)).trans ((hF2767.2.1 236 (by decide)).trans ((hF2755.2.1 236 (by decide)).trans ((hF2741.2.1 236 (by decide)).trans ((hF2727.2.1 236 (by decide)).trans (hF2713.2.1 236 (by decide))))))))), nM.c (((hF3550.1 231 8 (by decide)).trans ((hF3540.1 231 8 (by decide)).trans ((hF2767.1 231 8 (by decide)).trans ((hF2755.1 231 8 (by decide)).trans ((hF2741.1 231 8 (by decide)).trans ((hF2727.1 231 8 (by decide)).trans (hF2713.1 231 8 (by decide))))))))), pI.c (b := 14) (((hF3550.1 231 14 (by decide)).trans ((hF3540.1 231 14 (by decide)).trans ((hF2767.1 231 14 (by decide)).trans ((hF2755.1 231 14 (by decide)).trans ((hF2741.1 231 14 (by decide)).trans ((hF2727.1 231 14 (by decide)).trans (hF2713.1 231 14 (by decide))))))))), pI.c (b := 13) (((hF3550.1 231 13 (by decide)).trans ((hF3540.1 231 13 (by decide)).trans ((hF2767.1 231 13 (by decide)).trans ((hF2755.1 231 13 (by decide)).trans ((hF2741.1 231 13 (by decide)).trans ((hF2727.1 231 13 (by decide)).trans (hF2713.1 231 13 (by decide))))))))), pI.c (b := 10) (((hF3550.1 231 10 (by decide)).trans ((hF3540.1 231 10 (by decide)).trans ((hF2767.1 231 10 (by decide)).trans ((hF2755.1 231 10 (by decide)).trans ((hF2741.1 231 10 (by decide)).trans ((hF2727.1 231 10 (by decide)).trans (hF2713.1 231 10 (by decide))))))))), pI.c (b := 9) (((hF3550.1 231 9 (by decide)).trans ((hF3540.1 231 9 (by decide)).trans ((hF2767.1 231 9 (by decide)).trans ((hF2755.1 231 9 (by decide)).trans ((hF2741.1 231 9 (by decide)).trans ((hF2727.1 231 9 (by decide)).trans (hF2713.1 231 9 (by decide)))))))))] at c4132
                    have mu4138 : MUSTP g0 g4104 1 := c4132
                    clear c4132
                    have hK4139 := mu4138.1
                    refine At.enter rfl ?_
                    refine r_aload_n rfl ?_
                    refine q_getI (Sh.int hI4105.1 kx_231 rfl) v4123 hv4123 ?_
                    refine r_ifs 220 rfl (fun c4140 => ?_) (fun c4140 => ?_)
                    · have c4140_ : v4123.toInt ≠ 0 := en_k_ne_t c4140
                      clear c4131
                      obtain ⟨i4141, i4142⟩ := MUSTP.y mu4138 (by omega) (by omega)
                      refine At.enter rfl ?_
                      refine r_iconst 1 rfl ?_
                      refine r_ireti ?_
                      obtain ⟨v4147, hv4147⟩ : ∃ v, gJ g4104 231 12 = v := ⟨_, rfl⟩
                      have x4148 := HI.eqJ hI4105 (b := 12) (hv4147)
                      have x4150 := HI.eqI hI4105 (p := 231) (b := 17) ((((hF4106.1 231 17 (by decide)).trans ((hF3550.1 231 17 (by decide)).trans ((hF3540.1 231 17 (by decide)).trans ((hF2767.1 231 17 (by decide)).trans ((hF2755.1 231 17 (by decide)).trans ((hF2741.1 231 17 (by decide)).trans ((hF2727.1 231 17 (by decide)).trans (hF2713.1 231 17 (by decide))))))))).trans hv7))
                      have x4151 := HI.eqI hI4105 (p := 231) (b := 23) ((((hF4106.1 231 23 (by decide)).trans ((hF3550.1 231 23 (by decide)).trans ((hF3540.1 231 23 (by decide)).trans ((hF2767.1 231 23 (by decide)).trans ((hF2755.1 231 23 (by decide)).trans ((hF2741.1 231 23 (by decide)).trans ((hF2727.1 231 23 (by decide)).trans (hF2713.1 231 23 (by decide))))))))).trans hv8))
                      have x4152 := HI.eqI hI0 (p := 231) (b := 9) (hv2)
                      obtain ⟨v4157, hv4157⟩ : ∃ v, gI g0 231 15 = v := ⟨_, rfl⟩
                      have rv4157 := RgF.at hI0.2.1 (p := 231) (b := 15) rfl
                      rw [hv4157] at rv4157
                      dsimp only at rv4157
                      have tv4157 := congrArg Int32.toInt hv4157
                      have x4158 := HI.eqI hI4105 (p := 231) (b := 15) ((((hF4106.1 231 15 (by decide)).trans ((hF3550.1 231 15 (by decide)).trans ((hF3540.1 231 15 (by decide)).trans ((hF2767.1 231 15 (by decide)).trans ((hF2755.1 231 15 (by decide)).trans ((hF2741.1 231 15 (by decide)).trans ((hF2727.1 231 15 (by decide)).trans (hF2713.1 231 15 (by decide))))))))).trans hv4157))
                      obtain ⟨v4159, hv4159⟩ : ∃ v, gI g0 231 20 = v := ⟨_, rfl⟩
                      have tv4159 := congrArg Int32.toInt hv4159
                      have x4160 := HI.eqI hI4105 (p := 231) (b := 20) ((((hF4106.1 231 20 (by decide)).trans ((hF3550.1 231 20 (by decide)).trans ((hF3540.1 231 20 (by decide)).trans ((hF2767.1 231 20 (by decide)).trans ((hF2755.1 231 20 (by decide)).trans ((hF2741.1 231 20 (by decide)).trans ((hF2727.1 231 20 (by decide)).trans (hF2713.1 231 20 (by decide))))))))).trans hv4159))
                      obtain ⟨v4162, hv4162⟩ : ∃ v, gI g0 231 24 = v := ⟨_, rfl⟩
                      have tv4162 := congrArg Int32.toInt hv4162
                      have x4163 := HI.eqI hI4105 (p := 231) (b := 24) ((((hF4106.1 231 24 (by decide)).trans ((hF3550.1 231 24 (by decide)).trans ((hF3540.1 231 24 (by decide)).trans ((hF2767.1 231 24 (by decide)).trans ((hF2755.1 231 24 (by decide)).trans ((hF2741.1 231 24 (by decide)).trans ((hF2727.1 231 24 (by decide)).trans (hF2713.1 231 24 (by decide))))))))).trans hv4162))
                      have x4165 := HI.eqI hI0 (p := 231) (b := 13) (hv4133)
                      have x4166 := HI.eqI hI0 (p := 231) (b := 14) (hv6)
                      have x4167 := HI.eqI hI0 (p := 231) (b := 15) (hv4157)
                      have x4168 := HI.eqI hI0 (p := 231) (b := 20) (hv4159)
                      have x4169 := HI.eqI hI0 (p := 231) (b := 23) (hv8)
                      have x4170 := HI.eqI hI0 (p := 231) (b := 24) (hv4162)
                      have mf4171 := mu4138.2.2.1 (show (gI g0 231 14).toInt = 0 from by omega) (by omega)
                      have y4172 : (gI _ 231 14).toInt ≠ 0 := mf4171.1
                      have y4173 : (gI _ 231 13).toInt = (gI g0 231 9).toInt := mf4171.2
                      exact ⟨_, rfl, hI4105, hF4109, _, rfl, by decide, ⟨by omega, by omega, by omega, by omega, c4130, by omega, by omega, (fun hbad => ⟨by omega, (PT.mk (fun h => False.elim (by omega)) (fun h => False.elim (by omega)) (fun h h9 => False.elim (by omega)) (fun h => False.elim (by omega)))⟩), (fun hbad => by omega), hK4139, (fun c0 b hC h => M.cmpF h (fun z i => HBT.b4 hC i inn2772 (by omega) (by omega)) (TKM.some hK).choose_spec (by omega) (by omega) inn2772 (by omega) cm3544 (by omega) (fun _ => ⟨show (gI _ 231 14).toInt ≠ 0 from by omega, show (gI _ 231 13).toInt = (gI g0 231 9).toInt from by omega⟩) (fun z => absurd (show (gI g0 231 14).toInt = 0 from by omega) z) _), (fun h14 c0 b K hC h => absurd (show (gI _ 231 14).toInt = 0 from h14) (by omega))⟩⟩
                    · have c4140_ : v4123.toInt = 0 := en_k_ne_f c4140
                      obtain ⟨i4174, i4175, i4176⟩ := c4131 (by omega)
                      obtain ⟨i4177, i4178⟩ := MUSTP.z mu4138 (by omega) (by omega)
                      refine At.enter rfl ?_
                      refine r_aload_n rfl ?_
                      refine r_iconst 5 rfl ?_
                      have x4179 := HI.eqI hI4105 (p := 231) (b := 17) ((((hF4106.1 231 17 (by decide)).trans ((hF3550.1 231 17 (by decide)).trans ((hF3540.1 231 17 (by decide)).trans ((hF2767.1 231 17 (by decide)).trans ((hF2755.1 231 17 (by decide)).trans ((hF2741.1 231 17 (by decide)).trans ((hF2727.1 231 17 (by decide)).trans (hF2713.1 231 17 (by decide))))))))).trans hv7))
                      have x4180 := HI.eqI hI4105 (p := 231) (b := 23) ((((hF4106.1 231 23 (by decide)).trans ((hF3550.1 231 23 (by decide)).trans ((hF3540.1 231 23 (by decide)).trans ((hF2767.1 231 23 (by decide)).trans ((hF2755.1 231 23 (by decide)).trans ((hF2741.1 231 23 (by decide)).trans ((hF2727.1 231 23 (by decide)).trans (hF2713.1 231 23 (by decide))))))))).trans hv8))
                      have zv4181 : (5 : Int32).toInt = 5 := rfl
                      refine r_callV 225 rfl [.ref 231, .int 5] [] (Nat.le_of_ble_eq_true rfl) rfl (T_X11_settle_231 _ hI4105 5 (by decide) (by omega)) ?_
                      rintro _ _ ⟨g4182, rfl, hI4183, hF4184, rfl, hr4186⟩
                      refine At.stn ?_
                      have hF4187 := Fr.tr hF4109 hF4184 rfl rfl
                      obtain ⟨sp4189, sq4190, sg4191⟩ := hr4186
                      have sq4192 := SETQ.fr sq4190 (((hF4106.2.1 240 (by decide)).trans ((hF3550.2.1 240 (by decide)).trans ((hF3540.2.1 240 (by decide)).trans ((hF2767.2.1 240 (by decide)).trans ((hF2755.2.1 240 (by decide)).trans ((hF2741.2.1 240 (by decide)).trans ((hF2727.2.1 240 (by decide)).trans (hF2713.2.1 240 (by decide)))))))))) (((hF4106.1 231 23 (by decide)).trans ((hF3550.1 231 23 (by decide)).trans ((hF3540.1 231 23 (by decide)).trans ((hF2767.1 231 23 (by decide)).trans ((hF2755.1 231 23 (by decide)).trans ((hF2741.1 231 23 (by decide)).trans ((hF2727.1 231 23 (by decide)).trans (hF2713.1 231 23 (by decide))))))))))
                      have sg4193 := SETG_fr sg4191 (((hF4106.2.1 240 (by decide)).trans ((hF3550.2.1 240 (by decide)).trans ((hF3540.2.1 240 (by decide)).trans ((hF2767.2.1 240 (by decide)).trans ((hF2755.2.1 240 (by decide)).trans ((hF2741.2.1 240 (by decide)).trans ((hF2727.2.1 240 (by decide)).trans (hF2713.2.1 240 (by decide)))))))))) (((hF4106.2.1 241 (by decide)).trans ((hF3550.2.1 241 (by decide)).trans ((hF3540.2.1 241 (by decide)).trans ((hF2767.2.1 241 (by decide)).trans ((hF2755.2.1 241 (by decide)).trans ((hF2741.2.1 241 (by decide)).trans ((hF2727.2.1 241 (by decide)).trans (hF2713.2.1 241 (by decide)))))))))) (((hF4106.1 231 23 (by decide)).trans ((hF3550.1 231 23 (by decide)).trans ((hF3540.1 231 23 (by decide)).trans ((hF2767.1 231 23 (by decide)).trans ((hF2755.1 231 23 (by decide)).trans ((hF2741.1 231 23 (by decide)).trans ((hF2727.1 231 23 (by decide)).trans (hF2713.1 231 23 (by decide)))))))))) (SMG_mk (((hF4106.2.1 238 (by decide)).trans ((hF3550.2.1 238 (by decide)).trans ((hF3540.2.1 238 (by decide)).trans ((hF2767.2.1 238 (by decide)).trans ((hF2755.2.1 238 (by decide)).trans ((hF2741.2.1 238 (by decide)).trans ((hF2727.2.1 238 (by decide)).trans (hF2713.2.1 238 (by decide)))))))))) (((hF4106.2.1 239 (by decide)).trans ((hF3550.2.1 239 (by decide)).trans ((hF3540.2.1 239 (by decide)).trans ((hF2767.2.1 239 (by decide)).trans ((hF2755.2.1 239 (by decide)).trans ((hF2741.2.1 239 (by decide)).trans ((hF2727.2.1 239 (by decide)).trans (hF2713.2.1 239 (by decide)))))))))) (((hF4106.1 231 17 (by decide)).trans ((hF3550.1 231 17 (by decide)).trans ((hF3540.1 231 17 (by decide)).trans ((hF2767.1 231 17 (by decide)).trans ((hF2755.1 231 17 (by decide)).trans ((hF2741.1 231 17 (by decide)).trans ((hF2727.1 231 17 (by decide)).trans (hF2713.1 231 17 (by decide)))))))))))
                      obtain ⟨v4196, hv4196⟩ : ∃ v, gI g4182 231 17 = v := ⟨_, rfl⟩
                      have rv4196 := RgF.at hI4183.2.1 (p := 231) (b := 17) rfl
                      rw [hv4196] at rv4196
                      dsimp only at rv4196
                      have tv4196 := congrArg Int32.toInt hv4196
                      have x4197 := HI.eqI hI4183 (p := 231) (b := 17) (hv4196)
                      obtain ⟨v4198, hv4198⟩ : ∃ v, gI g4182 231 23 = v := ⟨_, rfl⟩
                      have rv4198 := RgF.at hI4183.2.1 (p := 231) (b := 23) rfl
                      rw [hv4198] at rv4198
                      dsimp only at rv4198
                      have tv4198 := congrArg Int32.toInt hv4198
                      have x4199 := HI.eqI hI4183 (p := 231) (b := 23) (hv4198)
                      have y4200 : (gI _ 231 23).toInt ≤ (gI _ 231 23).toInt := sp4189.1
                      have y4201 : (gI _ 231 17).toInt + (gI _ 231 23).toInt ≤ (gI _ 231 17).toInt + (gI _ 231 23).toInt := sp4189.2.1
                      have inn4202 := INN.cong inn2771 hI4105 (((hF4106.2.1 240 (by decide)).trans ((hF3550.2.1 240 (by decide)).trans (hF3540.2.1 240 (by decide))))) (((hF4106.1 231 23 (by decide)).trans ((hF3550.1 231 23 (by decide)).trans (hF3540.1 231 23 (by decide)))))
                      have pg4203 := PG.cong (hP.2.1 (by decide)) hI4105 (((hF4106.2.1 238 (by decide)).trans ((hF3550.2.1 238 (by decide)).trans ((hF3540.2.1 238 (by decide)).trans ((hF2767.2.1 238 (by decide)).trans ((hF2755.2.1 238 (by decide)).trans ((hF2741.2.1 238 (by decide)).trans ((hF2727.2.1 238 (by decide)).trans (hF2713.2.1 238 (by decide)))))))))) (((hF4106.2.1 239 (by decide)).trans ((hF3550.2.1 239 (by decide)).trans ((hF3540.2.1 239 (by decide)).trans ((hF2767.2.1 239 (by decide)).trans ((hF2755.2.1 239 (by decide)).trans ((hF2741.2.1 239 (by decide)).trans ((hF2727.2.1 239 (by decide)).trans (hF2713.2.1 239 (by decide)))))))))) (((hF4106.2.1 240 (by decide)).trans ((hF3550.2.1 240 (by decide)).trans ((hF3540.2.1 240 (by decide)).trans ((hF2767.2.1 240 (by decide)).trans ((hF2755.2.1 240 (by decide)).trans ((hF2741.2.1 240 (by decide)).trans ((hF2727.2.1 240 (by decide)).trans (hF2713.2.1 240 (by decide)))))))))) (((hF4106.2.1 241 (by decide)).trans ((hF3550.2.1 241 (by decide)).trans ((hF3540.2.1 241 (by decide)).trans ((hF2767.2.1 241 (by decide)).trans ((hF2755.2.1 241 (by decide)).trans ((hF2741.2.1 241 (by decide)).trans ((hF2727.2.1 241 (by decide)).trans (hF2713.2.1 241 (by decide)))))))))) (((hF4106.1 231 17 (by decide)).trans ((hF3550.1 231 17 (by decide)).trans ((hF3540.1 231 17 (by decide)).trans ((hF2767.1 231 17 (by decide)).trans ((hF2755.1 231 17 (by decide)).trans ((hF2741.1 231 17 (by decide)).trans ((hF2727.1 231 17 (by decide)).trans (hF2713.1 231 17 (by decide)))))))))) (((hF4106.1 231 23 (by decide)).trans ((hF3550.1 231 23 (by decide)).trans ((hF3540.1 231 23 (by decide)).trans ((hF2767.1 231 23 (by decide)).trans ((hF2755.1 231 23 (by decide)).trans ((hF2741.1 231 23 (by decide)).trans ((hF2727.1 231 23 (by decide)).trans (hF2713.1 231 23 (by decide))))))))))
                      have nsq4204 := INN.nsq inn4202 pg4203 (by omega)
                      have pg4205 := PG.cong (hP.2.1 (by decide)) hI4105 (((hF4106.2.1 238 (by decide)).trans ((hF3550.2.1 238 (by decide)).trans ((hF3540.2.1 238 (by decide)).trans ((hF2767.2.1 238 (by decide)).trans ((hF2755.2.1 238 (by decide)).trans ((hF2741.2.1 238 (by decide)).trans ((hF2727.2.1 238 (by decide)).trans (hF2713.2.1 238 (by decide)))))))))) (((hF4106.2.1 239 (by decide)).trans ((hF3550.2.1 239 (by decide)).trans ((hF3540.2.1 239 (by decide)).trans ((hF2767.2.1 239 (by decide)).trans ((hF2755.2.1 239 (by decide)).trans ((hF2741.2.1 239 (by decide)).trans ((hF2727.2.1 239 (by decide)).trans (hF2713.2.1 239 (by decide)))))))))) (((hF4106.2.1 240 (by decide)).trans ((hF3550.2.1 240 (by decide)).trans ((hF3540.2.1 240 (by decide)).trans ((hF2767.2.1 240 (by decide)).trans ((hF2755.2.1 240 (by decide)).trans ((hF2741.2.1 240 (by decide)).trans ((hF2727.2.1 240 (by decide)).trans (hF2713.2.1 240 (by decide)))))))))) (((hF4106.2.1 241 (by decide)).trans ((hF3550.2.1 241 (by decide)).trans ((hF3540.2.1 241 (by decide)).trans ((hF2767.2.1 241 (by decide)).trans ((hF2755.2.1 241 (by decide)).trans ((hF2741.2.1 241 (by decide)).trans ((hF2727.2.1 241 (by decide)).trans (hF2713.2.1 241 (by decide)))))))))) (((hF4106.1 231 17 (by decide)).trans ((hF3550.1 231 17 (by decide)).trans ((hF3540.1 231 17 (by decide)).trans ((hF2767.1 231 17 (by decide)).trans ((hF2755.1 231 17 (by decide)).trans ((hF2741.1 231 17 (by decide)).trans ((hF2727.1 231 17 (by decide)).trans (hF2713.1 231 17 (by decide)))))))))) (((hF4106.1 231 23 (by decide)).trans ((hF3550.1 231 23 (by decide)).trans ((hF3540.1 231 23 (by decide)).trans ((hF2767.1 231 23 (by decide)).trans ((hF2755.1 231 23 (by decide)).trans ((hF2741.1 231 23 (by decide)).trans ((hF2727.1 231 23 (by decide)).trans (hF2713.1 231 23 (by decide))))))))))
                      have inn4207 := INN.cong inn2771 hI4105 (((hF4106.2.1 240 (by decide)).trans ((hF3550.2.1 240 (by decide)).trans (hF3540.2.1 240 (by decide))))) (((hF4106.1 231 23 (by decide)).trans ((hF3550.1 231 23 (by decide)).trans (hF3540.1 231 23 (by decide)))))
                      have pg4206 := sp4189.2.2.1 _ _ _ pg4205
                      have nsq4209 := NSQ.le nsq4204 hI4183 sp4189.2.2.2.2.1 sp4189.1
                      refine At.enter rfl ?_
                      refine r_aload_n rfl ?_
                      refine r_iload_n rfl ?_
                      refine r_iconst 0 rfl ?_
                      have zv4211 : (24 : Int32).toInt = 24 := rfl
                      have zv4212 : (0 : Int32).toInt = 0 := rfl
                      refine r_callV 231 rfl [.ref 231, .int 24, .int 0] [] (Nat.le_of_ble_eq_true rfl) rfl (T_X11_push_231 _ hI4183 24 (by decide) 0 (by decide) (by omega)) ?_
                      rintro _ _ ⟨g4213, rfl, hI4214, hF4215, rfl, hr4217⟩
                      refine At.stn ?_
                      have hF4218 := Fr.tr hF4187 hF4215 rfl rfl
                      have x4223 := HI.eqI hI4214 (p := 231) (b := 17) (((hF4215.1 231 17 (by decide)).trans hv4196))
                      obtain ⟨v4224, hv4224⟩ : ∃ v, gI g4213 231 23 = v := ⟨_, rfl⟩
                      have rv4224 := RgF.at hI4214.2.1 (p := 231) (b := 23) rfl
                      rw [hv4224] at rv4224
                      dsimp only at rv4224
                      have tv4224 := congrArg Int32.toInt hv4224
                      have x4225 := HI.eqI hI4214 (p := 231) (b := 23) (hv4224)
                      have y4226 : (gI _ 231 23).toInt = (gI _ 231 23).toInt + 1 := hr4217.1
                      have pg4227 := PG.push (e' := 0) pg4206 hr4217 (hF4215.2.1 238 (by decide)) (hF4215.2.1 239 (by decide)) (hF4215.1 231 17 (by decide)) ⟨by omega, by omega⟩ (Or.inr nsq4209) (by omega) (by omega)
                      have nsq4228 := NSQ.push nsq4209 hr4217 (by omega)
                      refine At.enter rfl ?_
                      refine r_iconst 1 rfl ?_
                      refine r_ireti ?_
                      have x4229 := HI.eqI hI4214 (p := 231) (b := 8) ((((hF4215.1 231 8 (by decide)).trans ((hF4184.1 231 8 (by decide)).trans ((hF4106.1 231 8 (by decide)).trans ((hF3550.1 231 8 (by decide)).trans ((hF3540.1 231 8 (by decide)).trans ((hF2767.1 231 8 (by decide)).trans ((hF2755.1 231 8 (by decide)).trans ((hF2741.1 231 8 (by decide)).trans ((hF2727.1 231 8 (by decide)).trans (hF2713.1 231 8 (by decide))))))))))).trans hv1))
                      have x4230 := HI.eqI hI4214 (p := 231) (b := 9) ((((hF4215.1 231 9 (by decide)).trans (hF4184.1 231 9 (by decide))).trans hv4117))
                      have x4231 := HI.eqI hI4214 (p := 231) (b := 10) ((((hF4215.1 231 10 (by decide)).trans (hF4184.1 231 10 (by decide))).trans hv4119))
                      have x4232 := HI.eqI hI4214 (p := 231) (b := 11) ((((hF4215.1 231 11 (by decide)).trans (hF4184.1 231 11 (by decide))).trans hv4121))
                      obtain ⟨v4233, hv4233⟩ : ∃ v, gJ g4104 231 12 = v := ⟨_, rfl⟩
                      have x4234 := HI.eqJ hI4214 (b := 12) ((((hF4215.2.2 231 12 (by decide)).trans (hF4184.2.2 231 12 (by decide))).trans hv4233))
                      have x4235 := HI.eqI hI4214 (p := 231) (b := 14) ((((hF4215.1 231 14 (by decide)).trans (hF4184.1 231 14 (by decide))).trans hv4123))
                      have x4238 := HI.eqI hI0 (p := 231) (b := 9) (hv2)
                      have w264240 := W26.cong c4130 hI4214 (((hF4215.1 231 9 (by decide)).trans (hF4184.1 231 9 (by decide)))) (((hF4215.1 231 10 (by decide)).trans (hF4184.1 231 10 (by decide)))) (((hF4215.1 231 11 (by decide)).trans (hF4184.1 231 11 (by decide)))) (((hF4215.2.2 231 12 (by decide)).trans (hF4184.2.2 231 12 (by decide))))
                      have x4242 := HI.eqI hI4214 (p := 231) (b := 13) ((((hF4215.1 231 13 (by decide)).trans (hF4184.1 231 13 (by decide))).trans hv4136))
                      obtain ⟨v4244, hv4244⟩ : ∃ v, gI g0 231 15 = v := ⟨_, rfl⟩
                      have rv4244 := RgF.at hI0.2.1 (p := 231) (b := 15) rfl
                      rw [hv4244] at rv4244
                      dsimp only at rv4244
                      have tv4244 := congrArg Int32.toInt hv4244
                      have x4245 := HI.eqI hI4214 (p := 231) (b := 15) ((((hF4215.1 231 15 (by decide)).trans ((hF4184.1 231 15 (by decide)).trans ((hF4106.1 231 15 (by decide)).trans ((hF3550.1 231 15 (by decide)).trans ((hF3540.1 231 15 (by decide)).trans ((hF2767.1 231 15 (by decide)).trans ((hF2755.1 231 15 (by decide)).trans ((hF2741.1 231 15 (by decide)).trans ((hF2727.1 231 15 (by decide)).trans (hF2713.1 231 15 (by decide))))))))))).trans hv4244))
                      obtain ⟨v4246, hv4246⟩ : ∃ v, gI g0 231 20 = v := ⟨_, rfl⟩
                      have tv4246 := congrArg Int32.toInt hv4246
                      have x4247 := HI.eqI hI4214 (p := 231) (b := 20) ((((hF4215.1 231 20 (by decide)).trans ((hF4184.1 231 20 (by decide)).trans ((hF4106.1 231 20 (by decide)).trans ((hF3550.1 231 20 (by decide)).trans ((hF3540.1 231 20 (by decide)).trans ((hF2767.1 231 20 (by decide)).trans ((hF2755.1 231 20 (by decide)).trans ((hF2741.1 231 20 (by decide)).trans ((hF2727.1 231 20 (by decide)).trans (hF2713.1 231 20 (by decide))))))))))).trans hv4246))
                      obtain ⟨v4249, hv4249⟩ : ∃ v, gI g0 231 24 = v := ⟨_, rfl⟩
                      have tv4249 := congrArg Int32.toInt hv4249
                      have x4250 := HI.eqI hI4214 (p := 231) (b := 24) ((((hF4215.1 231 24 (by decide)).trans ((hF4184.1 231 24 (by decide)).trans ((hF4106.1 231 24 (by decide)).trans ((hF3550.1 231 24 (by decide)).trans ((hF3540.1 231 24 (by decide)).trans ((hF2767.1 231 24 (by decide)).trans ((hF2755.1 231 24 (by decide)).trans ((hF2741.1 231 24 (by decide)).trans ((hF2727.1 231 24 (by decide)).trans (hF2713.1 231 24 (by decide))))))))))).trans hv4249))
                      have x4252 := HI.eqI hI0 (p := 231) (b := 13) (hv4133)
                      have x4253 := HI.eqI hI0 (p := 231) (b := 14) (hv6)
                      have x4254 := HI.eqI hI0 (p := 231) (b := 15) (hv4244)
                      have x4255 := HI.eqI hI0 (p := 231) (b := 20) (hv4246)
                      have x4256 := HI.eqI hI0 (p := 231) (b := 23) (hv8)
                      have x4257 := HI.eqI hI0 (p := 231) (b := 24) (hv4249)
                      have x4259 := HI.eqI hI4183 (p := 231) (b := 24) ((((hF4184.1 231 24 (by decide)).trans ((hF4106.1 231 24 (by decide)).trans ((hF3550.1 231 24 (by decide)).trans ((hF3540.1 231 24 (by decide)).trans ((hF2767.1 231 24 (by decide)).trans ((hF2755.1 231 24 (by decide)).trans ((hF2741.1 231 24 (by decide)).trans ((hF2727.1 231 24 (by decide)).trans (hF2713.1 231 24 (by decide)))))))))).trans hv4249))
                      have y4264 : (gI g4104 231 13).toInt = (gI g0 231 13).toInt := (mu4138.2.1 (show (gI g0 231 14).toInt = 0 from by omega) (by omega)).2.1
                      exact ⟨_, rfl, hI4214, hF4218, _, rfl, by decide, ⟨by omega, by omega, by omega, by omega, w264240, by omega, by omega, (fun hbad => ⟨by omega, (PT.mk (fun _ => pg4227) (fun h => False.elim (by omega)) (fun h h9 => False.elim (by omega)) (fun h => False.elim (by omega)))⟩), (fun hbad => by omega), (TKM.c hK4139 (((hF4215.2.1 236 (by decide)).trans (hF4184.2.1 236 (by decide)))) (((hF4215.1 231 8 (by decide)).trans (hF4184.1 231 8 (by decide)))) (((hF4215.1 231 9 (by decide)).trans (hF4184.1 231 9 (by decide)))) (((hF4215.1 231 10 (by decide)).trans (hF4184.1 231 10 (by decide)))) (((hF4215.1 231 11 (by decide)).trans (hF4184.1 231 11 (by decide)))) (((hF4215.2.2 231 12 (by decide)).trans (hF4184.2.2 231 12 (by decide))))), (fun c0 b hC h => M.cmp h (fun z i => HBT.b4 hC i inn2772 (by omega) (by omega)) (by rw [pI.c (((hF4215.1 231 9 (by decide)).trans (hF4184.1 231 9 (by decide))))]; exact (MUSTP.tok hK mu4138 (by omega) (by omega))) (by omega) inn2772 (by omega) cm3544 (by omega) sq4192 (by omega) (PUSH.fr2 hr4217 rfl rfl rfl rfl rfl rfl) (by omega) (pI.c (((hF4184.1 231 24 (by decide)).trans ((hF4106.1 231 24 (by decide)).trans ((hF3550.1 231 24 (by decide)).trans ((hF3540.1 231 24 (by decide)).trans ((hF2767.1 231 24 (by decide)).trans ((hF2755.1 231 24 (by decide)).trans ((hF2741.1 231 24 (by decide)).trans ((hF2727.1 231 24 (by decide)).trans (hF2713.1 231 24 (by decide)))))))))))) (show (gI _ 231 24).toInt = (gI g4182 231 24).toInt from by omega) (show (gI _ 231 20).toInt = (gI g0 231 20).toInt from by omega) (show (gI _ 231 15).toInt = (gI g0 231 15).toInt from by omega) (fun _ => ⟨show (gI _ 231 14).toInt = 0 from by omega, show (gI _ 231 13).toInt = (gI g0 231 13).toInt from by omega⟩) (fun z => absurd (show (gI g0 231 14).toInt = 0 from by omega) z)), (fun h14 c0 b K hC h => MG_cmp h (PLG2_in h.1 hC inn2772 (by omega) (by omega)) (by rw [pI.c (((hF4215.1 231 9 (by decide)).trans (hF4184.1 231 9 (by decide))))]; exact (MUSTP.tok hK mu4138 (by omega) (by omega))) (by omega) inn2772 (by omega) cm3544 (by omega) sg4193 (by omega) sq4192 (PUSH.fr2 hr4217 rfl rfl rfl rfl rfl rfl) (by omega) rfl (SMG_mk ((hF4215.2.1 238 (by decide))) ((hF4215.2.1 239 (by decide))) ((hF4215.1 231 17 (by decide)))) (by show 0 ≤ (gI g4182 231 17).toInt; omega))⟩⟩
                · have c3545_ : v3541.toInt ≠ 0 := en_k_eq_f c3545
                  refine At.enter rfl ?_
                  refine r_iconst 2 rfl ?_
                  refine r_ireti ?_
                  have x4267 := HI.eqI hI3539 (p := 231) (b := 8) ((((hF3540.1 231 8 (by decide)).trans ((hF2767.1 231 8 (by decide)).trans ((hF2755.1 231 8 (by decide)).trans ((hF2741.1 231 8 (by decide)).trans ((hF2727.1 231 8 (by decide)).trans (hF2713.1 231 8 (by decide))))))).trans hv1))
                  have x4268 := HI.eqI hI3539 (p := 231) (b := 9) ((((hF3540.1 231 9 (by decide)).trans ((hF2767.1 231 9 (by decide)).trans ((hF2755.1 231 9 (by decide)).trans ((hF2741.1 231 9 (by decide)).trans ((hF2727.1 231 9 (by decide)).trans (hF2713.1 231 9 (by decide))))))).trans hv2))
                  have x4269 := HI.eqI hI3539 (p := 231) (b := 10) ((((hF3540.1 231 10 (by decide)).trans ((hF2767.1 231 10 (by decide)).trans ((hF2755.1 231 10 (by decide)).trans ((hF2741.1 231 10 (by decide)).trans ((hF2727.1 231 10 (by decide)).trans (hF2713.1 231 10 (by decide))))))).trans hv3))
                  have x4270 := HI.eqI hI3539 (p := 231) (b := 11) ((((hF3540.1 231 11 (by decide)).trans ((hF2767.1 231 11 (by decide)).trans ((hF2755.1 231 11 (by decide)).trans ((hF2741.1 231 11 (by decide)).trans ((hF2727.1 231 11 (by decide)).trans (hF2713.1 231 11 (by decide))))))).trans hv4))
                  have x4271 := HI.eqJ hI3539 (b := 12) ((((hF3540.2.2 231 12 (by decide)).trans ((hF2767.2.2 231 12 (by decide)).trans ((hF2755.2.2 231 12 (by decide)).trans ((hF2741.2.2 231 12 (by decide)).trans ((hF2727.2.2 231 12 (by decide)).trans (hF2713.2.2 231 12 (by decide))))))).trans hv5))
                  have x4272 := HI.eqI hI3539 (p := 231) (b := 14) ((((hF3540.1 231 14 (by decide)).trans ((hF2767.1 231 14 (by decide)).trans ((hF2755.1 231 14 (by decide)).trans ((hF2741.1 231 14 (by decide)).trans ((hF2727.1 231 14 (by decide)).trans (hF2713.1 231 14 (by decide))))))).trans hv6))
                  have x4273 := HI.eqI hI3539 (p := 231) (b := 17) ((((hF3540.1 231 17 (by decide)).trans ((hF2767.1 231 17 (by decide)).trans ((hF2755.1 231 17 (by decide)).trans ((hF2741.1 231 17 (by decide)).trans ((hF2727.1 231 17 (by decide)).trans (hF2713.1 231 17 (by decide))))))).trans hv7))
                  have x4274 := HI.eqI hI3539 (p := 231) (b := 23) ((((hF3540.1 231 23 (by decide)).trans ((hF2767.1 231 23 (by decide)).trans ((hF2755.1 231 23 (by decide)).trans ((hF2741.1 231 23 (by decide)).trans ((hF2727.1 231 23 (by decide)).trans (hF2713.1 231 23 (by decide))))))).trans hv8))
                  have x4275 := HI.eqI hI0 (p := 231) (b := 9) (hv2)
                  have zv4276 : (2 : Int32).toInt = 2 := rfl
                  have pg4277 := PG.cong (hP.2.1 (by decide)) hI3539 (((hF3540.2.1 238 (by decide)).trans ((hF2767.2.1 238 (by decide)).trans ((hF2755.2.1 238 (by decide)).trans ((hF2741.2.1 238 (by decide)).trans ((hF2727.2.1 238 (by decide)).trans (hF2713.2.1 238 (by decide)))))))) (((hF3540.2.1 239 (by decide)).trans ((hF2767.2.1 239 (by decide)).trans ((hF2755.2.1 239 (by decide)).trans ((hF2741.2.1 239 (by decide)).trans ((hF2727.2.1 239 (by decide)).trans (hF2713.2.1 239 (by decide)))))))) (((hF3540.2.1 240 (by decide)).trans ((hF2767.2.1 240 (by decide)).trans ((hF2755.2.1 240 (by decide)).trans ((hF2741.2.1 240 (by decide)).trans ((hF2727.2.1 240 (by decide)).trans (hF2713.2.1 240 (by decide)))))))) (((hF3540.2.1 241 (by decide)).trans ((hF2767.2.1 241 (by decide)).trans ((hF2755.2.1 241 (by decide)).trans ((hF2741.2.1 241 (by decide)).trans ((hF2727.2.1 241 (by decide)).trans (hF2713.2.1 241 (by decide)))))))) (((hF3540.1 231 17 (by decide)).trans ((hF2767.1 231 17 (by decide)).trans ((hF2755.1 231 17 (by decide)).trans ((hF2741.1 231 17 (by decide)).trans ((hF2727.1 231 17 (by decide)).trans (hF2713.1 231 17 (by decide)))))))) (((hF3540.1 231 23 (by decide)).trans ((hF2767.1 231 23 (by decide)).trans ((hF2755.1 231 23 (by decide)).trans ((hF2741.1 231 23 (by decide)).trans ((hF2727.1 231 23 (by decide)).trans (hF2713.1 231 23 (by decide))))))))
                  have inn4278 := INN.cong inn2771 hI3539 ((hF3540.2.1 240 (by decide))) ((hF3540.1 231 23 (by decide)))
                  have pg4279 := PG.cong (hP.2.1 (by decide)) hI3539 (((hF3540.2.1 238 (by decide)).trans ((hF2767.2.1 238 (by decide)).trans ((hF2755.2.1 238 (by decide)).trans ((hF2741.2.1 238 (by decide)).trans ((hF2727.2.1 238 (by decide)).trans (hF2713.2.1 238 (by decide)))))))) (((hF3540.2.1 239 (by decide)).trans ((hF2767.2.1 239 (by decide)).trans ((hF2755.2.1 239 (by decide)).trans ((hF2741.2.1 239 (by decide)).trans ((hF2727.2.1 239 (by decide)).trans (hF2713.2.1 239 (by decide)))))))) (((hF3540.2.1 240 (by decide)).trans ((hF2767.2.1 240 (by decide)).trans ((hF2755.2.1 240 (by decide)).trans ((hF2741.2.1 240 (by decide)).trans ((hF2727.2.1 240 (by decide)).trans (hF2713.2.1 240 (by decide)))))))) (((hF3540.2.1 241 (by decide)).trans ((hF2767.2.1 241 (by decide)).trans ((hF2755.2.1 241 (by decide)).trans ((hF2741.2.1 241 (by decide)).trans ((hF2727.2.1 241 (by decide)).trans (hF2713.2.1 241 (by decide)))))))) (((hF3540.1 231 17 (by decide)).trans ((hF2767.1 231 17 (by decide)).trans ((hF2755.1 231 17 (by decide)).trans ((hF2741.1 231 17 (by decide)).trans ((hF2727.1 231 17 (by decide)).trans (hF2713.1 231 17 (by decide)))))))) (((hF3540.1 231 23 (by decide)).trans ((hF2767.1 231 23 (by decide)).trans ((hF2755.1 231 23 (by decide)).trans ((hF2741.1 231 23 (by decide)).trans ((hF2727.1 231 23 (by decide)).trans (hF2713.1 231 23 (by decide))))))))
                  have nsq4280 := INN.nsq inn4278 pg4279 (by omega)
                  have w264281 := W26.cong hW hI3539 (((hF3540.1 231 9 (by decide)).trans ((hF2767.1 231 9 (by decide)).trans ((hF2755.1 231 9 (by decide)).trans ((hF2741.1 231 9 (by decide)).trans ((hF2727.1 231 9 (by decide)).trans (hF2713.1 231 9 (by decide)))))))) (((hF3540.1 231 10 (by decide)).trans ((hF2767.1 231 10 (by decide)).trans ((hF2755.1 231 10 (by decide)).trans ((hF2741.1 231 10 (by decide)).trans ((hF2727.1 231 10 (by decide)).trans (hF2713.1 231 10 (by decide)))))))) (((hF3540.1 231 11 (by decide)).trans ((hF2767.1 231 11 (by decide)).trans ((hF2755.1 231 11 (by decide)).trans ((hF2741.1 231 11 (by decide)).trans ((hF2727.1 231 11 (by decide)).trans (hF2713.1 231 11 (by decide)))))))) (((hF3540.2.2 231 12 (by decide)).trans ((hF2767.2.2 231 12 (by decide)).trans ((hF2755.2.2 231 12 (by decide)).trans ((hF2741.2.2 231 12 (by decide)).trans ((hF2727.2.2 231 12 (by decide)).trans (hF2713.2.2 231 12 (by decide))))))))
                  obtain ⟨v4283, hv4283⟩ : ∃ v, gI g0 231 13 = v := ⟨_, rfl⟩
                  have tv4283 := congrArg Int32.toInt hv4283
                  have x4284 := HI.eqI hI3539 (p := 231) (b := 13) ((((hF3540.1 231 13 (by decide)).trans ((hF2767.1 231 13 (by decide)).trans ((hF2755.1 231 13 (by decide)).trans ((hF2741.1 231 13 (by decide)).trans ((hF2727.1 231 13 (by decide)).trans (hF2713.1 231 13 (by decide))))))).trans hv4283))
                  obtain ⟨v4286, hv4286⟩ : ∃ v, gI g0 231 15 = v := ⟨_, rfl⟩
                  have rv4286 := RgF.at hI0.2.1 (p := 231) (b := 15) rfl
                  rw [hv4286] at rv4286
                  dsimp only at rv4286
                  have tv4286 := congrArg Int32.toInt hv4286
                  have x4287 := HI.eqI hI3539 (p := 231) (b := 15) ((((hF3540.1 231 15 (by decide)).trans ((hF2767.1 231 15 (by decide)).trans ((hF2755.1 231 15 (by decide)).trans ((hF2741.1 231 15 (by decide)).trans ((hF2727.1 231 15 (by decide)).trans (hF2713.1 231 15 (by decide))))))).trans hv4286))
                  obtain ⟨v4288, hv4288⟩ : ∃ v, gI g0 231 20 = v := ⟨_, rfl⟩
                  have tv4288 := congrArg Int32.toInt hv4288
                  have x4289 := HI.eqI hI3539 (p := 231) (b := 20) ((((hF3540.1 231 20 (by decide)).trans ((hF2767.1 231 20 (by decide)).trans ((hF2755.1 231 20 (by decide)).trans ((hF2741.1 231 20 (by decide)).trans ((hF2727.1 231 20 (by decide)).trans (hF2713.1 231 20 (by decide))))))).trans hv4288))
                  obtain ⟨v4291, hv4291⟩ : ∃ v, gI g0 231 24 = v := ⟨_, rfl⟩
                  have tv4291 := congrArg Int32.toInt hv4291
                  have x4292 := HI.eqI hI3539 (p := 231) (b := 24) ((((hF3540.1 231 24 (by decide)).trans ((hF2767.1 231 24 (by decide)).trans ((hF2755.1 231 24 (by decide)).trans ((hF2741.1 231 24 (by decide)).trans ((hF2727.1 231 24 (by decide)).trans (hF2713.1 231 24 (by decide))))))).trans hv4291))
                  have x4294 := HI.eqI hI0 (p := 231) (b := 13) (hv4283)
                  have x4295 := HI.eqI hI0 (p := 231) (b := 14) (hv6)
                  have x4296 := HI.eqI hI0 (p := 231) (b := 15) (hv4286)
                  have x4297 := HI.eqI hI0 (p := 231) (b := 20) (hv4288)
                  have x4298 := HI.eqI hI0 (p := 231) (b := 23) (hv8)
                  have x4299 := HI.eqI hI0 (p := 231) (b := 24) (hv4291)
                  exact ⟨_, rfl, hI3539, hF3543, _, rfl, by decide, ⟨by omega, by omega, by omega, by omega, w264281, by omega, by omega, (fun hbad => ⟨by omega, (PT.mk (fun h => False.elim (by omega)) (fun _ => pg4277) (fun _ _ => nsq4280) (fun h => False.elim (by omega)))⟩), (fun hbad => by omega), (TKM.c hK (((hF3540.2.1 236 (by decide)).trans ((hF2767.2.1 236 (by decide)).trans ((hF2755.2.1 236 (by decide)).trans ((hF2741.2.1 236 (by decide)).trans ((hF2727.2.1 236 (by decide)).trans (hF2713.2.1 236 (by decide)))))))) (((hF3540.1 231 8 (by decide)).trans ((hF2767.1 231 8 (by decide)).trans ((hF2755.1 231 8 (by decide)).trans ((hF2741.1 231 8 (by decide)).trans ((hF2727.1 231 8 (by decide)).trans (hF2713.1 231 8 (by decide)))))))) (((hF3540.1 231 9 (by decide)).trans ((hF2767.1 231 9 (by decide)).trans ((hF2755.1 231 9 (by decide)).trans ((hF2741.1 231 9 (by decide)).trans ((hF2727.1 231 9 (by decide)).trans (hF2713.1 231 9 (by decide)))))))) (((hF3540.1 231 10 (by decide)).trans ((hF2767.1 231 10 (by decide)).trans ((hF2755.1 231 10 (by decide)).trans ((hF2741.1 231 10 (by decide)).trans ((hF2727.1 231 10 (by decide)).trans (hF2713.1 231 10 (by decide)))))))) (((hF3540.1 231 11 (by decide)).trans ((hF2767.1 231 11 (by decide)).trans ((hF2755.1 231 11 (by decide)).trans ((hF2741.1 231 11 (by decide)).trans ((hF2727.1 231 11 (by decide)).trans (hF2713.1 231 11 (by decide)))))))) (((hF3540.2.2 231 12 (by decide)).trans ((hF2767.2.2 231 12 (by decide)).trans ((hF2755.2.2 231 12 (by decide)).trans ((hF2741.2.2 231 12 (by decide)).trans ((hF2727.2.2 231 12 (by decide)).trans (hF2713.2.2 231 12 (by decide))))))))), (fun c0 b hC h => M.told h (fun z i => HBT.b4 hC i inn2772 (by omega) (by omega)) (TKM.some hK).choose_spec (by omega) inn2772 (by omega) cm3544 (by omega) (((hF3540.2.1 240 (by decide)).trans ((hF2767.2.1 240 (by decide)).trans ((hF2755.2.1 240 (by decide)).trans ((hF2741.2.1 240 (by decide)).trans ((hF2727.2.1 240 (by decide)).trans (hF2713.2.1 240 (by decide)))))))) (show (gI _ 231 23).toInt = (gI g0 231 23).toInt from by omega) (show (gI _ 231 24).toInt = (gI g0 231 24).toInt from by omega) (show (gI _ 231 9).toInt = (gI g0 231 9).toInt from by omega) (show (gI _ 231 20).toInt = (gI g0 231 20).toInt from by omega) (show (gI _ 231 15).toInt = (gI g0 231 15).toInt from by omega) (fun _ => ⟨show (gI _ 231 14).toInt = 0 from by omega, show (gI _ 231 13).toInt = (gI g0 231 13).toInt from by omega⟩) (fun z => absurd (show (gI g0 231 14).toInt = 0 from by omega) z)), (fun h14 c0 b K hC h => MG_told h (PLG2_cm h.1 cm3544 (by omega)) (TKM.some hK).choose_spec (by omega) cm3544 (by omega) (((hF3540.2.1 240 (by decide)).trans ((hF2767.2.1 240 (by decide)).trans ((hF2755.2.1 240 (by decide)).trans ((hF2741.2.1 240 (by decide)).trans ((hF2727.2.1 240 (by decide)).trans (hF2713.2.1 240 (by decide)))))))) (((hF3540.2.1 241 (by decide)).trans ((hF2767.2.1 241 (by decide)).trans ((hF2755.2.1 241 (by decide)).trans ((hF2741.2.1 241 (by decide)).trans ((hF2727.2.1 241 (by decide)).trans (hF2713.2.1 241 (by decide)))))))) (pI.c (((hF3540.1 231 23 (by decide)).trans ((hF2767.1 231 23 (by decide)).trans ((hF2755.1 231 23 (by decide)).trans ((hF2741.1 231 23 (by decide)).trans ((hF2727.1 231 23 (by decide)).trans (hF2713.1 231 23 (by decide))))))))) (SMG_mk (((hF3540.2.1 238 (by decide)).trans ((hF2767.2.1 238 (by decide)).trans ((hF2755.2.1 238 (by decide)).trans ((hF2741.2.1 238 (by decide)).trans ((hF2727.2.1 238 (by decide)).trans (hF2713.2.1 238 (by decide)))))))) (((hF3540.2.1 239 (by decide)).trans ((hF2767.2.1 239 (by decide)).trans ((hF2755.2.1 239 (by decide)).trans ((hF2741.2.1 239 (by decide)).trans ((hF2727.2.1 239 (by decide)).trans (hF2713.2.1 239 (by decide)))))))) (((hF3540.1 231 17 (by decide)).trans ((hF2767.1 231 17 (by decide)).trans ((hF2755.1 231 17 (by decide)).trans ((hF2741.1 231 17 (by decide)).trans ((hF2727.1 231 17 (by decide)).trans (hF2713.1 231 17 (by decide))))))))) (pI.c (((hF3540.1 231 9 (by decide)).trans ((hF2767.1 231 9 (by decide)).trans ((hF2755.1 231 9 (by decide)).trans ((hF2741.1 231 9 (by decide)).trans ((hF2727.1 231 9 (by decide)).trans (hF2713.1 231 9 (by decide))))))))))⟩⟩
              · have c3537_ : a1.toInt = 0 := en_k_ne_f c3537
                refine At.enter rfl ?_
                refine r_iconst 4 rfl ?_
                refine r_ireti ?_
                have x4300 := HI.eqI hI2766 (p := 231) (b := 8) ((((hF2767.1 231 8 (by decide)).trans ((hF2755.1 231 8 (by decide)).trans ((hF2741.1 231 8 (by decide)).trans ((hF2727.1 231 8 (by decide)).trans (hF2713.1 231 8 (by decide)))))).trans hv1))
                have x4301 := HI.eqI hI2766 (p := 231) (b := 9) ((((hF2767.1 231 9 (by decide)).trans ((hF2755.1 231 9 (by decide)).trans ((hF2741.1 231 9 (by decide)).trans ((hF2727.1 231 9 (by decide)).trans (hF2713.1 231 9 (by decide)))))).trans hv2))
                have x4302 := HI.eqI hI2766 (p := 231) (b := 10) ((((hF2767.1 231 10 (by decide)).trans ((hF2755.1 231 10 (by decide)).trans ((hF2741.1 231 10 (by decide)).trans ((hF2727.1 231 10 (by decide)).trans (hF2713.1 231 10 (by decide)))))).trans hv3))
                have x4303 := HI.eqI hI2766 (p := 231) (b := 11) ((((hF2767.1 231 11 (by decide)).trans ((hF2755.1 231 11 (by decide)).trans ((hF2741.1 231 11 (by decide)).trans ((hF2727.1 231 11 (by decide)).trans (hF2713.1 231 11 (by decide)))))).trans hv4))
                have x4304 := HI.eqJ hI2766 (b := 12) ((((hF2767.2.2 231 12 (by decide)).trans ((hF2755.2.2 231 12 (by decide)).trans ((hF2741.2.2 231 12 (by decide)).trans ((hF2727.2.2 231 12 (by decide)).trans (hF2713.2.2 231 12 (by decide)))))).trans hv5))
                have x4305 := HI.eqI hI2766 (p := 231) (b := 14) ((((hF2767.1 231 14 (by decide)).trans ((hF2755.1 231 14 (by decide)).trans ((hF2741.1 231 14 (by decide)).trans ((hF2727.1 231 14 (by decide)).trans (hF2713.1 231 14 (by decide)))))).trans hv6))
                have x4306 := HI.eqI hI2766 (p := 231) (b := 17) ((((hF2767.1 231 17 (by decide)).trans ((hF2755.1 231 17 (by decide)).trans ((hF2741.1 231 17 (by decide)).trans ((hF2727.1 231 17 (by decide)).trans (hF2713.1 231 17 (by decide)))))).trans hv7))
                have x4307 := HI.eqI hI2766 (p := 231) (b := 23) ((((hF2767.1 231 23 (by decide)).trans ((hF2755.1 231 23 (by decide)).trans ((hF2741.1 231 23 (by decide)).trans ((hF2727.1 231 23 (by decide)).trans (hF2713.1 231 23 (by decide)))))).trans hv8))
                have x4308 := HI.eqI hI0 (p := 231) (b := 9) (hv2)
                have zv4309 : (4 : Int32).toInt = 4 := rfl
                have pg4310 := PG.cong (hP.2.1 (by decide)) hI2766 (((hF2767.2.1 238 (by decide)).trans ((hF2755.2.1 238 (by decide)).trans ((hF2741.2.1 238 (by decide)).trans ((hF2727.2.1 238 (by decide)).trans (hF2713.2.1 238 (by decide))))))) (((hF2767.2.1 239 (by decide)).trans ((hF2755.2.1 239 (by decide)).trans ((hF2741.2.1 239 (by decide)).trans ((hF2727.2.1 239 (by decide)).trans (hF2713.2.1 239 (by decide))))))) (((hF2767.2.1 240 (by decide)).trans ((hF2755.2.1 240 (by decide)).trans ((hF2741.2.1 240 (by decide)).trans ((hF2727.2.1 240 (by decide)).trans (hF2713.2.1 240 (by decide))))))) (((hF2767.2.1 241 (by decide)).trans ((hF2755.2.1 241 (by decide)).trans ((hF2741.2.1 241 (by decide)).trans ((hF2727.2.1 241 (by decide)).trans (hF2713.2.1 241 (by decide))))))) (((hF2767.1 231 17 (by decide)).trans ((hF2755.1 231 17 (by decide)).trans ((hF2741.1 231 17 (by decide)).trans ((hF2727.1 231 17 (by decide)).trans (hF2713.1 231 17 (by decide))))))) (((hF2767.1 231 23 (by decide)).trans ((hF2755.1 231 23 (by decide)).trans ((hF2741.1 231 23 (by decide)).trans ((hF2727.1 231 23 (by decide)).trans (hF2713.1 231 23 (by decide)))))))
                have pg4311 := PG.cong (hP.2.1 (by decide)) hI2766 (((hF2767.2.1 238 (by decide)).trans ((hF2755.2.1 238 (by decide)).trans ((hF2741.2.1 238 (by decide)).trans ((hF2727.2.1 238 (by decide)).trans (hF2713.2.1 238 (by decide))))))) (((hF2767.2.1 239 (by decide)).trans ((hF2755.2.1 239 (by decide)).trans ((hF2741.2.1 239 (by decide)).trans ((hF2727.2.1 239 (by decide)).trans (hF2713.2.1 239 (by decide))))))) (((hF2767.2.1 240 (by decide)).trans ((hF2755.2.1 240 (by decide)).trans ((hF2741.2.1 240 (by decide)).trans ((hF2727.2.1 240 (by decide)).trans (hF2713.2.1 240 (by decide))))))) (((hF2767.2.1 241 (by decide)).trans ((hF2755.2.1 241 (by decide)).trans ((hF2741.2.1 241 (by decide)).trans ((hF2727.2.1 241 (by decide)).trans (hF2713.2.1 241 (by decide))))))) (((hF2767.1 231 17 (by decide)).trans ((hF2755.1 231 17 (by decide)).trans ((hF2741.1 231 17 (by decide)).trans ((hF2727.1 231 17 (by decide)).trans (hF2713.1 231 17 (by decide))))))) (((hF2767.1 231 23 (by decide)).trans ((hF2755.1 231 23 (by decide)).trans ((hF2741.1 231 23 (by decide)).trans ((hF2727.1 231 23 (by decide)).trans (hF2713.1 231 23 (by decide)))))))
                have nsq4312 := INN.nsq inn2771 pg4311 (by omega)
                have w264313 := W26.cong hW hI2766 (((hF2767.1 231 9 (by decide)).trans ((hF2755.1 231 9 (by decide)).trans ((hF2741.1 231 9 (by decide)).trans ((hF2727.1 231 9 (by decide)).trans (hF2713.1 231 9 (by decide))))))) (((hF2767.1 231 10 (by decide)).trans ((hF2755.1 231 10 (by decide)).trans ((hF2741.1 231 10 (by decide)).trans ((hF2727.1 231 10 (by decide)).trans (hF2713.1 231 10 (by decide))))))) (((hF2767.1 231 11 (by decide)).trans ((hF2755.1 231 11 (by decide)).trans ((hF2741.1 231 11 (by decide)).trans ((hF2727.1 231 11 (by decide)).trans (hF2713.1 231 11 (by decide))))))) (((hF2767.2.2 231 12 (by decide)).trans ((hF2755.2.2 231 12 (by decide)).trans ((hF2741.2.2 231 12 (by decide)).trans ((hF2727.2.2 231 12 (by decide)).trans (hF2713.2.2 231 12 (by decide)))))))
                obtain ⟨v4315, hv4315⟩ : ∃ v, gI g0 231 13 = v := ⟨_, rfl⟩
                have tv4315 := congrArg Int32.toInt hv4315
                have x4316 := HI.eqI hI2766 (p := 231) (b := 13) ((((hF2767.1 231 13 (by decide)).trans ((hF2755.1 231 13 (by decide)).trans ((hF2741.1 231 13 (by decide)).trans ((hF2727.1 231 13 (by decide)).trans (hF2713.1 231 13 (by decide)))))).trans hv4315))
                obtain ⟨v4318, hv4318⟩ : ∃ v, gI g0 231 15 = v := ⟨_, rfl⟩
                have rv4318 := RgF.at hI0.2.1 (p := 231) (b := 15) rfl
                rw [hv4318] at rv4318
                dsimp only at rv4318
                have tv4318 := congrArg Int32.toInt hv4318
                have x4319 := HI.eqI hI2766 (p := 231) (b := 15) ((((hF2767.1 231 15 (by decide)).trans ((hF2755.1 231 15 (by decide)).trans ((hF2741.1 231 15 (by decide)).trans ((hF2727.1 231 15 (by decide)).trans (hF2713.1 231 15 (by decide)))))).trans hv4318))
                obtain ⟨v4320, hv4320⟩ : ∃ v, gI g0 231 20 = v := ⟨_, rfl⟩
                have tv4320 := congrArg Int32.toInt hv4320
                have x4321 := HI.eqI hI2766 (p := 231) (b := 20) ((((hF2767.1 231 20 (by decide)).trans ((hF2755.1 231 20 (by decide)).trans ((hF2741.1 231 20 (by decide)).trans ((hF2727.1 231 20 (by decide)).trans (hF2713.1 231 20 (by decide)))))).trans hv4320))
                obtain ⟨v4323, hv4323⟩ : ∃ v, gI g0 231 24 = v := ⟨_, rfl⟩
                have tv4323 := congrArg Int32.toInt hv4323
                have x4324 := HI.eqI hI2766 (p := 231) (b := 24) ((((hF2767.1 231 24 (by decide)).trans ((hF2755.1 231 24 (by decide)).trans ((hF2741.1 231 24 (by decide)).trans ((hF2727.1 231 24 (by decide)).trans (hF2713.1 231 24 (by decide)))))).trans hv4323))
                have x4326 := HI.eqI hI0 (p := 231) (b := 13) (hv4315)
                have x4327 := HI.eqI hI0 (p := 231) (b := 14) (hv6)
                have x4328 := HI.eqI hI0 (p := 231) (b := 15) (hv4318)
                have x4329 := HI.eqI hI0 (p := 231) (b := 20) (hv4320)
                have x4330 := HI.eqI hI0 (p := 231) (b := 23) (hv8)
                have x4331 := HI.eqI hI0 (p := 231) (b := 24) (hv4323)
                exact ⟨_, rfl, hI2766, hF2770, _, rfl, by decide, ⟨by omega, by omega, by omega, by omega, w264313, by omega, by omega, (fun hbad => ⟨by omega, (PT.mk (fun h => False.elim (by omega)) (fun _ => pg4310) (fun _ _ => nsq4312) (fun _ => INN.nbr (INN.eq inn2771 (by omega))))⟩), (fun hbad => by omega), (TKM.c hK (((hF2767.2.1 236 (by decide)).trans ((hF2755.2.1 236 (by decide)).trans ((hF2741.2.1 236 (by decide)).trans ((hF2727.2.1 236 (by decide)).trans (hF2713.2.1 236 (by decide))))))) (((hF2767.1 231 8 (by decide)).trans ((hF2755.1 231 8 (by decide)).trans ((hF2741.1 231 8 (by decide)).trans ((hF2727.1 231 8 (by decide)).trans (hF2713.1 231 8 (by decide))))))) (((hF2767.1 231 9 (by decide)).trans ((hF2755.1 231 9 (by decide)).trans ((hF2741.1 231 9 (by decide)).trans ((hF2727.1 231 9 (by decide)).trans (hF2713.1 231 9 (by decide))))))) (((hF2767.1 231 10 (by decide)).trans ((hF2755.1 231 10 (by decide)).trans ((hF2741.1 231 10 (by decide)).trans ((hF2727.1 231 10 (by decide)).trans (hF2713.1 231 10 (by decide))))))) (((hF2767.1 231 11 (by decide)).trans ((hF2755.1 231 11 (by decide)).trans ((hF2741.1 231 11 (by decide)).trans ((hF2727.1 231 11 (by decide)).trans (hF2713.1 231 11 (by decide))))))) (((hF2767.2.2 231 12 (by decide)).trans ((hF2755.2.2 231 12 (by decide)).trans ((hF2741.2.2 231 12 (by decide)).trans ((hF2727.2.2 231 12 (by decide)).trans (hF2713.2.2 231 12 (by decide)))))))), (fun c0 b hC h => M.sum h (hC.elim (fun z => z.1) (fun z => absurd (show a1.toInt = 0 from by omega) z.2)) (TKM.some hK).choose_spec (by omega) inn2772 (by omega) (((hF2767.2.1 240 (by decide)).trans ((hF2755.2.1 240 (by decide)).trans ((hF2741.2.1 240 (by decide)).trans ((hF2727.2.1 240 (by decide)).trans (hF2713.2.1 240 (by decide))))))) (show (gI _ 231 23).toInt = (gI g0 231 23).toInt from by omega) (show (gI _ 231 24).toInt = (gI g0 231 24).toInt from by omega) (show (gI _ 231 9).toInt = (gI g0 231 9).toInt from by omega) (show (gI _ 231 20).toInt = (gI g0 231 20).toInt from by omega) (show (gI _ 231 15).toInt = (gI g0 231 15).toInt from by omega) (fun _ => ⟨show (gI _ 231 14).toInt = 0 from by omega, show (gI _ 231 13).toInt = (gI g0 231 13).toInt from by omega⟩) (fun z => absurd (show (gI g0 231 14).toInt = 0 from by omega) z)), (fun h14 c0 b K hC h => MG_sum h (HBG_33 hC (by omega)) (TKM.some hK).choose_spec (by omega) inn2772 (by omega) (((hF2767.2.1 240 (by decide)).trans ((hF2755.2.1 240 (by decide)).trans ((hF2741.2.1 240 (by decide)).trans ((hF2727.2.1 240 (by decide)).trans (hF2713.2.1 240 (by decide))))))) (((hF2767.2.1 241 (by decide)).trans ((hF2755.2.1 241 (by decide)).trans ((hF2741.2.1 241 (by decide)).trans ((hF2727.2.1 241 (by decide)).trans (hF2713.2.1 241 (by decide))))))) (pI.c (((hF2767.1 231 23 (by decide)).trans ((hF2755.1 231 23 (by decide)).trans ((hF2741.1 231 23 (by decide)).trans ((hF2727.1 231 23 (by decide)).trans (hF2713.1 231 23 (by decide)))))))) (SMG_mk (((hF2767.2.1 238 (by decide)).trans ((hF2755.2.1 238 (by decide)).trans ((hF2741.2.1 238 (by decide)).trans ((hF2727.2.1 238 (by decide)).trans (hF2713.2.1 238 (by decide))))))) (((hF2767.2.1 239 (by decide)).trans ((hF2755.2.1 239 (by decide)).trans ((hF2741.2.1 239 (by decide)).trans ((hF2727.2.1 239 (by decide)).trans (hF2713.2.1 239 (by decide))))))) (((hF2767.1 231 17 (by decide)).trans ((hF2755.1 231 17 (by decide)).trans ((hF2741.1 231 17 (by decide)).trans ((hF2727.1 231 17 (by decide)).trans (hF2713.1 231 17 (by decide)))))))) (pI.c (((hF2767.1 231 9 (by decide)).trans ((hF2755.1 231 9 (by decide)).trans ((hF2741.1 231 9 (by decide)).trans ((hF2727.1 231 9 (by decide)).trans (hF2713.1 231 9 (by decide)))))))))⟩⟩
          · have c2773_ : v2768.toInt = 31 := en_i_ne_f c2773
            refine At.enter rfl ?_
            refine r_aload_n rfl ?_
            refine r_aload_n rfl ?_
            refine r_bipush 93 rfl ?_
            have x4332 := HI.eqI hI2766 (p := 231) (b := 11) ((((hF2767.1 231 11 (by decide)).trans ((hF2755.1 231 11 (by decide)).trans ((hF2741.1 231 11 (by decide)).trans ((hF2727.1 231 11 (by decide)).trans (hF2713.1 231 11 (by decide)))))).trans hv4))
            have zv4333 : (93 : Int32).toInt = 93 := rfl
            refine r_callV 101 rfl [.ref 231, .int 93] [.ref 231] (Nat.le_of_ble_eq_true rfl) rfl (T_X11_isSign_231 _ hI2766 93 (by omega)) ?_
            rintro _ _ ⟨g4334, rfl, hI4335, hF4336, v4337, rfl, hr4338⟩
            refine At.sti ?_
            have hF4339 := Fr.tr hF2770 hF4336 rfl rfl
            have x4342 := HI.eqI hI4335 (p := 231) (b := 11) ((((hF4336.1 231 11 (by decide)).trans ((hF2767.1 231 11 (by decide)).trans ((hF2755.1 231 11 (by decide)).trans ((hF2741.1 231 11 (by decide)).trans ((hF2727.1 231 11 (by decide)).trans (hF2713.1 231 11 (by decide))))))).trans hv4))
            have hb4343 : BL (CDM g0 = 6) v4337.toInt := by have z := ISM.sign (c := 6) hr4338.2.2 (TKM.c hK (((hF2767.2.1 236 (by decide)).trans ((hF2755.2.1 236 (by decide)).trans ((hF2741.2.1 236 (by decide)).trans ((hF2727.2.1 236 (by decide)).trans (hF2713.2.1 236 (by decide))))))) (((hF2767.1 231 8 (by decide)).trans ((hF2755.1 231 8 (by decide)).trans ((hF2741.1 231 8 (by decide)).trans ((hF2727.1 231 8 (by decide)).trans (hF2713.1 231 8 (by decide))))))) (((hF2767.1 231 9 (by decide)).trans ((hF2755.1 231 9 (by decide)).trans ((hF2741.1 231 9 (by decide)).trans ((hF2727.1 231 9 (by decide)).trans (hF2713.1 231 9 (by decide))))))) (((hF2767.1 231 10 (by decide)).trans ((hF2755.1 231 10 (by decide)).trans ((hF2741.1 231 10 (by decide)).trans ((hF2727.1 231 10 (by decide)).trans (hF2713.1 231 10 (by decide))))))) (((hF2767.1 231 11 (by decide)).trans ((hF2755.1 231 11 (by decide)).trans ((hF2741.1 231 11 (by decide)).trans ((hF2727.1 231 11 (by decide)).trans (hF2713.1 231 11 (by decide))))))) (((hF2767.2.2 231 12 (by decide)).trans ((hF2755.2.2 231 12 (by decide)).trans ((hF2741.2.2 231 12 (by decide)).trans ((hF2727.2.2 231 12 (by decide)).trans (hF2713.2.2 231 12 (by decide)))))))) (isSC_d (by omega)) (by decide +kernel); rw [CDM.c (((hF2767.2.1 236 (by decide)).trans ((hF2755.2.1 236 (by decide)).trans ((hF2741.2.1 236 (by decide)).trans ((hF2727.2.1 236 (by decide)).trans (hF2713.2.1 236 (by decide))))))) (((hF2767.1 231 9 (by decide)).trans ((hF2755.1 231 9 (by decide)).trans ((hF2741.1 231 9 (by decide)).trans ((hF2727.1 231 9 (by decide)).trans (hF2713.1 231 9 (by decide))))))) (((hF2767.1 231 10 (by decide)).trans ((hF2755.1 231 10 (by decide)).trans ((hF2741.1 231 10 (by decide)).trans ((hF2727.1 231 10 (by decide)).trans (hF2713.1 231 10 (by decide))))))) (((hF2767.1 231 11 (by decide)).trans ((hF2755.1 231 11 (by decide)).trans ((hF2741.1 231 11 (by decide)).trans ((hF2727.1 231 11 (by decide)).trans (hF2713.1 231 11 (by decide)))))))] at z; exact z
            refine At.enter rfl ?_
            have x4344 := HI.eqI hI4335 (p := 231) (b := 8) ((((hF4336.1 231 8 (by decide)).trans ((hF2767.1 231 8 (by decide)).trans ((hF2755.1 231 8 (by decide)).trans ((hF2741.1 231 8 (by decide)).trans ((hF2727.1 231 8 (by decide)).trans (hF2713.1 231 8 (by decide))))))).trans hv1))
            have x4345 := HI.eqI hI4335 (p := 231) (b := 9) ((((hF4336.1 231 9 (by decide)).trans ((hF2767.1 231 9 (by decide)).trans ((hF2755.1 231 9 (by decide)).trans ((hF2741.1 231 9 (by decide)).trans ((hF2727.1 231 9 (by decide)).trans (hF2713.1 231 9 (by decide))))))).trans hv2))
            have x4346 := HI.eqI hI4335 (p := 231) (b := 10) ((((hF4336.1 231 10 (by decide)).trans ((hF2767.1 231 10 (by decide)).trans ((hF2755.1 231 10 (by decide)).trans ((hF2741.1 231 10 (by decide)).trans ((hF2727.1 231 10 (by decide)).trans (hF2713.1 231 10 (by decide))))))).trans hv3))
            have w264348 := W26.cong hW hI4335 (((hF4336.1 231 9 (by decide)).trans ((hF2767.1 231 9 (by decide)).trans ((hF2755.1 231 9 (by decide)).trans ((hF2741.1 231 9 (by decide)).trans ((hF2727.1 231 9 (by decide)).trans (hF2713.1 231 9 (by decide)))))))) (((hF4336.1 231 10 (by decide)).trans ((hF2767.1 231 10 (by decide)).trans ((hF2755.1 231 10 (by decide)).trans ((hF2741.1 231 10 (by decide)).trans ((hF2727.1 231 10 (by decide)).trans (hF2713.1 231 10 (by decide)))))))) (((hF4336.1 231 11 (by decide)).trans ((hF2767.1 231 11 (by decide)).trans ((hF2755.1 231 11 (by decide)).trans ((hF2741.1 231 11 (by decide)).trans ((hF2727.1 231 11 (by decide)).trans (hF2713.1 231 11 (by decide)))))))) (((hF4336.2.2 231 12 (by decide)).trans ((hF2767.2.2 231 12 (by decide)).trans ((hF2755.2.2 231 12 (by decide)).trans ((hF2741.2.2 231 12 (by decide)).trans ((hF2727.2.2 231 12 (by decide)).trans (hF2713.2.2 231 12 (by decide))))))))
            refine r_callV 104 rfl [.ref 231, .int v4337] [] (Nat.le_of_ble_eq_true rfl) rfl (T_X11_must_231 _ hI4335 v4337 (by omega) (by refine ⟨?_, ?_, ?_, ?_⟩ <;> omega) w264348 (TKM.c hK (((hF4336.2.1 236 (by decide)).trans ((hF2767.2.1 236 (by decide)).trans ((hF2755.2.1 236 (by decide)).trans ((hF2741.2.1 236 (by decide)).trans ((hF2727.2.1 236 (by decide)).trans (hF2713.2.1 236 (by decide)))))))) (((hF4336.1 231 8 (by decide)).trans ((hF2767.1 231 8 (by decide)).trans ((hF2755.1 231 8 (by decide)).trans ((hF2741.1 231 8 (by decide)).trans ((hF2727.1 231 8 (by decide)).trans (hF2713.1 231 8 (by decide)))))))) (((hF4336.1 231 9 (by decide)).trans ((hF2767.1 231 9 (by decide)).trans ((hF2755.1 231 9 (by decide)).trans ((hF2741.1 231 9 (by decide)).trans ((hF2727.1 231 9 (by decide)).trans (hF2713.1 231 9 (by decide)))))))) (((hF4336.1 231 10 (by decide)).trans ((hF2767.1 231 10 (by decide)).trans ((hF2755.1 231 10 (by decide)).trans ((hF2741.1 231 10 (by decide)).trans ((hF2727.1 231 10 (by decide)).trans (hF2713.1 231 10 (by decide)))))))) (((hF4336.1 231 11 (by decide)).trans ((hF2767.1 231 11 (by decide)).trans ((hF2755.1 231 11 (by decide)).trans ((hF2741.1 231 11 (by decide)).trans ((hF2727.1 231 11 (by decide)).trans (hF2713.1 231 11 (by decide)))))))) (((hF4336.2.2 231 12 (by decide)).trans ((hF2767.2.2 231 12 (by decide)).trans ((hF2755.2.2 231 12 (by decide)).trans ((hF2741.2.2 231 12 (by decide)).trans ((hF2727.2.2 231 12 (by decide)).trans (hF2713.2.2 231 12 (by decide)))))))))) ?_
            rintro _ _ ⟨g4349, rfl, hI4350, hF4351, rfl, hr4353⟩
            refine At.stn ?_
            have hF4354 := Fr.tr hF4339 hF4351 rfl rfl
            have x4359 := HI.eqI hI4335 (p := 231) (b := 14) ((((hF4336.1 231 14 (by decide)).trans ((hF2767.1 231 14 (by decide)).trans ((hF2755.1 231 14 (by decide)).trans ((hF2741.1 231 14 (by decide)).trans ((hF2727.1 231 14 (by decide)).trans (hF2713.1 231 14 (by decide))))))).trans hv6))
            have x4360 := HI.eqI hI4350 (p := 231) (b := 8) ((((hF4351.1 231 8 (by decide)).trans ((hF4336.1 231 8 (by decide)).trans ((hF2767.1 231 8 (by decide)).trans ((hF2755.1 231 8 (by decide)).trans ((hF2741.1 231 8 (by decide)).trans ((hF2727.1 231 8 (by decide)).trans (hF2713.1 231 8 (by decide)))))))).trans hv1))
            obtain ⟨v4361, hv4361⟩ : ∃ v, gI g4349 231 9 = v := ⟨_, rfl⟩
            have rv4361 := RgF.at hI4350.2.1 (p := 231) (b := 9) rfl
            rw [hv4361] at rv4361
            dsimp only at rv4361
            have tv4361 := congrArg Int32.toInt hv4361
            have x4362 := HI.eqI hI4350 (p := 231) (b := 9) (hv4361)
            obtain ⟨v4363, hv4363⟩ : ∃ v, gI g4349 231 10 = v := ⟨_, rfl⟩
            have rv4363 := RgF.at hI4350.2.1 (p := 231) (b := 10) rfl
            rw [hv4363] at rv4363
            dsimp only at rv4363
            have tv4363 := congrArg Int32.toInt hv4363
            have x4364 := HI.eqI hI4350 (p := 231) (b := 10) (hv4363)
            obtain ⟨v4365, hv4365⟩ : ∃ v, gI g4349 231 11 = v := ⟨_, rfl⟩
            have tv4365 := congrArg Int32.toInt hv4365
            have x4366 := HI.eqI hI4350 (p := 231) (b := 11) (hv4365)
            obtain ⟨v4367, hv4367⟩ : ∃ v, gI g4349 231 14 = v := ⟨_, rfl⟩
            have tv4367 := congrArg Int32.toInt hv4367
            have x4368 := HI.eqI hI4350 (p := 231) (b := 14) (hv4367)
            obtain ⟨c4369, c4370, c4371, c4372, c4373, c4374, c4375, c4376⟩ := hr4353
            obtain ⟨v4377, hv4377⟩ : ∃ v, gI g0 231 13 = v := ⟨_, rfl⟩
            have tv4377 := congrArg Int32.toInt hv4377
            have x4378 := HI.eqI hI4335 (p := 231) (b := 13) ((((hF4336.1 231 13 (by decide)).trans ((hF2767.1 231 13 (by decide)).trans ((hF2755.1 231 13 (by decide)).trans ((hF2741.1 231 13 (by decide)).trans ((hF2727.1 231 13 (by decide)).trans (hF2713.1 231 13 (by decide))))))).trans hv4377))
            obtain ⟨v4380, hv4380⟩ : ∃ v, gI g4349 231 13 = v := ⟨_, rfl⟩
            have tv4380 := congrArg Int32.toInt hv4380
            have x4381 := HI.eqI hI4350 (p := 231) (b := 13) (hv4380)
            unfold MUSTP at c4376
            rw [TM.c (((hF4336.2.1 236 (by decide)).trans ((hF2767.2.1 236 (by decide)).trans ((hF2755.2.1 236 (by decide)).trans ((hF2741.2.1 236 (by decide)).trans ((hF2727.2.1 236 (by decide)).trans (hF2713.2.1 236 (by decide)))))))), nM.c (((hF4336.1 231 8 (by decide)).trans ((hF2767.1 231 8 (by decide)).trans ((hF2755.1 231 8 (by decide)).trans ((hF2741.1 231 8 (by decide)).trans ((hF2727.1 231 8 (by decide)).trans (hF2713.1 231 8 (by decide)))))))), pI.c (b := 14) (((hF4336.1 231 14 (by decide)).trans ((hF2767.1 231 14 (by decide)).trans ((hF2755.1 231 14 (by decide)).trans ((hF2741.1 231 14 (by decide)).trans ((hF2727.1 231 14 (by decide)).trans (hF2713.1 231 14 (by decide)))))))), pI.c (b := 13) (((hF4336.1 231 13 (by decide)).trans ((hF2767.1 231 13 (by decide)).trans ((hF2755.1 231 13 (by decide)).trans ((hF2741.1 231 13 (by decide)).trans ((hF2727.1 231 13 (by decide)).trans (hF2713.1 231 13 (by decide)))))))), pI.c (b := 10) (((hF4336.1 231 10 (by decide)).trans ((hF2767.1 231 10 (by decide)).trans ((hF2755.1 231 10 (by decide)).trans ((hF2741.1 231 10 (by decide)).trans ((hF2727.1 231 10 (by decide)).trans (hF2713.1 231 10 (by decide)))))))), pI.c (b := 9) (((hF4336.1 231 9 (by decide)).trans ((hF2767.1 231 9 (by decide)).trans ((hF2755.1 231 9 (by decide)).trans ((hF2741.1 231 9 (by decide)).trans ((hF2727.1 231 9 (by decide)).trans (hF2713.1 231 9 (by decide))))))))] at c4376
            have mu4382 : MUSTP g0 g4349 v4337.toInt := c4376
            clear c4376
            have hK4383 := mu4382.1
            refine At.enter rfl ?_
            refine r_aload_n rfl ?_
            refine q_getI (Sh.int hI4350.1 kx_231 rfl) v4367 hv4367 ?_
            refine r_ifs 111 rfl (fun c4384 => ?_) (fun c4384 => ?_)
            · have c4384_ : v4367.toInt ≠ 0 := en_k_ne_t c4384
              clear c4375
              obtain ⟨i4385, i4386⟩ := MUSTP.y mu4382 (by omega) (by omega)
              have i4387 := BL.no hb4343 (by omega)
              refine At.enter rfl ?_
              refine r_iconst 3 rfl ?_
              refine r_ireti ?_
              obtain ⟨v4392, hv4392⟩ : ∃ v, gJ g4349 231 12 = v := ⟨_, rfl⟩
              have x4393 := HI.eqJ hI4350 (b := 12) (hv4392)
              have x4395 := HI.eqI hI4350 (p := 231) (b := 17) ((((hF4351.1 231 17 (by decide)).trans ((hF4336.1 231 17 (by decide)).trans ((hF2767.1 231 17 (by decide)).trans ((hF2755.1 231 17 (by decide)).trans ((hF2741.1 231 17 (by decide)).trans ((hF2727.1 231 17 (by decide)).trans (hF2713.1 231 17 (by decide)))))))).trans hv7))
              have x4396 := HI.eqI hI4350 (p := 231) (b := 23) ((((hF4351.1 231 23 (by decide)).trans ((hF4336.1 231 23 (by decide)).trans ((hF2767.1 231 23 (by decide)).trans ((hF2755.1 231 23 (by decide)).trans ((hF2741.1 231 23 (by decide)).trans ((hF2727.1 231 23 (by decide)).trans (hF2713.1 231 23 (by decide)))))))).trans hv8))
              have x4397 := HI.eqI hI0 (p := 231) (b := 9) (hv2)
              have zv4398 : (3 : Int32).toInt = 3 := rfl
              have pg4399 := PG.cong (hP.2.1 (by decide)) hI4350 (((hF4351.2.1 238 (by decide)).trans ((hF4336.2.1 238 (by decide)).trans ((hF2767.2.1 238 (by decide)).trans ((hF2755.2.1 238 (by decide)).trans ((hF2741.2.1 238 (by decide)).trans ((hF2727.2.1 238 (by decide)).trans (hF2713.2.1 238 (by decide))))))))) (((hF4351.2.1 239 (by decide)).trans ((hF4336.2.1 239 (by decide)).trans ((hF2767.2.1 239 (by decide)).trans ((hF2755.2.1 239 (by decide)).trans ((hF2741.2.1 239 (by decide)).trans ((hF2727.2.1 239 (by decide)).trans (hF2713.2.1 239 (by decide))))))))) (((hF4351.2.1 240 (by decide)).trans ((hF4336.2.1 240 (by decide)).trans ((hF2767.2.1 240 (by decide)).trans ((hF2755.2.1 240 (by decide)).trans ((hF2741.2.1 240 (by decide)).trans ((hF2727.2.1 240 (by decide)).trans (hF2713.2.1 240 (by decide))))))))) (((hF4351.2.1 241 (by decide)).trans ((hF4336.2.1 241 (by decide)).trans ((hF2767.2.1 241 (by decide)).trans ((hF2755.2.1 241 (by decide)).trans ((hF2741.2.1 241 (by decide)).trans ((hF2727.2.1 241 (by decide)).trans (hF2713.2.1 241 (by decide))))))))) (((hF4351.1 231 17 (by decide)).trans ((hF4336.1 231 17 (by decide)).trans ((hF2767.1 231 17 (by decide)).trans ((hF2755.1 231 17 (by decide)).trans ((hF2741.1 231 17 (by decide)).trans ((hF2727.1 231 17 (by decide)).trans (hF2713.1 231 17 (by decide))))))))) (((hF4351.1 231 23 (by decide)).trans ((hF4336.1 231 23 (by decide)).trans ((hF2767.1 231 23 (by decide)).trans ((hF2755.1 231 23 (by decide)).trans ((hF2741.1 231 23 (by decide)).trans ((hF2727.1 231 23 (by decide)).trans (hF2713.1 231 23 (by decide)))))))))
              obtain ⟨v4403, hv4403⟩ : ∃ v, gI g0 231 15 = v := ⟨_, rfl⟩
              have rv4403 := RgF.at hI0.2.1 (p := 231) (b := 15) rfl
              rw [hv4403] at rv4403
              dsimp only at rv4403
              have tv4403 := congrArg Int32.toInt hv4403
              have x4404 := HI.eqI hI4350 (p := 231) (b := 15) ((((hF4351.1 231 15 (by decide)).trans ((hF4336.1 231 15 (by decide)).trans ((hF2767.1 231 15 (by decide)).trans ((hF2755.1 231 15 (by decide)).trans ((hF2741.1 231 15 (by decide)).trans ((hF2727.1 231 15 (by decide)).trans (hF2713.1 231 15 (by decide)))))))).trans hv4403))
              obtain ⟨v4405, hv4405⟩ : ∃ v, gI g0 231 20 = v := ⟨_, rfl⟩
              have tv4405 := congrArg Int32.toInt hv4405
              have x4406 := HI.eqI hI4350 (p := 231) (b := 20) ((((hF4351.1 231 20 (by decide)).trans ((hF4336.1 231 20 (by decide)).trans ((hF2767.1 231 20 (by decide)).trans ((hF2755.1 231 20 (by decide)).trans ((hF2741.1 231 20 (by decide)).trans ((hF2727.1 231 20 (by decide)).trans (hF2713.1 231 20 (by decide)))))))).trans hv4405))
              obtain ⟨v4408, hv4408⟩ : ∃ v, gI g0 231 24 = v := ⟨_, rfl⟩
              have tv4408 := congrArg Int32.toInt hv4408
              have x4409 := HI.eqI hI4350 (p := 231) (b := 24) ((((hF4351.1 231 24 (by decide)).trans ((hF4336.1 231 24 (by decide)).trans ((hF2767.1 231 24 (by decide)).trans ((hF2755.1 231 24 (by decide)).trans ((hF2741.1 231 24 (by decide)).trans ((hF2727.1 231 24 (by decide)).trans (hF2713.1 231 24 (by decide)))))))).trans hv4408))
              have x4411 := HI.eqI hI0 (p := 231) (b := 13) (hv4377)
              have x4412 := HI.eqI hI0 (p := 231) (b := 14) (hv6)
              have x4413 := HI.eqI hI0 (p := 231) (b := 15) (hv4403)
              have x4414 := HI.eqI hI0 (p := 231) (b := 20) (hv4405)
              have x4415 := HI.eqI hI0 (p := 231) (b := 23) (hv8)
              have x4416 := HI.eqI hI0 (p := 231) (b := 24) (hv4408)
              have mf4417 := mu4382.2.2.1 (show (gI g0 231 14).toInt = 0 from by omega) (by omega)
              have y4418 : (gI _ 231 14).toInt ≠ 0 := mf4417.1
              have y4419 : (gI _ 231 13).toInt = (gI g0 231 9).toInt := mf4417.2
              exact ⟨_, rfl, hI4350, hF4354, _, rfl, by decide, ⟨by omega, by omega, by omega, by omega, c4374, by omega, by omega, (fun hbad => ⟨by omega, (PT.mk (fun h => False.elim (by omega)) (fun _ => pg4399) (fun h h9 => False.elim (by omega)) (fun h => False.elim (by omega)))⟩), (fun hbad => by omega), hK4383, (fun c0 b hC h => M.sqEF h (TKM.some hK).choose_spec (by omega) (by omega) inn2772 (by omega) (fun _ => ⟨show (gI _ 231 14).toInt ≠ 0 from by omega, show (gI _ 231 13).toInt = (gI g0 231 9).toInt from by omega⟩) (fun z => absurd (show (gI g0 231 14).toInt = 0 from by omega) z) _), (fun h14 c0 b K hC h => absurd (show (gI _ 231 14).toInt = 0 from h14) (by omega))⟩⟩
            · have c4384_ : v4367.toInt = 0 := en_k_ne_f c4384
              obtain ⟨i4420, i4421, i4422⟩ := c4375 (by omega)
              obtain ⟨i4423, i4424⟩ := MUSTP.z mu4382 (by omega) (by omega)
              have i4425 := BL.yes hb4343 (by omega)
              refine At.enter rfl ?_
              refine r_aload_n rfl ?_
              refine r_iconst 5 rfl ?_
              have x4426 := HI.eqI hI4350 (p := 231) (b := 17) ((((hF4351.1 231 17 (by decide)).trans ((hF4336.1 231 17 (by decide)).trans ((hF2767.1 231 17 (by decide)).trans ((hF2755.1 231 17 (by decide)).trans ((hF2741.1 231 17 (by decide)).trans ((hF2727.1 231 17 (by decide)).trans (hF2713.1 231 17 (by decide)))))))).trans hv7))
              have x4427 := HI.eqI hI4350 (p := 231) (b := 23) ((((hF4351.1 231 23 (by decide)).trans ((hF4336.1 231 23 (by decide)).trans ((hF2767.1 231 23 (by decide)).trans ((hF2755.1 231 23 (by decide)).trans ((hF2741.1 231 23 (by decide)).trans ((hF2727.1 231 23 (by decide)).trans (hF2713.1 231 23 (by decide)))))))).trans hv8))
              have zv4428 : (5 : Int32).toInt = 5 := rfl
              refine r_callV 116 rfl [.ref 231, .int 5] [] (Nat.le_of_ble_eq_true rfl) rfl (T_X11_settle_231 _ hI4350 5 (by decide) (by omega)) ?_
              rintro _ _ ⟨g4429, rfl, hI4430, hF4431, rfl, hr4433⟩
              refine At.stn ?_
              have hF4434 := Fr.tr hF4354 hF4431 rfl rfl
              obtain ⟨sp4436, sq4437, sg4438⟩ := hr4433
              have sq4439 := SETQ.fr sq4437 (((hF4351.2.1 240 (by decide)).trans ((hF4336.2.1 240 (by decide)).trans ((hF2767.2.1 240 (by decide)).trans ((hF2755.2.1 240 (by decide)).trans ((hF2741.2.1 240 (by decide)).trans ((hF2727.2.1 240 (by decide)).trans (hF2713.2.1 240 (by decide))))))))) (((hF4351.1 231 23 (by decide)).trans ((hF4336.1 231 23 (by decide)).trans ((hF2767.1 231 23 (by decide)).trans ((hF2755.1 231 23 (by decide)).trans ((hF2741.1 231 23 (by decide)).trans ((hF2727.1 231 23 (by decide)).trans (hF2713.1 231 23 (by decide)))))))))
              have sg4440 := SETG_fr sg4438 (((hF4351.2.1 240 (by decide)).trans ((hF4336.2.1 240 (by decide)).trans ((hF2767.2.1 240 (by decide)).trans ((hF2755.2.1 240 (by decide)).trans ((hF2741.2.1 240 (by decide)).trans ((hF2727.2.1 240 (by decide)).trans (hF2713.2.1 240 (by decide))))))))) (((hF4351.2.1 241 (by decide)).trans ((hF4336.2.1 241 (by decide)).trans ((hF2767.2.1 241 (by decide)).trans ((hF2755.2.1 241 (by decide)).trans ((hF2741.2.1 241 (by decide)).trans ((hF2727.2.1 241 (by decide)).trans (hF2713.2.1 241 (by decide))))))))) (((hF4351.1 231 23 (by decide)).trans ((hF4336.1 231 23 (by decide)).trans ((hF2767.1 231 23 (by decide)).trans ((hF2755.1 231 23 (by decide)).trans ((hF2741.1 231 23 (by decide)).trans ((hF2727.1 231 23 (by decide)).trans (hF2713.1 231 23 (by decide))))))))) (SMG_mk (((hF4351.2.1 238 (by decide)).trans ((hF4336.2.1 238 (by decide)).trans ((hF2767.2.1 238 (by decide)).trans ((hF2755.2.1 238 (by decide)).trans ((hF2741.2.1 238 (by decide)).trans ((hF2727.2.1 238 (by decide)).trans (hF2713.2.1 238 (by decide))))))))) (((hF4351.2.1 239 (by decide)).trans ((hF4336.2.1 239 (by decide)).trans ((hF2767.2.1 239 (by decide)).trans ((hF2755.2.1 239 (by decide)).trans ((hF2741.2.1 239 (by decide)).trans ((hF2727.2.1 239 (by decide)).trans (hF2713.2.1 239 (by decide))))))))) (((hF4351.1 231 17 (by decide)).trans ((hF4336.1 231 17 (by decide)).trans ((hF2767.1 231 17 (by decide)).trans ((hF2755.1 231 17 (by decide)).trans ((hF2741.1 231 17 (by decide)).trans ((hF2727.1 231 17 (by decide)).trans (hF2713.1 231 17 (by decide))))))))))
              obtain ⟨v4443, hv4443⟩ : ∃ v, gI g4429 231 17 = v := ⟨_, rfl⟩
              have rv4443 := RgF.at hI4430.2.1 (p := 231) (b := 17) rfl
              rw [hv4443] at rv4443
              dsimp only at rv4443
              have tv4443 := congrArg Int32.toInt hv4443
              have x4444 := HI.eqI hI4430 (p := 231) (b := 17) (hv4443)
              obtain ⟨v4445, hv4445⟩ : ∃ v, gI g4429 231 23 = v := ⟨_, rfl⟩
              have rv4445 := RgF.at hI4430.2.1 (p := 231) (b := 23) rfl
              rw [hv4445] at rv4445
              dsimp only at rv4445
              have tv4445 := congrArg Int32.toInt hv4445
              have x4446 := HI.eqI hI4430 (p := 231) (b := 23) (hv4445)
              have y4447 : (gI _ 231 23).toInt ≤ (gI _ 231 23).toInt := sp4436.1
              have y4448 : (gI _ 231 17).toInt + (gI _ 231 23).toInt ≤ (gI _ 231 17).toInt + (gI _ 231 23).toInt := sp4436.2.1
              have pg4449 := PG.cong (hP.2.1 (by decide)) hI4350 (((hF4351.2.1 238 (by decide)).trans ((hF4336.2.1 238 (by decide)).trans ((hF2767.2.1 238 (by decide)).trans ((hF2755.2.1 238 (by decide)).trans ((hF2741.2.1 238 (by decide)).trans ((hF2727.2.1 238 (by decide)).trans (hF2713.2.1 238 (by decide))))))))) (((hF4351.2.1 239 (by decide)).trans ((hF4336.2.1 239 (by decide)).trans ((hF2767.2.1 239 (by decide)).trans ((hF2755.2.1 239 (by decide)).trans ((hF2741.2.1 239 (by decide)).trans ((hF2727.2.1 239 (by decide)).trans (hF2713.2.1 239 (by decide))))))))) (((hF4351.2.1 240 (by decide)).trans ((hF4336.2.1 240 (by decide)).trans ((hF2767.2.1 240 (by decide)).trans ((hF2755.2.1 240 (by decide)).trans ((hF2741.2.1 240 (by decide)).trans ((hF2727.2.1 240 (by decide)).trans (hF2713.2.1 240 (by decide))))))))) (((hF4351.2.1 241 (by decide)).trans ((hF4336.2.1 241 (by decide)).trans ((hF2767.2.1 241 (by decide)).trans ((hF2755.2.1 241 (by decide)).trans ((hF2741.2.1 241 (by decide)).trans ((hF2727.2.1 241 (by decide)).trans (hF2713.2.1 241 (by decide))))))))) (((hF4351.1 231 17 (by decide)).trans ((hF4336.1 231 17 (by decide)).trans ((hF2767.1 231 17 (by decide)).trans ((hF2755.1 231 17 (by decide)).trans ((hF2741.1 231 17 (by decide)).trans ((hF2727.1 231 17 (by decide)).trans (hF2713.1 231 17 (by decide))))))))) (((hF4351.1 231 23 (by decide)).trans ((hF4336.1 231 23 (by decide)).trans ((hF2767.1 231 23 (by decide)).trans ((hF2755.1 231 23 (by decide)).trans ((hF2741.1 231 23 (by decide)).trans ((hF2727.1 231 23 (by decide)).trans (hF2713.1 231 23 (by decide)))))))))
              have inn4451 := INN.cong inn2771 hI4350 (((hF4351.2.1 240 (by decide)).trans (hF4336.2.1 240 (by decide)))) (((hF4351.1 231 23 (by decide)).trans (hF4336.1 231 23 (by decide))))
              have top4452 := SETP.close5 sp4436 (by omega) inn4451 (by omega) pg4449
              have y4453 : 1 ≤ (gI _ 231 23).toInt := top4452.1
              have pg4450 := sp4436.2.2.1 _ _ _ pg4449
              refine At.enter rfl ?_
              refine r_aload_n rfl ?_
              refine r_dup rfl ?_
              refine q_getI (Sh.int hI4430.1 kx_231 rfl) v4445 hv4445 ?_
              refine r_iconst 1 rfl ?_
              refine q_isub (v4445.toInt - 1) rfl (by omega) (fun v4454 hv4454 => ?_)
              refine q_putI (Sh.int hI4430.1 kx_231 rfl) rfl ?_
              have hI4455 := HI.wI1 hI4430 kx_231 rfl (p := 231) (b := 23) (v := v4454) rfl (by dsimp only; omega)
              have hF4456 := Fr.wI (p := 231) (b := 23) (v := v4454) hF4434 rfl
              refine r_aload_n rfl ?_
              refine r_dup rfl ?_
              obtain ⟨v4457, hv4457⟩ : ∃ v, gI g0 231 24 = v := ⟨_, rfl⟩
              refine q_getI (Sh.int hI4455.1 kx_231 rfl) v4457 (((gI_sI_ne (by decide)).trans ((hF4431.1 231 24 (by decide)).trans ((hF4351.1 231 24 (by decide)).trans ((hF4336.1 231 24 (by decide)).trans ((hF2767.1 231 24 (by decide)).trans ((hF2755.1 231 24 (by decide)).trans ((hF2741.1 231 24 (by decide)).trans ((hF2727.1 231 24 (by decide)).trans (hF2713.1 231 24 (by decide)))))))))).trans hv4457) ?_
              refine r_iconst 1 rfl ?_
              refine q_isubO (fun v4458 ov4458 => ?_)
              refine q_putI (Sh.int hI4455.1 kx_231 rfl) rfl ?_
              have hI4459 := HI.wI0 hI4455 kx_231 rfl (p := 231) (b := 24) (v := v4458) rfl
              have hF4460 := Fr.wI (p := 231) (b := 24) (v := v4458) hF4456 rfl
              refine Ar.fall 136 rfl ?_
              refine At.enter rfl ?_
              refine r_iconst 3 rfl ?_
              refine r_ireti ?_
              have x4461 := HI.eqI hI4459 (p := 231) (b := 8) ((((gI_sI_ne (by decide)).trans ((gI_sI_ne (by decide)).trans ((hF4431.1 231 8 (by decide)).trans ((hF4351.1 231 8 (by decide)).trans ((hF4336.1 231 8 (by decide)).trans ((hF2767.1 231 8 (by decide)).trans ((hF2755.1 231 8 (by decide)).trans ((hF2741.1 231 8 (by decide)).trans ((hF2727.1 231 8 (by decide)).trans (hF2713.1 231 8 (by decide))))))))))).trans hv1))
              have x4462 := HI.eqI hI4459 (p := 231) (b := 9) ((((gI_sI_ne (by decide)).trans ((gI_sI_ne (by decide)).trans (hF4431.1 231 9 (by decide)))).trans hv4361))
              have x4463 := HI.eqI hI4459 (p := 231) (b := 10) ((((gI_sI_ne (by decide)).trans ((gI_sI_ne (by decide)).trans (hF4431.1 231 10 (by decide)))).trans hv4363))
              have x4464 := HI.eqI hI4459 (p := 231) (b := 11) ((((gI_sI_ne (by decide)).trans ((gI_sI_ne (by decide)).trans (hF4431.1 231 11 (by decide)))).trans hv4365))
              obtain ⟨v4465, hv4465⟩ : ∃ v, gJ g4349 231 12 = v := ⟨_, rfl⟩
              have x4466 := HI.eqJ hI4459 (b := 12) ((((gJ_sI_ne (by decide)).trans ((gJ_sI_ne (by decide)).trans (hF4431.2.2 231 12 (by decide)))).trans hv4465))
              have x4467 := HI.eqI hI4459 (p := 231) (b := 14) ((((gI_sI_ne (by decide)).trans ((gI_sI_ne (by decide)).trans (hF4431.1 231 14 (by decide)))).trans hv4367))
              have x4468 := HI.eqI hI4459 (p := 231) (b := 17) ((((gI_sI_ne (by decide)).trans (gI_sI_ne (by decide))).trans hv4443))
              have x4469 := HI.eqI hI4459 (p := 231) (b := 23) (((gI_sI_ne (by decide)).trans (gI_sI_eq hI4430.1 kx_231 rfl _)))
              have x4470 := HI.eqI hI0 (p := 231) (b := 9) (hv2)
              have zv4471 : (3 : Int32).toInt = 3 := rfl
              have pg4472 := PG.popB pg4450 hI4459 (((gA_sI).trans (gA_sI))) (((gA_sI).trans (gA_sI))) (((gA_sI).trans (gA_sI))) (((gA_sI).trans (gA_sI))) (((gI_sI_ne (by decide)).trans (gI_sI_ne (by decide)))) (by show (gI _ 231 23).toInt = (gI _ 231 23).toInt - 1; omega) top4452.1 top4452.2
              have w264474 := W26.cong c4374 hI4459 (((gI_sI_ne (by decide)).trans ((gI_sI_ne (by decide)).trans (hF4431.1 231 9 (by decide))))) (((gI_sI_ne (by decide)).trans ((gI_sI_ne (by decide)).trans (hF4431.1 231 10 (by decide))))) (((gI_sI_ne (by decide)).trans ((gI_sI_ne (by decide)).trans (hF4431.1 231 11 (by decide))))) (((gJ_sI_ne (by decide)).trans ((gJ_sI_ne (by decide)).trans (hF4431.2.2 231 12 (by decide)))))
              have x4476 := HI.eqI hI4459 (p := 231) (b := 13) ((((gI_sI_ne (by decide)).trans ((gI_sI_ne (by decide)).trans (hF4431.1 231 13 (by decide)))).trans hv4380))
              obtain ⟨v4478, hv4478⟩ : ∃ v, gI g0 231 15 = v := ⟨_, rfl⟩
              have rv4478 := RgF.at hI0.2.1 (p := 231) (b := 15) rfl
              rw [hv4478] at rv4478
              dsimp only at rv4478
              have tv4478 := congrArg Int32.toInt hv4478
              have x4479 := HI.eqI hI4459 (p := 231) (b := 15) ((((gI_sI_ne (by decide)).trans ((gI_sI_ne (by decide)).trans ((hF4431.1 231 15 (by decide)).trans ((hF4351.1 231 15 (by decide)).trans ((hF4336.1 231 15 (by decide)).trans ((hF2767.1 231 15 (by decide)).trans ((hF2755.1 231 15 (by decide)).trans ((hF2741.1 231 15 (by decide)).trans ((hF2727.1 231 15 (by decide)).trans (hF2713.1 231 15 (by decide))))))))))).trans hv4478))
              obtain ⟨v4480, hv4480⟩ : ∃ v, gI g0 231 20 = v := ⟨_, rfl⟩
              have tv4480 := congrArg Int32.toInt hv4480
              have x4481 := HI.eqI hI4459 (p := 231) (b := 20) ((((gI_sI_ne (by decide)).trans ((gI_sI_ne (by decide)).trans ((hF4431.1 231 20 (by decide)).trans ((hF4351.1 231 20 (by decide)).trans ((hF4336.1 231 20 (by decide)).trans ((hF2767.1 231 20 (by decide)).trans ((hF2755.1 231 20 (by decide)).trans ((hF2741.1 231 20 (by decide)).trans ((hF2727.1 231 20 (by decide)).trans (hF2713.1 231 20 (by decide))))))))))).trans hv4480))
              have x4483 := HI.eqI hI4459 (p := 231) (b := 24) ((gI_sI_eq hI4455.1 kx_231 rfl _))
              have x4485 := HI.eqI hI0 (p := 231) (b := 13) (hv4377)
              have x4486 := HI.eqI hI0 (p := 231) (b := 14) (hv6)
              have x4487 := HI.eqI hI0 (p := 231) (b := 15) (hv4478)
              have x4488 := HI.eqI hI0 (p := 231) (b := 20) (hv4480)
              have x4489 := HI.eqI hI0 (p := 231) (b := 23) (hv8)
              have x4490 := HI.eqI hI0 (p := 231) (b := 24) (hv4457)
              have x4492 := HI.eqI hI4430 (p := 231) (b := 24) ((((hF4431.1 231 24 (by decide)).trans ((hF4351.1 231 24 (by decide)).trans ((hF4336.1 231 24 (by decide)).trans ((hF2767.1 231 24 (by decide)).trans ((hF2755.1 231 24 (by decide)).trans ((hF2741.1 231 24 (by decide)).trans ((hF2727.1 231 24 (by decide)).trans (hF2713.1 231 24 (by decide))))))))).trans hv4457))
              have y4497 : (gI g4349 231 13).toInt = (gI g0 231 13).toInt := (mu4382.2.1 (show (gI g0 231 14).toInt = 0 from by omega) (by omega)).2.1
              exact ⟨_, rfl, hI4459, hF4460, _, rfl, by decide, ⟨by omega, by omega, by omega, by omega, w264474, by omega, by omega, (fun hbad => ⟨by omega, (PT.mk (fun h => False.elim (by omega)) (fun _ => pg4472) (fun h h9 => False.elim (by omega)) (fun h => False.elim (by omega)))⟩), (fun hbad => by omega), (TKM.c hK4383 (((gA_sI).trans ((gA_sI).trans (hF4431.2.1 236 (by decide))))) (((gI_sI_ne (by decide)).trans ((gI_sI_ne (by decide)).trans (hF4431.1 231 8 (by decide))))) (((gI_sI_ne (by decide)).trans ((gI_sI_ne (by decide)).trans (hF4431.1 231 9 (by decide))))) (((gI_sI_ne (by decide)).trans ((gI_sI_ne (by decide)).trans (hF4431.1 231 10 (by decide))))) (((gI_sI_ne (by decide)).trans ((gI_sI_ne (by decide)).trans (hF4431.1 231 11 (by decide))))) (((gJ_sI_ne (by decide)).trans ((gJ_sI_ne (by decide)).trans (hF4431.2.2 231 12 (by decide)))))), (fun c0 b hC h => M.sqE h (by rw [pI.c (((gI_sI_ne (by decide)).trans ((gI_sI_ne (by decide)).trans (hF4431.1 231 9 (by decide)))))]; exact (MUSTP.tok hK mu4382 (by omega) (by omega))) (by omega) inn2772 (by omega) sq4439 (pI.c (((hF4431.1 231 24 (by decide)).trans ((hF4351.1 231 24 (by decide)).trans ((hF4336.1 231 24 (by decide)).trans ((hF2767.1 231 24 (by decide)).trans ((hF2755.1 231 24 (by decide)).trans ((hF2741.1 231 24 (by decide)).trans ((hF2727.1 231 24 (by decide)).trans (hF2713.1 231 24 (by decide))))))))))) (((gA_sI).trans (gA_sI))) (show (gI _ 231 23).toInt = (gI g4429 231 23).toInt - 1 from by omega) top4452.1 top4452.2 (fun hz => (show (gI _ 231 24).toInt = (gI g4429 231 24).toInt - 1 from by have hz2 : 0 ≤ (gI g4429 231 24).toInt := hz; have b := q_bnd v4457; have z1 : (1 : Int32).toInt = 1 := rfl; have z := isub_e ov4458 (by omega) (by omega); omega)) (show (gI _ 231 20).toInt = (gI g0 231 20).toInt from by omega) (show (gI _ 231 15).toInt = (gI g0 231 15).toInt from by omega) (fun _ => ⟨show (gI _ 231 14).toInt = 0 from by omega, show (gI _ 231 13).toInt = (gI g0 231 13).toInt from by omega⟩) (fun z => absurd (show (gI g0 231 14).toInt = 0 from by omega) z)), (fun h14 c0 b K hC h => MG_sqE h (by rw [pI.c (((gI_sI_ne (by decide)).trans ((gI_sI_ne (by decide)).trans (hF4431.1 231 9 (by decide)))))]; exact (MUSTP.tok hK mu4382 (by omega) (by omega))) (by omega) inn2772 (by omega) sg4440 (by omega) sq4439 (((gA_sI).trans (gA_sI))) (((gA_sI).trans (gA_sI))) (show (gI _ 231 23).toInt = (gI g4429 231 23).toInt - 1 from by omega) top4452.1 top4452.2 (SMG_mk (((gA_sI).trans (gA_sI))) (((gA_sI).trans (gA_sI))) (((gI_sI_ne (by decide)).trans (gI_sI_ne (by decide))))) (by show 0 ≤ (gI g4429 231 17).toInt; omega))⟩⟩
        · have c2763_ : v2756.toInt ≠ 0 := en_k_eq_f c2763
          have i4500 := BL.yes hb2762 (by omega)
          refine At.enter rfl ?_
          refine r_bipush 23 rfl ?_
          refine r_goto ?_
          refine At.enter rfl ?_
          refine r_istore_n ([(2, .int 23), (0, .ref 231), (1, .int a1)]) rfl ?_
          refine r_iload_n rfl ?_
          refine r_iconst (-1) rfl ?_
          refine r_icf 63 rfl (by decide) ?_
          refine At.enter rfl ?_
          refine r_aload_n rfl ?_
          refine r_iload_n rfl ?_
          refine q_inlS 68 rfl [.int 23] [.ref 231] (Nat.le_of_ble_eq_true rfl) rfl ?_
          refine Ev.mk rfl rfl ⟨Nat.le_of_ble_eq_true rfl, Or.inl rfl⟩ ?_
          show At _ none _ _ (0, [(0, .int 23)], [], (_, _)) _
          refine At.enter rfl ?_
          refine r_iload_n rfl ?_
          refine r_bipush 30 rfl ?_
          refine r_ict (by decide) ?_
          refine At.enter rfl ?_
          refine r_iload_n rfl ?_
          refine r_bipush 29 rfl ?_
          refine r_ict (by decide) ?_
          refine At.enter rfl ?_
          refine r_iload_n rfl ?_
          refine r_bipush 28 rfl ?_
          refine r_ict (by decide) ?_
          refine At.enter rfl ?_
          refine r_iload_n rfl ?_
          refine r_bipush 27 rfl ?_
          refine r_ict (by decide) ?_
          refine At.enter rfl ?_
          refine r_iload_n rfl ?_
          refine r_bipush 24 rfl ?_
          refine r_ict (by decide) ?_
          refine At.enter rfl ?_
          refine r_iload_n rfl ?_
          refine r_bipush 22 rfl ?_
          refine r_icf 56 rfl (by decide) ?_
          refine At.enter rfl ?_
          refine r_bipush 6 rfl ?_
          refine r_goto ?_
          refine At.enter rfl ?_
          refine q_ireti ?_
          refine At.enter rfl ?_
          have x4501 := HI.eqI hI2754 (p := 231) (b := 17) ((((hF2755.1 231 17 (by decide)).trans ((hF2741.1 231 17 (by decide)).trans ((hF2727.1 231 17 (by decide)).trans (hF2713.1 231 17 (by decide))))).trans hv7))
          have x4502 := HI.eqI hI2754 (p := 231) (b := 23) ((((hF2755.1 231 23 (by decide)).trans ((hF2741.1 231 23 (by decide)).trans ((hF2727.1 231 23 (by decide)).trans (hF2713.1 231 23 (by decide))))).trans hv8))
          have zv4503 : (6 : Int32).toInt = 6 := rfl
          refine r_callV 71 rfl [.ref 231, .int 6] [] (Nat.le_of_ble_eq_true rfl) rfl (T_X11_settle_231 _ hI2754 6 (by decide) (by omega)) ?_
          rintro _ _ ⟨g4504, rfl, hI4505, hF4506, rfl, hr4508⟩
          refine At.stn ?_
          have hF4509 := Fr.tr hF2758 hF4506 rfl rfl
          obtain ⟨sp4511, sq4512, sg4513⟩ := hr4508
          have sq4514 := SETQ.fr sq4512 (((hF2755.2.1 240 (by decide)).trans ((hF2741.2.1 240 (by decide)).trans ((hF2727.2.1 240 (by decide)).trans (hF2713.2.1 240 (by decide)))))) (((hF2755.1 231 23 (by decide)).trans ((hF2741.1 231 23 (by decide)).trans ((hF2727.1 231 23 (by decide)).trans (hF2713.1 231 23 (by decide))))))
          have sg4515 := SETG_fr sg4513 (((hF2755.2.1 240 (by decide)).trans ((hF2741.2.1 240 (by decide)).trans ((hF2727.2.1 240 (by decide)).trans (hF2713.2.1 240 (by decide)))))) (((hF2755.2.1 241 (by decide)).trans ((hF2741.2.1 241 (by decide)).trans ((hF2727.2.1 241 (by decide)).trans (hF2713.2.1 241 (by decide)))))) (((hF2755.1 231 23 (by decide)).trans ((hF2741.1 231 23 (by decide)).trans ((hF2727.1 231 23 (by decide)).trans (hF2713.1 231 23 (by decide)))))) (SMG_mk (((hF2755.2.1 238 (by decide)).trans ((hF2741.2.1 238 (by decide)).trans ((hF2727.2.1 238 (by decide)).trans (hF2713.2.1 238 (by decide)))))) (((hF2755.2.1 239 (by decide)).trans ((hF2741.2.1 239 (by decide)).trans ((hF2727.2.1 239 (by decide)).trans (hF2713.2.1 239 (by decide)))))) (((hF2755.1 231 17 (by decide)).trans ((hF2741.1 231 17 (by decide)).trans ((hF2727.1 231 17 (by decide)).trans (hF2713.1 231 17 (by decide)))))))
          obtain ⟨v4518, hv4518⟩ : ∃ v, gI g4504 231 17 = v := ⟨_, rfl⟩
          have rv4518 := RgF.at hI4505.2.1 (p := 231) (b := 17) rfl
          rw [hv4518] at rv4518
          dsimp only at rv4518
          have tv4518 := congrArg Int32.toInt hv4518
          have x4519 := HI.eqI hI4505 (p := 231) (b := 17) (hv4518)
          obtain ⟨v4520, hv4520⟩ : ∃ v, gI g4504 231 23 = v := ⟨_, rfl⟩
          have rv4520 := RgF.at hI4505.2.1 (p := 231) (b := 23) rfl
          rw [hv4520] at rv4520
          dsimp only at rv4520
          have tv4520 := congrArg Int32.toInt hv4520
          have x4521 := HI.eqI hI4505 (p := 231) (b := 23) (hv4520)
          have y4522 : (gI _ 231 23).toInt ≤ (gI _ 231 23).toInt := sp4511.1
          have y4523 : (gI _ 231 17).toInt + (gI _ 231 23).toInt ≤ (gI _ 231 17).toInt + (gI _ 231 23).toInt := sp4511.2.1
          have pg4524 := PG.cong (hP.2.1 (by decide)) hI2754 (((hF2755.2.1 238 (by decide)).trans ((hF2741.2.1 238 (by decide)).trans ((hF2727.2.1 238 (by decide)).trans (hF2713.2.1 238 (by decide)))))) (((hF2755.2.1 239 (by decide)).trans ((hF2741.2.1 239 (by decide)).trans ((hF2727.2.1 239 (by decide)).trans (hF2713.2.1 239 (by decide)))))) (((hF2755.2.1 240 (by decide)).trans ((hF2741.2.1 240 (by decide)).trans ((hF2727.2.1 240 (by decide)).trans (hF2713.2.1 240 (by decide)))))) (((hF2755.2.1 241 (by decide)).trans ((hF2741.2.1 241 (by decide)).trans ((hF2727.2.1 241 (by decide)).trans (hF2713.2.1 241 (by decide)))))) (((hF2755.1 231 17 (by decide)).trans ((hF2741.1 231 17 (by decide)).trans ((hF2727.1 231 17 (by decide)).trans (hF2713.1 231 17 (by decide)))))) (((hF2755.1 231 23 (by decide)).trans ((hF2741.1 231 23 (by decide)).trans ((hF2727.1 231 23 (by decide)).trans (hF2713.1 231 23 (by decide))))))
          have pg4525 := sp4511.2.2.1 _ _ _ pg4524
          refine At.enter rfl ?_
          refine r_aload_n rfl ?_
          refine r_iload_n rfl ?_
          refine r_iconst 0 rfl ?_
          have zv4527 : (23 : Int32).toInt = 23 := rfl
          have zv4528 : (0 : Int32).toInt = 0 := rfl
          refine r_callV 77 rfl [.ref 231, .int 23, .int 0] [] (Nat.le_of_ble_eq_true rfl) rfl (T_X11_push_231 _ hI4505 23 (by decide) 0 (by decide) (by omega)) ?_
          rintro _ _ ⟨g4529, rfl, hI4530, hF4531, rfl, hr4533⟩
          refine At.stn ?_
          have hF4534 := Fr.tr hF4509 hF4531 rfl rfl
          have x4539 := HI.eqI hI4530 (p := 231) (b := 17) (((hF4531.1 231 17 (by decide)).trans hv4518))
          obtain ⟨v4540, hv4540⟩ : ∃ v, gI g4529 231 23 = v := ⟨_, rfl⟩
          have rv4540 := RgF.at hI4530.2.1 (p := 231) (b := 23) rfl
          rw [hv4540] at rv4540
          dsimp only at rv4540
          have tv4540 := congrArg Int32.toInt hv4540
          have x4541 := HI.eqI hI4530 (p := 231) (b := 23) (hv4540)
          have y4542 : (gI _ 231 23).toInt = (gI _ 231 23).toInt + 1 := hr4533.1
          have pg4543 := PG.push (e' := 0) pg4525 hr4533 (hF4531.2.1 238 (by decide)) (hF4531.2.1 239 (by decide)) (hF4531.1 231 17 (by decide)) ⟨by omega, by omega⟩ (Or.inl (by omega)) (by omega) (by omega)
          refine At.enter rfl ?_
          refine r_aload_n rfl ?_
          have x4544 := HI.eqI hI4530 (p := 231) (b := 8) ((((hF4531.1 231 8 (by decide)).trans ((hF4506.1 231 8 (by decide)).trans ((hF2755.1 231 8 (by decide)).trans ((hF2741.1 231 8 (by decide)).trans ((hF2727.1 231 8 (by decide)).trans (hF2713.1 231 8 (by decide))))))).trans hv1))
          have x4545 := HI.eqI hI4530 (p := 231) (b := 10) ((((hF4531.1 231 10 (by decide)).trans ((hF4506.1 231 10 (by decide)).trans ((hF2755.1 231 10 (by decide)).trans ((hF2741.1 231 10 (by decide)).trans ((hF2727.1 231 10 (by decide)).trans (hF2713.1 231 10 (by decide))))))).trans hv3))
          refine r_callV 81 rfl [.ref 231] [] (Nat.le_of_ble_eq_true rfl) rfl (T_X11_next_231 _ hI4530 (by omega)) ?_
          rintro _ _ ⟨g4546, rfl, hI4547, hF4548, rfl, hr4550⟩
          refine At.stn ?_
          have hF4551 := Fr.tr hF4534 hF4548 rfl rfl
          have x4554 := HI.eqI hI4547 (p := 231) (b := 8) ((((hF4548.1 231 8 (by decide)).trans ((hF4531.1 231 8 (by decide)).trans ((hF4506.1 231 8 (by decide)).trans ((hF2755.1 231 8 (by decide)).trans ((hF2741.1 231 8 (by decide)).trans ((hF2727.1 231 8 (by decide)).trans (hF2713.1 231 8 (by decide)))))))).trans hv1))
          obtain ⟨v4555, hv4555⟩ : ∃ v, gI g4546 231 9 = v := ⟨_, rfl⟩
          have rv4555 := RgF.at hI4547.2.1 (p := 231) (b := 9) rfl
          rw [hv4555] at rv4555
          dsimp only at rv4555
          have tv4555 := congrArg Int32.toInt hv4555
          have x4556 := HI.eqI hI4547 (p := 231) (b := 9) (hv4555)
          obtain ⟨v4557, hv4557⟩ : ∃ v, gI g4546 231 10 = v := ⟨_, rfl⟩
          have rv4557 := RgF.at hI4547.2.1 (p := 231) (b := 10) rfl
          rw [hv4557] at rv4557
          dsimp only at rv4557
          have tv4557 := congrArg Int32.toInt hv4557
          have x4558 := HI.eqI hI4547 (p := 231) (b := 10) (hv4557)
          obtain ⟨v4559, hv4559⟩ : ∃ v, gI g4546 231 11 = v := ⟨_, rfl⟩
          have tv4559 := congrArg Int32.toInt hv4559
          have x4560 := HI.eqI hI4547 (p := 231) (b := 11) (hv4559)
          obtain ⟨c4561, c4562, c4563, c4564, c4565, c4566, c4567⟩ := hr4550
          have tok4568_ := c4567.2
          rw [TM.c (((hF4531.2.1 236 (by decide)).trans ((hF4506.2.1 236 (by decide)).trans ((hF2755.2.1 236 (by decide)).trans ((hF2741.2.1 236 (by decide)).trans ((hF2727.2.1 236 (by decide)).trans (hF2713.2.1 236 (by decide)))))))), nM.c (((hF4531.1 231 8 (by decide)).trans ((hF4506.1 231 8 (by decide)).trans ((hF2755.1 231 8 (by decide)).trans ((hF2741.1 231 8 (by decide)).trans ((hF2727.1 231 8 (by decide)).trans (hF2713.1 231 8 (by decide)))))))), pI.c (b := 10) (((hF4531.1 231 10 (by decide)).trans ((hF4506.1 231 10 (by decide)).trans ((hF2755.1 231 10 (by decide)).trans ((hF2741.1 231 10 (by decide)).trans ((hF2727.1 231 10 (by decide)).trans (hF2713.1 231 10 (by decide))))))))] at tok4568_
          have tok4568 := TKM.tok hK tok4568_
          have hK4569 := c4567.1
          refine At.enter rfl ?_
          refine r_iconst 1 rfl ?_
          refine r_ireti ?_
          obtain ⟨v4574, hv4574⟩ : ∃ v, gJ g4546 231 12 = v := ⟨_, rfl⟩
          have x4575 := HI.eqJ hI4547 (b := 12) (hv4574)
          have x4576 := HI.eqI hI4547 (p := 231) (b := 14) ((((hF4548.1 231 14 (by decide)).trans ((hF4531.1 231 14 (by decide)).trans ((hF4506.1 231 14 (by decide)).trans ((hF2755.1 231 14 (by decide)).trans ((hF2741.1 231 14 (by decide)).trans ((hF2727.1 231 14 (by decide)).trans (hF2713.1 231 14 (by decide)))))))).trans hv6))
          have x4577 := HI.eqI hI4547 (p := 231) (b := 17) ((((hF4548.1 231 17 (by decide)).trans (hF4531.1 231 17 (by decide))).trans hv4518))
          have x4578 := HI.eqI hI4547 (p := 231) (b := 23) (((hF4548.1 231 23 (by decide)).trans hv4540))
          have x4579 := HI.eqI hI0 (p := 231) (b := 9) (hv2)
          have zv4580 : (1 : Int32).toInt = 1 := rfl
          have pg4581 := PG.cong pg4543 hI4547 ((hF4548.2.1 238 (by decide))) ((hF4548.2.1 239 (by decide))) ((hF4548.2.1 240 (by decide))) ((hF4548.2.1 241 (by decide))) ((hF4548.1 231 17 (by decide))) ((hF4548.1 231 23 (by decide)))
          obtain ⟨v4583, hv4583⟩ : ∃ v, gI g0 231 13 = v := ⟨_, rfl⟩
          have tv4583 := congrArg Int32.toInt hv4583
          have x4584 := HI.eqI hI4547 (p := 231) (b := 13) ((((hF4548.1 231 13 (by decide)).trans ((hF4531.1 231 13 (by decide)).trans ((hF4506.1 231 13 (by decide)).trans ((hF2755.1 231 13 (by decide)).trans ((hF2741.1 231 13 (by decide)).trans ((hF2727.1 231 13 (by decide)).trans (hF2713.1 231 13 (by decide)))))))).trans hv4583))
          obtain ⟨v4586, hv4586⟩ : ∃ v, gI g0 231 15 = v := ⟨_, rfl⟩
          have rv4586 := RgF.at hI0.2.1 (p := 231) (b := 15) rfl
          rw [hv4586] at rv4586
          dsimp only at rv4586
          have tv4586 := congrArg Int32.toInt hv4586
          have x4587 := HI.eqI hI4547 (p := 231) (b := 15) ((((hF4548.1 231 15 (by decide)).trans ((hF4531.1 231 15 (by decide)).trans ((hF4506.1 231 15 (by decide)).trans ((hF2755.1 231 15 (by decide)).trans ((hF2741.1 231 15 (by decide)).trans ((hF2727.1 231 15 (by decide)).trans (hF2713.1 231 15 (by decide)))))))).trans hv4586))
          obtain ⟨v4588, hv4588⟩ : ∃ v, gI g0 231 20 = v := ⟨_, rfl⟩
          have tv4588 := congrArg Int32.toInt hv4588
          have x4589 := HI.eqI hI4547 (p := 231) (b := 20) ((((hF4548.1 231 20 (by decide)).trans ((hF4531.1 231 20 (by decide)).trans ((hF4506.1 231 20 (by decide)).trans ((hF2755.1 231 20 (by decide)).trans ((hF2741.1 231 20 (by decide)).trans ((hF2727.1 231 20 (by decide)).trans (hF2713.1 231 20 (by decide)))))))).trans hv4588))
          obtain ⟨v4591, hv4591⟩ : ∃ v, gI g0 231 24 = v := ⟨_, rfl⟩
          have tv4591 := congrArg Int32.toInt hv4591
          have x4592 := HI.eqI hI4547 (p := 231) (b := 24) ((((hF4548.1 231 24 (by decide)).trans ((hF4531.1 231 24 (by decide)).trans ((hF4506.1 231 24 (by decide)).trans ((hF2755.1 231 24 (by decide)).trans ((hF2741.1 231 24 (by decide)).trans ((hF2727.1 231 24 (by decide)).trans (hF2713.1 231 24 (by decide)))))))).trans hv4591))
          have x4594 := HI.eqI hI0 (p := 231) (b := 13) (hv4583)
          have x4595 := HI.eqI hI0 (p := 231) (b := 14) (hv6)
          have x4596 := HI.eqI hI0 (p := 231) (b := 15) (hv4586)
          have x4597 := HI.eqI hI0 (p := 231) (b := 20) (hv4588)
          have x4598 := HI.eqI hI0 (p := 231) (b := 23) (hv8)
          have x4599 := HI.eqI hI0 (p := 231) (b := 24) (hv4591)
          have x4601 := HI.eqI hI4505 (p := 231) (b := 24) ((((hF4506.1 231 24 (by decide)).trans ((hF2755.1 231 24 (by decide)).trans ((hF2741.1 231 24 (by decide)).trans ((hF2727.1 231 24 (by decide)).trans (hF2713.1 231 24 (by decide)))))).trans hv4591))
          exact ⟨_, rfl, hI4547, hF4551, _, rfl, by decide, ⟨by omega, by omega, by omega, by omega, c4566, by omega, by omega, (fun hbad => ⟨by omega, (PT.mk (fun _ => pg4581) (fun h => False.elim (by omega)) (fun h h9 => False.elim (by omega)) (fun h => False.elim (by omega)))⟩), (fun hbad => by omega), hK4569, (fun c0 b hC h => M.join h tok4568 (by omega) sq4514 (by omega) (PUSH.fr2 hr4533 rfl rfl rfl ((hF4548.2.1 240 (by decide))) ((hF4548.2.1 241 (by decide))) ((hF4548.1 231 23 (by decide)))) (by omega) (pI.c (((hF4506.1 231 24 (by decide)).trans ((hF2755.1 231 24 (by decide)).trans ((hF2741.1 231 24 (by decide)).trans ((hF2727.1 231 24 (by decide)).trans (hF2713.1 231 24 (by decide)))))))) (show (gI _ 231 24).toInt = (gI g4504 231 24).toInt from by omega) (show (gI _ 231 20).toInt = (gI g0 231 20).toInt from by omega) (show (gI _ 231 15).toInt = (gI g0 231 15).toInt from by omega) (fun _ => ⟨show (gI _ 231 14).toInt = 0 from by omega, show (gI _ 231 13).toInt = (gI g0 231 13).toInt from by omega⟩) (fun z => absurd (show (gI g0 231 14).toInt = 0 from by omega) z)), (fun h14 c0 b K hC h => MG_join h tok4568 (by omega) sg4515 (by have l3 := lea_3 (CDM g0); omega) sq4514 (PUSH.fr2 hr4533 rfl rfl rfl ((hF4548.2.1 240 (by decide))) ((hF4548.2.1 241 (by decide))) ((hF4548.1 231 23 (by decide)))) (by omega) rfl (SMG_mk (((hF4548.2.1 238 (by decide)).trans (hF4531.2.1 238 (by decide)))) (((hF4548.2.1 239 (by decide)).trans (hF4531.2.1 239 (by decide)))) (((hF4548.1 231 17 (by decide)).trans (hF4531.1 231 17 (by decide))))) (by show 0 ≤ (gI g4504 231 17).toInt; omega))⟩⟩
      · have c2749_ : v2742.toInt ≠ 0 := en_k_eq_f c2749
        have i4604 := BL.yes hb2748 (by omega)
        refine At.enter rfl ?_
        refine r_bipush 22 rfl ?_
        refine r_goto ?_
        refine At.enter rfl ?_
        refine r_istore_n ([(2, .int 22), (0, .ref 231), (1, .int a1)]) rfl ?_
        refine r_iload_n rfl ?_
        refine r_iconst (-1) rfl ?_
        refine r_icf 63 rfl (by decide) ?_
        refine At.enter rfl ?_
        refine r_aload_n rfl ?_
        refine r_iload_n rfl ?_
        refine q_inlS 68 rfl [.int 22] [.ref 231] (Nat.le_of_ble_eq_true rfl) rfl ?_
        refine Ev.mk rfl rfl ⟨Nat.le_of_ble_eq_true rfl, Or.inl rfl⟩ ?_
        show At _ none _ _ (0, [(0, .int 22)], [], (_, _)) _
        refine At.enter rfl ?_
        refine r_iload_n rfl ?_
        refine r_bipush 30 rfl ?_
        refine r_ict (by decide) ?_
        refine At.enter rfl ?_
        refine r_iload_n rfl ?_
        refine r_bipush 29 rfl ?_
        refine r_ict (by decide) ?_
        refine At.enter rfl ?_
        refine r_iload_n rfl ?_
        refine r_bipush 28 rfl ?_
        refine r_ict (by decide) ?_
        refine At.enter rfl ?_
        refine r_iload_n rfl ?_
        refine r_bipush 27 rfl ?_
        refine r_ict (by decide) ?_
        refine At.enter rfl ?_
        refine r_iload_n rfl ?_
        refine r_bipush 24 rfl ?_
        refine r_ict (by decide) ?_
        refine At.enter rfl ?_
        refine r_iload_n rfl ?_
        refine r_bipush 22 rfl ?_
        refine r_icf 56 rfl (by decide) ?_
        refine At.enter rfl ?_
        refine r_bipush 6 rfl ?_
        refine r_goto ?_
        refine At.enter rfl ?_
        refine q_ireti ?_
        refine At.enter rfl ?_
        have x4605 := HI.eqI hI2740 (p := 231) (b := 17) ((((hF2741.1 231 17 (by decide)).trans ((hF2727.1 231 17 (by decide)).trans (hF2713.1 231 17 (by decide)))).trans hv7))
        have x4606 := HI.eqI hI2740 (p := 231) (b := 23) ((((hF2741.1 231 23 (by decide)).trans ((hF2727.1 231 23 (by decide)).trans (hF2713.1 231 23 (by decide)))).trans hv8))
        have zv4607 : (6 : Int32).toInt = 6 := rfl
        refine r_callV 71 rfl [.ref 231, .int 6] [] (Nat.le_of_ble_eq_true rfl) rfl (T_X11_settle_231 _ hI2740 6 (by decide) (by omega)) ?_
        rintro _ _ ⟨g4608, rfl, hI4609, hF4610, rfl, hr4612⟩
        refine At.stn ?_
        have hF4613 := Fr.tr hF2744 hF4610 rfl rfl
        obtain ⟨sp4615, sq4616, sg4617⟩ := hr4612
        have sq4618 := SETQ.fr sq4616 (((hF2741.2.1 240 (by decide)).trans ((hF2727.2.1 240 (by decide)).trans (hF2713.2.1 240 (by decide))))) (((hF2741.1 231 23 (by decide)).trans ((hF2727.1 231 23 (by decide)).trans (hF2713.1 231 23 (by decide)))))
        have sg4619 := SETG_fr sg4617 (((hF2741.2.1 240 (by decide)).trans ((hF2727.2.1 240 (by decide)).trans (hF2713.2.1 240 (by decide))))) (((hF2741.2.1 241 (by decide)).trans ((hF2727.2.1 241 (by decide)).trans (hF2713.2.1 241 (by decide))))) (((hF2741.1 231 23 (by decide)).trans ((hF2727.1 231 23 (by decide)).trans (hF2713.1 231 23 (by decide))))) (SMG_mk (((hF2741.2.1 238 (by decide)).trans ((hF2727.2.1 238 (by decide)).trans (hF2713.2.1 238 (by decide))))) (((hF2741.2.1 239 (by decide)).trans ((hF2727.2.1 239 (by decide)).trans (hF2713.2.1 239 (by decide))))) (((hF2741.1 231 17 (by decide)).trans ((hF2727.1 231 17 (by decide)).trans (hF2713.1 231 17 (by decide))))))
        obtain ⟨v4622, hv4622⟩ : ∃ v, gI g4608 231 17 = v := ⟨_, rfl⟩
        have rv4622 := RgF.at hI4609.2.1 (p := 231) (b := 17) rfl
        rw [hv4622] at rv4622
        dsimp only at rv4622
        have tv4622 := congrArg Int32.toInt hv4622
        have x4623 := HI.eqI hI4609 (p := 231) (b := 17) (hv4622)
        obtain ⟨v4624, hv4624⟩ : ∃ v, gI g4608 231 23 = v := ⟨_, rfl⟩
        have rv4624 := RgF.at hI4609.2.1 (p := 231) (b := 23) rfl
        rw [hv4624] at rv4624
        dsimp only at rv4624
        have tv4624 := congrArg Int32.toInt hv4624
        have x4625 := HI.eqI hI4609 (p := 231) (b := 23) (hv4624)
        have y4626 : (gI _ 231 23).toInt ≤ (gI _ 231 23).toInt := sp4615.1
        have y4627 : (gI _ 231 17).toInt + (gI _ 231 23).toInt ≤ (gI _ 231 17).toInt + (gI _ 231 23).toInt := sp4615.2.1
        have pg4628 := PG.cong (hP.2.1 (by decide)) hI2740 (((hF2741.2.1 238 (by decide)).trans ((hF2727.2.1 238 (by decide)).trans (hF2713.2.1 238 (by decide))))) (((hF2741.2.1 239 (by decide)).trans ((hF2727.2.1 239 (by decide)).trans (hF2713.2.1 239 (by decide))))) (((hF2741.2.1 240 (by decide)).trans ((hF2727.2.1 240 (by decide)).trans (hF2713.2.1 240 (by decide))))) (((hF2741.2.1 241 (by decide)).trans ((hF2727.2.1 241 (by decide)).trans (hF2713.2.1 241 (by decide))))) (((hF2741.1 231 17 (by decide)).trans ((hF2727.1 231 17 (by decide)).trans (hF2713.1 231 17 (by decide))))) (((hF2741.1 231 23 (by decide)).trans ((hF2727.1 231 23 (by decide)).trans (hF2713.1 231 23 (by decide)))))
        have pg4629 := sp4615.2.2.1 _ _ _ pg4628
        refine At.enter rfl ?_
        refine r_aload_n rfl ?_
        refine r_iload_n rfl ?_
        refine r_iconst 0 rfl ?_
        have zv4631 : (22 : Int32).toInt = 22 := rfl
        have zv4632 : (0 : Int32).toInt = 0 := rfl
        refine r_callV 77 rfl [.ref 231, .int 22, .int 0] [] (Nat.le_of_ble_eq_true rfl) rfl (T_X11_push_231 _ hI4609 22 (by decide) 0 (by decide) (by omega)) ?_
        rintro _ _ ⟨g4633, rfl, hI4634, hF4635, rfl, hr4637⟩
        refine At.stn ?_
        have hF4638 := Fr.tr hF4613 hF4635 rfl rfl
        have x4643 := HI.eqI hI4634 (p := 231) (b := 17) (((hF4635.1 231 17 (by decide)).trans hv4622))
        obtain ⟨v4644, hv4644⟩ : ∃ v, gI g4633 231 23 = v := ⟨_, rfl⟩
        have rv4644 := RgF.at hI4634.2.1 (p := 231) (b := 23) rfl
        rw [hv4644] at rv4644
        dsimp only at rv4644
        have tv4644 := congrArg Int32.toInt hv4644
        have x4645 := HI.eqI hI4634 (p := 231) (b := 23) (hv4644)
        have y4646 : (gI _ 231 23).toInt = (gI _ 231 23).toInt + 1 := hr4637.1
        have pg4647 := PG.push (e' := 0) pg4629 hr4637 (hF4635.2.1 238 (by decide)) (hF4635.2.1 239 (by decide)) (hF4635.1 231 17 (by decide)) ⟨by omega, by omega⟩ (Or.inl (by omega)) (by omega) (by omega)
        refine At.enter rfl ?_
        refine r_aload_n rfl ?_
        have x4648 := HI.eqI hI4634 (p := 231) (b := 8) ((((hF4635.1 231 8 (by decide)).trans ((hF4610.1 231 8 (by decide)).trans ((hF2741.1 231 8 (by decide)).trans ((hF2727.1 231 8 (by decide)).trans (hF2713.1 231 8 (by decide)))))).trans hv1))
        have x4649 := HI.eqI hI4634 (p := 231) (b := 10) ((((hF4635.1 231 10 (by decide)).trans ((hF4610.1 231 10 (by decide)).trans ((hF2741.1 231 10 (by decide)).trans ((hF2727.1 231 10 (by decide)).trans (hF2713.1 231 10 (by decide)))))).trans hv3))
        refine r_callV 81 rfl [.ref 231] [] (Nat.le_of_ble_eq_true rfl) rfl (T_X11_next_231 _ hI4634 (by omega)) ?_
        rintro _ _ ⟨g4650, rfl, hI4651, hF4652, rfl, hr4654⟩
        refine At.stn ?_
        have hF4655 := Fr.tr hF4638 hF4652 rfl rfl
        have x4658 := HI.eqI hI4651 (p := 231) (b := 8) ((((hF4652.1 231 8 (by decide)).trans ((hF4635.1 231 8 (by decide)).trans ((hF4610.1 231 8 (by decide)).trans ((hF2741.1 231 8 (by decide)).trans ((hF2727.1 231 8 (by decide)).trans (hF2713.1 231 8 (by decide))))))).trans hv1))
        obtain ⟨v4659, hv4659⟩ : ∃ v, gI g4650 231 9 = v := ⟨_, rfl⟩
        have rv4659 := RgF.at hI4651.2.1 (p := 231) (b := 9) rfl
        rw [hv4659] at rv4659
        dsimp only at rv4659
        have tv4659 := congrArg Int32.toInt hv4659
        have x4660 := HI.eqI hI4651 (p := 231) (b := 9) (hv4659)
        obtain ⟨v4661, hv4661⟩ : ∃ v, gI g4650 231 10 = v := ⟨_, rfl⟩
        have rv4661 := RgF.at hI4651.2.1 (p := 231) (b := 10) rfl
        rw [hv4661] at rv4661
        dsimp only at rv4661
        have tv4661 := congrArg Int32.toInt hv4661
        have x4662 := HI.eqI hI4651 (p := 231) (b := 10) (hv4661)
        obtain ⟨v4663, hv4663⟩ : ∃ v, gI g4650 231 11 = v := ⟨_, rfl⟩
        have tv4663 := congrArg Int32.toInt hv4663
        have x4664 := HI.eqI hI4651 (p := 231) (b := 11) (hv4663)
        obtain ⟨c4665, c4666, c4667, c4668, c4669, c4670, c4671⟩ := hr4654
        have tok4672_ := c4671.2
        rw [TM.c (((hF4635.2.1 236 (by decide)).trans ((hF4610.2.1 236 (by decide)).trans ((hF2741.2.1 236 (by decide)).trans ((hF2727.2.1 236 (by decide)).trans (hF2713.2.1 236 (by decide))))))), nM.c (((hF4635.1 231 8 (by decide)).trans ((hF4610.1 231 8 (by decide)).trans ((hF2741.1 231 8 (by decide)).trans ((hF2727.1 231 8 (by decide)).trans (hF2713.1 231 8 (by decide))))))), pI.c (b := 10) (((hF4635.1 231 10 (by decide)).trans ((hF4610.1 231 10 (by decide)).trans ((hF2741.1 231 10 (by decide)).trans ((hF2727.1 231 10 (by decide)).trans (hF2713.1 231 10 (by decide)))))))] at tok4672_
        have tok4672 := TKM.tok hK tok4672_
        have hK4673 := c4671.1
        refine At.enter rfl ?_
        refine r_iconst 1 rfl ?_
        refine r_ireti ?_
        obtain ⟨v4678, hv4678⟩ : ∃ v, gJ g4650 231 12 = v := ⟨_, rfl⟩
        have x4679 := HI.eqJ hI4651 (b := 12) (hv4678)
        have x4680 := HI.eqI hI4651 (p := 231) (b := 14) ((((hF4652.1 231 14 (by decide)).trans ((hF4635.1 231 14 (by decide)).trans ((hF4610.1 231 14 (by decide)).trans ((hF2741.1 231 14 (by decide)).trans ((hF2727.1 231 14 (by decide)).trans (hF2713.1 231 14 (by decide))))))).trans hv6))
        have x4681 := HI.eqI hI4651 (p := 231) (b := 17) ((((hF4652.1 231 17 (by decide)).trans (hF4635.1 231 17 (by decide))).trans hv4622))
        have x4682 := HI.eqI hI4651 (p := 231) (b := 23) (((hF4652.1 231 23 (by decide)).trans hv4644))
        have x4683 := HI.eqI hI0 (p := 231) (b := 9) (hv2)
        have zv4684 : (1 : Int32).toInt = 1 := rfl
        have pg4685 := PG.cong pg4647 hI4651 ((hF4652.2.1 238 (by decide))) ((hF4652.2.1 239 (by decide))) ((hF4652.2.1 240 (by decide))) ((hF4652.2.1 241 (by decide))) ((hF4652.1 231 17 (by decide))) ((hF4652.1 231 23 (by decide)))
        obtain ⟨v4687, hv4687⟩ : ∃ v, gI g0 231 13 = v := ⟨_, rfl⟩
        have tv4687 := congrArg Int32.toInt hv4687
        have x4688 := HI.eqI hI4651 (p := 231) (b := 13) ((((hF4652.1 231 13 (by decide)).trans ((hF4635.1 231 13 (by decide)).trans ((hF4610.1 231 13 (by decide)).trans ((hF2741.1 231 13 (by decide)).trans ((hF2727.1 231 13 (by decide)).trans (hF2713.1 231 13 (by decide))))))).trans hv4687))
        obtain ⟨v4690, hv4690⟩ : ∃ v, gI g0 231 15 = v := ⟨_, rfl⟩
        have rv4690 := RgF.at hI0.2.1 (p := 231) (b := 15) rfl
        rw [hv4690] at rv4690
        dsimp only at rv4690
        have tv4690 := congrArg Int32.toInt hv4690
        have x4691 := HI.eqI hI4651 (p := 231) (b := 15) ((((hF4652.1 231 15 (by decide)).trans ((hF4635.1 231 15 (by decide)).trans ((hF4610.1 231 15 (by decide)).trans ((hF2741.1 231 15 (by decide)).trans ((hF2727.1 231 15 (by decide)).trans (hF2713.1 231 15 (by decide))))))).trans hv4690))
        obtain ⟨v4692, hv4692⟩ : ∃ v, gI g0 231 20 = v := ⟨_, rfl⟩
        have tv4692 := congrArg Int32.toInt hv4692
        have x4693 := HI.eqI hI4651 (p := 231) (b := 20) ((((hF4652.1 231 20 (by decide)).trans ((hF4635.1 231 20 (by decide)).trans ((hF4610.1 231 20 (by decide)).trans ((hF2741.1 231 20 (by decide)).trans ((hF2727.1 231 20 (by decide)).trans (hF2713.1 231 20 (by decide))))))).trans hv4692))
        obtain ⟨v4695, hv4695⟩ : ∃ v, gI g0 231 24 = v := ⟨_, rfl⟩
        have tv4695 := congrArg Int32.toInt hv4695
        have x4696 := HI.eqI hI4651 (p := 231) (b := 24) ((((hF4652.1 231 24 (by decide)).trans ((hF4635.1 231 24 (by decide)).trans ((hF4610.1 231 24 (by decide)).trans ((hF2741.1 231 24 (by decide)).trans ((hF2727.1 231 24 (by decide)).trans (hF2713.1 231 24 (by decide))))))).trans hv4695))
        have x4698 := HI.eqI hI0 (p := 231) (b := 13) (hv4687)
        have x4699 := HI.eqI hI0 (p := 231) (b := 14) (hv6)
        have x4700 := HI.eqI hI0 (p := 231) (b := 15) (hv4690)
        have x4701 := HI.eqI hI0 (p := 231) (b := 20) (hv4692)
        have x4702 := HI.eqI hI0 (p := 231) (b := 23) (hv8)
        have x4703 := HI.eqI hI0 (p := 231) (b := 24) (hv4695)
        have x4705 := HI.eqI hI4609 (p := 231) (b := 24) ((((hF4610.1 231 24 (by decide)).trans ((hF2741.1 231 24 (by decide)).trans ((hF2727.1 231 24 (by decide)).trans (hF2713.1 231 24 (by decide))))).trans hv4695))
        exact ⟨_, rfl, hI4651, hF4655, _, rfl, by decide, ⟨by omega, by omega, by omega, by omega, c4670, by omega, by omega, (fun hbad => ⟨by omega, (PT.mk (fun _ => pg4685) (fun h => False.elim (by omega)) (fun h h9 => False.elim (by omega)) (fun h => False.elim (by omega)))⟩), (fun hbad => by omega), hK4673, (fun c0 b hC h => M.join h tok4672 (by omega) sq4618 (by omega) (PUSH.fr2 hr4637 rfl rfl rfl ((hF4652.2.1 240 (by decide))) ((hF4652.2.1 241 (by decide))) ((hF4652.1 231 23 (by decide)))) (by omega) (pI.c (((hF4610.1 231 24 (by decide)).trans ((hF2741.1 231 24 (by decide)).trans ((hF2727.1 231 24 (by decide)).trans (hF2713.1 231 24 (by decide))))))) (show (gI _ 231 24).toInt = (gI g4608 231 24).toInt from by omega) (show (gI _ 231 20).toInt = (gI g0 231 20).toInt from by omega) (show (gI _ 231 15).toInt = (gI g0 231 15).toInt from by omega) (fun _ => ⟨show (gI _ 231 14).toInt = 0 from by omega, show (gI _ 231 13).toInt = (gI g0 231 13).toInt from by omega⟩) (fun z => absurd (show (gI g0 231 14).toInt = 0 from by omega) z)), (fun h14 c0 b K hC h => MG_join h tok4672 (by omega) sg4619 (by have l3 := lea_3 (CDM g0); omega) sq4618 (PUSH.fr2 hr4637 rfl rfl rfl ((hF4652.2.1 240 (by decide))) ((hF4652.2.1 241 (by decide))) ((hF4652.1 231 23 (by decide)))) (by omega) rfl (SMG_mk (((hF4652.2.1 238 (by decide)).trans (hF4635.2.1 238 (by decide)))) (((hF4652.2.1 239 (by decide)).trans (hF4635.2.1 239 (by decide)))) (((hF4652.1 231 17 (by decide)).trans (hF4635.1 231 17 (by decide))))) (by show 0 ≤ (gI g4608 231 17).toInt; omega))⟩⟩
    · have c2735_ : v2728.toInt ≠ 0 := en_k_eq_f c2735
      have i4708 := BL.yes hb2734 (by omega)
      refine At.enter rfl ?_
      refine r_bipush 21 rfl ?_
      refine r_goto ?_
      refine At.enter rfl ?_
      refine r_istore_n ([(2, .int 21), (0, .ref 231), (1, .int a1)]) rfl ?_
      refine r_iload_n rfl ?_
      refine r_iconst (-1) rfl ?_
      refine r_icf 63 rfl (by decide) ?_
      refine At.enter rfl ?_
      refine r_aload_n rfl ?_
      refine r_iload_n rfl ?_
      refine q_inlS 68 rfl [.int 21] [.ref 231] (Nat.le_of_ble_eq_true rfl) rfl ?_
      refine Ev.mk rfl rfl ⟨Nat.le_of_ble_eq_true rfl, Or.inl rfl⟩ ?_
      show At _ none _ _ (0, [(0, .int 21)], [], (_, _)) _
      refine At.enter rfl ?_
      refine r_iload_n rfl ?_
      refine r_bipush 30 rfl ?_
      refine r_ict (by decide) ?_
      refine At.enter rfl ?_
      refine r_iload_n rfl ?_
      refine r_bipush 29 rfl ?_
      refine r_ict (by decide) ?_
      refine At.enter rfl ?_
      refine r_iload_n rfl ?_
      refine r_bipush 28 rfl ?_
      refine r_ict (by decide) ?_
      refine At.enter rfl ?_
      refine r_iload_n rfl ?_
      refine r_bipush 27 rfl ?_
      refine r_ict (by decide) ?_
      refine At.enter rfl ?_
      refine r_iload_n rfl ?_
      refine r_bipush 24 rfl ?_
      refine r_ict (by decide) ?_
      refine At.enter rfl ?_
      refine r_iload_n rfl ?_
      refine r_bipush 22 rfl ?_
      refine r_ict (by decide) ?_
      refine At.enter rfl ?_
      refine r_iconst 5 rfl ?_
      refine Ar.fall 62 rfl ?_
      refine At.enter rfl ?_
      refine q_ireti ?_
      refine At.enter rfl ?_
      have x4709 := HI.eqI hI2726 (p := 231) (b := 17) ((((hF2727.1 231 17 (by decide)).trans (hF2713.1 231 17 (by decide))).trans hv7))
      have x4710 := HI.eqI hI2726 (p := 231) (b := 23) ((((hF2727.1 231 23 (by decide)).trans (hF2713.1 231 23 (by decide))).trans hv8))
      have zv4711 : (5 : Int32).toInt = 5 := rfl
      refine r_callV 71 rfl [.ref 231, .int 5] [] (Nat.le_of_ble_eq_true rfl) rfl (T_X11_settle_231 _ hI2726 5 (by decide) (by omega)) ?_
      rintro _ _ ⟨g4712, rfl, hI4713, hF4714, rfl, hr4716⟩
      refine At.stn ?_
      have hF4717 := Fr.tr hF2730 hF4714 rfl rfl
      obtain ⟨sp4719, sq4720, sg4721⟩ := hr4716
      have sq4722 := SETQ.fr sq4720 (((hF2727.2.1 240 (by decide)).trans (hF2713.2.1 240 (by decide)))) (((hF2727.1 231 23 (by decide)).trans (hF2713.1 231 23 (by decide))))
      have sg4723 := SETG_fr sg4721 (((hF2727.2.1 240 (by decide)).trans (hF2713.2.1 240 (by decide)))) (((hF2727.2.1 241 (by decide)).trans (hF2713.2.1 241 (by decide)))) (((hF2727.1 231 23 (by decide)).trans (hF2713.1 231 23 (by decide)))) (SMG_mk (((hF2727.2.1 238 (by decide)).trans (hF2713.2.1 238 (by decide)))) (((hF2727.2.1 239 (by decide)).trans (hF2713.2.1 239 (by decide)))) (((hF2727.1 231 17 (by decide)).trans (hF2713.1 231 17 (by decide)))))
      obtain ⟨v4726, hv4726⟩ : ∃ v, gI g4712 231 17 = v := ⟨_, rfl⟩
      have rv4726 := RgF.at hI4713.2.1 (p := 231) (b := 17) rfl
      rw [hv4726] at rv4726
      dsimp only at rv4726
      have tv4726 := congrArg Int32.toInt hv4726
      have x4727 := HI.eqI hI4713 (p := 231) (b := 17) (hv4726)
      obtain ⟨v4728, hv4728⟩ : ∃ v, gI g4712 231 23 = v := ⟨_, rfl⟩
      have rv4728 := RgF.at hI4713.2.1 (p := 231) (b := 23) rfl
      rw [hv4728] at rv4728
      dsimp only at rv4728
      have tv4728 := congrArg Int32.toInt hv4728
      have x4729 := HI.eqI hI4713 (p := 231) (b := 23) (hv4728)
      have y4730 : (gI _ 231 23).toInt ≤ (gI _ 231 23).toInt := sp4719.1
      have y4731 : (gI _ 231 17).toInt + (gI _ 231 23).toInt ≤ (gI _ 231 17).toInt + (gI _ 231 23).toInt := sp4719.2.1
      have pg4732 := PG.cong (hP.2.1 (by decide)) hI2726 (((hF2727.2.1 238 (by decide)).trans (hF2713.2.1 238 (by decide)))) (((hF2727.2.1 239 (by decide)).trans (hF2713.2.1 239 (by decide)))) (((hF2727.2.1 240 (by decide)).trans (hF2713.2.1 240 (by decide)))) (((hF2727.2.1 241 (by decide)).trans (hF2713.2.1 241 (by decide)))) (((hF2727.1 231 17 (by decide)).trans (hF2713.1 231 17 (by decide)))) (((hF2727.1 231 23 (by decide)).trans (hF2713.1 231 23 (by decide))))
      have pg4733 := sp4719.2.2.1 _ _ _ pg4732
      refine At.enter rfl ?_
      refine r_aload_n rfl ?_
      refine r_iload_n rfl ?_
      refine r_iconst 0 rfl ?_
      have zv4735 : (21 : Int32).toInt = 21 := rfl
      have zv4736 : (0 : Int32).toInt = 0 := rfl
      refine r_callV 77 rfl [.ref 231, .int 21, .int 0] [] (Nat.le_of_ble_eq_true rfl) rfl (T_X11_push_231 _ hI4713 21 (by decide) 0 (by decide) (by omega)) ?_
      rintro _ _ ⟨g4737, rfl, hI4738, hF4739, rfl, hr4741⟩
      refine At.stn ?_
      have hF4742 := Fr.tr hF4717 hF4739 rfl rfl
      have x4747 := HI.eqI hI4738 (p := 231) (b := 17) (((hF4739.1 231 17 (by decide)).trans hv4726))
      obtain ⟨v4748, hv4748⟩ : ∃ v, gI g4737 231 23 = v := ⟨_, rfl⟩
      have rv4748 := RgF.at hI4738.2.1 (p := 231) (b := 23) rfl
      rw [hv4748] at rv4748
      dsimp only at rv4748
      have tv4748 := congrArg Int32.toInt hv4748
      have x4749 := HI.eqI hI4738 (p := 231) (b := 23) (hv4748)
      have y4750 : (gI _ 231 23).toInt = (gI _ 231 23).toInt + 1 := hr4741.1
      have pg4751 := PG.push (e' := 0) pg4733 hr4741 (hF4739.2.1 238 (by decide)) (hF4739.2.1 239 (by decide)) (hF4739.1 231 17 (by decide)) ⟨by omega, by omega⟩ (Or.inl (by omega)) (by omega) (by omega)
      refine At.enter rfl ?_
      refine r_aload_n rfl ?_
      have x4752 := HI.eqI hI4738 (p := 231) (b := 8) ((((hF4739.1 231 8 (by decide)).trans ((hF4714.1 231 8 (by decide)).trans ((hF2727.1 231 8 (by decide)).trans (hF2713.1 231 8 (by decide))))).trans hv1))
      have x4753 := HI.eqI hI4738 (p := 231) (b := 10) ((((hF4739.1 231 10 (by decide)).trans ((hF4714.1 231 10 (by decide)).trans ((hF2727.1 231 10 (by decide)).trans (hF2713.1 231 10 (by decide))))).trans hv3))
      refine r_callV 81 rfl [.ref 231] [] (Nat.le_of_ble_eq_true rfl) rfl (T_X11_next_231 _ hI4738 (by omega)) ?_
      rintro _ _ ⟨g4754, rfl, hI4755, hF4756, rfl, hr4758⟩
      refine At.stn ?_
      have hF4759 := Fr.tr hF4742 hF4756 rfl rfl
      have x4762 := HI.eqI hI4755 (p := 231) (b := 8) ((((hF4756.1 231 8 (by decide)).trans ((hF4739.1 231 8 (by decide)).trans ((hF4714.1 231 8 (by decide)).trans ((hF2727.1 231 8 (by decide)).trans (hF2713.1 231 8 (by decide)))))).trans hv1))
      obtain ⟨v4763, hv4763⟩ : ∃ v, gI g4754 231 9 = v := ⟨_, rfl⟩
      have rv4763 := RgF.at hI4755.2.1 (p := 231) (b := 9) rfl
      rw [hv4763] at rv4763
      dsimp only at rv4763
      have tv4763 := congrArg Int32.toInt hv4763
      have x4764 := HI.eqI hI4755 (p := 231) (b := 9) (hv4763)
      obtain ⟨v4765, hv4765⟩ : ∃ v, gI g4754 231 10 = v := ⟨_, rfl⟩
      have rv4765 := RgF.at hI4755.2.1 (p := 231) (b := 10) rfl
      rw [hv4765] at rv4765
      dsimp only at rv4765
      have tv4765 := congrArg Int32.toInt hv4765
      have x4766 := HI.eqI hI4755 (p := 231) (b := 10) (hv4765)
      obtain ⟨v4767, hv4767⟩ : ∃ v, gI g4754 231 11 = v := ⟨_, rfl⟩
      have tv4767 := congrArg Int32.toInt hv4767
      have x4768 := HI.eqI hI4755 (p := 231) (b := 11) (hv4767)
      obtain ⟨c4769, c4770, c4771, c4772, c4773, c4774, c4775⟩ := hr4758
      have tok4776_ := c4775.2
      rw [TM.c (((hF4739.2.1 236 (by decide)).trans ((hF4714.2.1 236 (by decide)).trans ((hF2727.2.1 236 (by decide)).trans (hF2713.2.1 236 (by decide)))))), nM.c (((hF4739.1 231 8 (by decide)).trans ((hF4714.1 231 8 (by decide)).trans ((hF2727.1 231 8 (by decide)).trans (hF2713.1 231 8 (by decide)))))), pI.c (b := 10) (((hF4739.1 231 10 (by decide)).trans ((hF4714.1 231 10 (by decide)).trans ((hF2727.1 231 10 (by decide)).trans (hF2713.1 231 10 (by decide))))))] at tok4776_
      have tok4776 := TKM.tok hK tok4776_
      have hK4777 := c4775.1
      refine At.enter rfl ?_
      refine r_iconst 1 rfl ?_
      refine r_ireti ?_
      obtain ⟨v4782, hv4782⟩ : ∃ v, gJ g4754 231 12 = v := ⟨_, rfl⟩
      have x4783 := HI.eqJ hI4755 (b := 12) (hv4782)
      have x4784 := HI.eqI hI4755 (p := 231) (b := 14) ((((hF4756.1 231 14 (by decide)).trans ((hF4739.1 231 14 (by decide)).trans ((hF4714.1 231 14 (by decide)).trans ((hF2727.1 231 14 (by decide)).trans (hF2713.1 231 14 (by decide)))))).trans hv6))
      have x4785 := HI.eqI hI4755 (p := 231) (b := 17) ((((hF4756.1 231 17 (by decide)).trans (hF4739.1 231 17 (by decide))).trans hv4726))
      have x4786 := HI.eqI hI4755 (p := 231) (b := 23) (((hF4756.1 231 23 (by decide)).trans hv4748))
      have x4787 := HI.eqI hI0 (p := 231) (b := 9) (hv2)
      have zv4788 : (1 : Int32).toInt = 1 := rfl
      have pg4789 := PG.cong pg4751 hI4755 ((hF4756.2.1 238 (by decide))) ((hF4756.2.1 239 (by decide))) ((hF4756.2.1 240 (by decide))) ((hF4756.2.1 241 (by decide))) ((hF4756.1 231 17 (by decide))) ((hF4756.1 231 23 (by decide)))
      obtain ⟨v4791, hv4791⟩ : ∃ v, gI g0 231 13 = v := ⟨_, rfl⟩
      have tv4791 := congrArg Int32.toInt hv4791
      have x4792 := HI.eqI hI4755 (p := 231) (b := 13) ((((hF4756.1 231 13 (by decide)).trans ((hF4739.1 231 13 (by decide)).trans ((hF4714.1 231 13 (by decide)).trans ((hF2727.1 231 13 (by decide)).trans (hF2713.1 231 13 (by decide)))))).trans hv4791))
      obtain ⟨v4794, hv4794⟩ : ∃ v, gI g0 231 15 = v := ⟨_, rfl⟩
      have rv4794 := RgF.at hI0.2.1 (p := 231) (b := 15) rfl
      rw [hv4794] at rv4794
      dsimp only at rv4794
      have tv4794 := congrArg Int32.toInt hv4794
      have x4795 := HI.eqI hI4755 (p := 231) (b := 15) ((((hF4756.1 231 15 (by decide)).trans ((hF4739.1 231 15 (by decide)).trans ((hF4714.1 231 15 (by decide)).trans ((hF2727.1 231 15 (by decide)).trans (hF2713.1 231 15 (by decide)))))).trans hv4794))
      obtain ⟨v4796, hv4796⟩ : ∃ v, gI g0 231 20 = v := ⟨_, rfl⟩
      have tv4796 := congrArg Int32.toInt hv4796
      have x4797 := HI.eqI hI4755 (p := 231) (b := 20) ((((hF4756.1 231 20 (by decide)).trans ((hF4739.1 231 20 (by decide)).trans ((hF4714.1 231 20 (by decide)).trans ((hF2727.1 231 20 (by decide)).trans (hF2713.1 231 20 (by decide)))))).trans hv4796))
      obtain ⟨v4799, hv4799⟩ : ∃ v, gI g0 231 24 = v := ⟨_, rfl⟩
      have tv4799 := congrArg Int32.toInt hv4799
      have x4800 := HI.eqI hI4755 (p := 231) (b := 24) ((((hF4756.1 231 24 (by decide)).trans ((hF4739.1 231 24 (by decide)).trans ((hF4714.1 231 24 (by decide)).trans ((hF2727.1 231 24 (by decide)).trans (hF2713.1 231 24 (by decide)))))).trans hv4799))
      have x4802 := HI.eqI hI0 (p := 231) (b := 13) (hv4791)
      have x4803 := HI.eqI hI0 (p := 231) (b := 14) (hv6)
      have x4804 := HI.eqI hI0 (p := 231) (b := 15) (hv4794)
      have x4805 := HI.eqI hI0 (p := 231) (b := 20) (hv4796)
      have x4806 := HI.eqI hI0 (p := 231) (b := 23) (hv8)
      have x4807 := HI.eqI hI0 (p := 231) (b := 24) (hv4799)
      have x4809 := HI.eqI hI4713 (p := 231) (b := 24) ((((hF4714.1 231 24 (by decide)).trans ((hF2727.1 231 24 (by decide)).trans (hF2713.1 231 24 (by decide)))).trans hv4799))
      exact ⟨_, rfl, hI4755, hF4759, _, rfl, by decide, ⟨by omega, by omega, by omega, by omega, c4774, by omega, by omega, (fun hbad => ⟨by omega, (PT.mk (fun _ => pg4789) (fun h => False.elim (by omega)) (fun h h9 => False.elim (by omega)) (fun h => False.elim (by omega)))⟩), (fun hbad => by omega), hK4777, (fun c0 b hC h => M.join h tok4776 (by omega) sq4722 (by omega) (PUSH.fr2 hr4741 rfl rfl rfl ((hF4756.2.1 240 (by decide))) ((hF4756.2.1 241 (by decide))) ((hF4756.1 231 23 (by decide)))) (by omega) (pI.c (((hF4714.1 231 24 (by decide)).trans ((hF2727.1 231 24 (by decide)).trans (hF2713.1 231 24 (by decide)))))) (show (gI _ 231 24).toInt = (gI g4712 231 24).toInt from by omega) (show (gI _ 231 20).toInt = (gI g0 231 20).toInt from by omega) (show (gI _ 231 15).toInt = (gI g0 231 15).toInt from by omega) (fun _ => ⟨show (gI _ 231 14).toInt = 0 from by omega, show (gI _ 231 13).toInt = (gI g0 231 13).toInt from by omega⟩) (fun z => absurd (show (gI g0 231 14).toInt = 0 from by omega) z)), (fun h14 c0 b K hC h => MG_join h tok4776 (by omega) sg4723 (by have l3 := lea_3 (CDM g0); omega) sq4722 (PUSH.fr2 hr4741 rfl rfl rfl ((hF4756.2.1 240 (by decide))) ((hF4756.2.1 241 (by decide))) ((hF4756.1 231 23 (by decide)))) (by omega) rfl (SMG_mk (((hF4756.2.1 238 (by decide)).trans (hF4739.2.1 238 (by decide)))) (((hF4756.2.1 239 (by decide)).trans (hF4739.2.1 239 (by decide)))) (((hF4756.1 231 17 (by decide)).trans (hF4739.1 231 17 (by decide))))) (by show 0 ≤ (gI g4712 231 17).toInt; omega))⟩⟩
  · have c2721_ : v2714.toInt ≠ 0 := en_k_eq_f c2721
    have i4812 := BL.yes hb2720 (by omega)
    refine At.enter rfl ?_
    refine r_bipush 20 rfl ?_
    refine r_goto ?_
    refine At.enter rfl ?_
    refine r_istore_n ([(2, .int 20), (0, .ref 231), (1, .int a1)]) rfl ?_
    refine r_iload_n rfl ?_
    refine r_iconst (-1) rfl ?_
    refine r_icf 63 rfl (by decide) ?_
    refine At.enter rfl ?_
    refine r_aload_n rfl ?_
    refine r_iload_n rfl ?_
    refine q_inlS 68 rfl [.int 20] [.ref 231] (Nat.le_of_ble_eq_true rfl) rfl ?_
    refine Ev.mk rfl rfl ⟨Nat.le_of_ble_eq_true rfl, Or.inl rfl⟩ ?_
    show At _ none _ _ (0, [(0, .int 20)], [], (_, _)) _
    refine At.enter rfl ?_
    refine r_iload_n rfl ?_
    refine r_bipush 30 rfl ?_
    refine r_ict (by decide) ?_
    refine At.enter rfl ?_
    refine r_iload_n rfl ?_
    refine r_bipush 29 rfl ?_
    refine r_ict (by decide) ?_
    refine At.enter rfl ?_
    refine r_iload_n rfl ?_
    refine r_bipush 28 rfl ?_
    refine r_ict (by decide) ?_
    refine At.enter rfl ?_
    refine r_iload_n rfl ?_
    refine r_bipush 27 rfl ?_
    refine r_ict (by decide) ?_
    refine At.enter rfl ?_
    refine r_iload_n rfl ?_
    refine r_bipush 24 rfl ?_
    refine r_ict (by decide) ?_
    refine At.enter rfl ?_
    refine r_iload_n rfl ?_
    refine r_bipush 22 rfl ?_
    refine r_ict (by decide) ?_
    refine At.enter rfl ?_
    refine r_iconst 5 rfl ?_
    refine Ar.fall 62 rfl ?_
    refine At.enter rfl ?_
    refine q_ireti ?_
    refine At.enter rfl ?_
    have x4813 := HI.eqI hI2712 (p := 231) (b := 17) (((hF2713.1 231 17 (by decide)).trans hv7))
    have x4814 := HI.eqI hI2712 (p := 231) (b := 23) (((hF2713.1 231 23 (by decide)).trans hv8))
    have zv4815 : (5 : Int32).toInt = 5 := rfl
    refine r_callV 71 rfl [.ref 231, .int 5] [] (Nat.le_of_ble_eq_true rfl) rfl (T_X11_settle_231 _ hI2712 5 (by decide) (by omega)) ?_
    rintro _ _ ⟨g4816, rfl, hI4817, hF4818, rfl, hr4820⟩
    refine At.stn ?_
    have hF4821 := Fr.tr hF2716 hF4818 rfl rfl
    obtain ⟨sp4823, sq4824, sg4825⟩ := hr4820
    have sq4826 := SETQ.fr sq4824 ((hF2713.2.1 240 (by decide))) ((hF2713.1 231 23 (by decide)))
    have sg4827 := SETG_fr sg4825 ((hF2713.2.1 240 (by decide))) ((hF2713.2.1 241 (by decide))) ((hF2713.1 231 23 (by decide))) (SMG_mk ((hF2713.2.1 238 (by decide))) ((hF2713.2.1 239 (by decide))) ((hF2713.1 231 17 (by decide))))
    obtain ⟨v4830, hv4830⟩ : ∃ v, gI g4816 231 17 = v := ⟨_, rfl⟩
    have rv4830 := RgF.at hI4817.2.1 (p := 231) (b := 17) rfl
    rw [hv4830] at rv4830
    dsimp only at rv4830
    have tv4830 := congrArg Int32.toInt hv4830
    have x4831 := HI.eqI hI4817 (p := 231) (b := 17) (hv4830)
    obtain ⟨v4832, hv4832⟩ : ∃ v, gI g4816 231 23 = v := ⟨_, rfl⟩
    have rv4832 := RgF.at hI4817.2.1 (p := 231) (b := 23) rfl
    rw [hv4832] at rv4832
    dsimp only at rv4832
    have tv4832 := congrArg Int32.toInt hv4832
    have x4833 := HI.eqI hI4817 (p := 231) (b := 23) (hv4832)
    have y4834 : (gI _ 231 23).toInt ≤ (gI _ 231 23).toInt := sp4823.1
    have y4835 : (gI _ 231 17).toInt + (gI _ 231 23).toInt ≤ (gI _ 231 17).toInt + (gI _ 231 23).toInt := sp4823.2.1
    have pg4836 := PG.cong (hP.2.1 (by decide)) hI2712 ((hF2713.2.1 238 (by decide))) ((hF2713.2.1 239 (by decide))) ((hF2713.2.1 240 (by decide))) ((hF2713.2.1 241 (by decide))) ((hF2713.1 231 17 (by decide))) ((hF2713.1 231 23 (by decide)))
    have pg4837 := sp4823.2.2.1 _ _ _ pg4836
    refine At.enter rfl ?_
    refine r_aload_n rfl ?_
    refine r_iload_n rfl ?_
    refine r_iconst 0 rfl ?_
    have zv4839 : (20 : Int32).toInt = 20 := rfl
    have zv4840 : (0 : Int32).toInt = 0 := rfl
    refine r_callV 77 rfl [.ref 231, .int 20, .int 0] [] (Nat.le_of_ble_eq_true rfl) rfl (T_X11_push_231 _ hI4817 20 (by decide) 0 (by decide) (by omega)) ?_
    rintro _ _ ⟨g4841, rfl, hI4842, hF4843, rfl, hr4845⟩
    refine At.stn ?_
    have hF4846 := Fr.tr hF4821 hF4843 rfl rfl
    have x4851 := HI.eqI hI4842 (p := 231) (b := 17) (((hF4843.1 231 17 (by decide)).trans hv4830))
    obtain ⟨v4852, hv4852⟩ : ∃ v, gI g4841 231 23 = v := ⟨_, rfl⟩
    have rv4852 := RgF.at hI4842.2.1 (p := 231) (b := 23) rfl
    rw [hv4852] at rv4852
    dsimp only at rv4852
    have tv4852 := congrArg Int32.toInt hv4852
    have x4853 := HI.eqI hI4842 (p := 231) (b := 23) (hv4852)
    have y4854 : (gI _ 231 23).toInt = (gI _ 231 23).toInt + 1 := hr4845.1
    have pg4855 := PG.push (e' := 0) pg4837 hr4845 (hF4843.2.1 238 (by decide)) (hF4843.2.1 239 (by decide)) (hF4843.1 231 17 (by decide)) ⟨by omega, by omega⟩ (Or.inl (by omega)) (by omega) (by omega)
    refine At.enter rfl ?_
    refine r_aload_n rfl ?_
    have x4856 := HI.eqI hI4842 (p := 231) (b := 8) ((((hF4843.1 231 8 (by decide)).trans ((hF4818.1 231 8 (by decide)).trans (hF2713.1 231 8 (by decide)))).trans hv1))
    have x4857 := HI.eqI hI4842 (p := 231) (b := 10) ((((hF4843.1 231 10 (by decide)).trans ((hF4818.1 231 10 (by decide)).trans (hF2713.1 231 10 (by decide)))).trans hv3))
    refine r_callV 81 rfl [.ref 231] [] (Nat.le_of_ble_eq_true rfl) rfl (T_X11_next_231 _ hI4842 (by omega)) ?_
    rintro _ _ ⟨g4858, rfl, hI4859, hF4860, rfl, hr4862⟩
    refine At.stn ?_
    have hF4863 := Fr.tr hF4846 hF4860 rfl rfl
    have x4866 := HI.eqI hI4859 (p := 231) (b := 8) ((((hF4860.1 231 8 (by decide)).trans ((hF4843.1 231 8 (by decide)).trans ((hF4818.1 231 8 (by decide)).trans (hF2713.1 231 8 (by decide))))).trans hv1))
    obtain ⟨v4867, hv4867⟩ : ∃ v, gI g4858 231 9 = v := ⟨_, rfl⟩
    have rv4867 := RgF.at hI4859.2.1 (p := 231) (b := 9) rfl
    rw [hv4867] at rv4867
    dsimp only at rv4867
    have tv4867 := congrArg Int32.toInt hv4867
    have x4868 := HI.eqI hI4859 (p := 231) (b := 9) (hv4867)
    obtain ⟨v4869, hv4869⟩ : ∃ v, gI g4858 231 10 = v := ⟨_, rfl⟩
    have rv4869 := RgF.at hI4859.2.1 (p := 231) (b := 10) rfl
    rw [hv4869] at rv4869
    dsimp only at rv4869
    have tv4869 := congrArg Int32.toInt hv4869
    have x4870 := HI.eqI hI4859 (p := 231) (b := 10) (hv4869)
    obtain ⟨v4871, hv4871⟩ : ∃ v, gI g4858 231 11 = v := ⟨_, rfl⟩
    have tv4871 := congrArg Int32.toInt hv4871
    have x4872 := HI.eqI hI4859 (p := 231) (b := 11) (hv4871)
    obtain ⟨c4873, c4874, c4875, c4876, c4877, c4878, c4879⟩ := hr4862
    have tok4880_ := c4879.2
    rw [TM.c (((hF4843.2.1 236 (by decide)).trans ((hF4818.2.1 236 (by decide)).trans (hF2713.2.1 236 (by decide))))), nM.c (((hF4843.1 231 8 (by decide)).trans ((hF4818.1 231 8 (by decide)).trans (hF2713.1 231 8 (by decide))))), pI.c (b := 10) (((hF4843.1 231 10 (by decide)).trans ((hF4818.1 231 10 (by decide)).trans (hF2713.1 231 10 (by decide)))))] at tok4880_
    have tok4880 := TKM.tok hK tok4880_
    have hK4881 := c4879.1
    refine At.enter rfl ?_
    refine r_iconst 1 rfl ?_
    refine r_ireti ?_
    obtain ⟨v4886, hv4886⟩ : ∃ v, gJ g4858 231 12 = v := ⟨_, rfl⟩
    have x4887 := HI.eqJ hI4859 (b := 12) (hv4886)
    have x4888 := HI.eqI hI4859 (p := 231) (b := 14) ((((hF4860.1 231 14 (by decide)).trans ((hF4843.1 231 14 (by decide)).trans ((hF4818.1 231 14 (by decide)).trans (hF2713.1 231 14 (by decide))))).trans hv6))
    have x4889 := HI.eqI hI4859 (p := 231) (b := 17) ((((hF4860.1 231 17 (by decide)).trans (hF4843.1 231 17 (by decide))).trans hv4830))
    have x4890 := HI.eqI hI4859 (p := 231) (b := 23) (((hF4860.1 231 23 (by decide)).trans hv4852))
    have x4891 := HI.eqI hI0 (p := 231) (b := 9) (hv2)
    have zv4892 : (1 : Int32).toInt = 1 := rfl
    have pg4893 := PG.cong pg4855 hI4859 ((hF4860.2.1 238 (by decide))) ((hF4860.2.1 239 (by decide))) ((hF4860.2.1 240 (by decide))) ((hF4860.2.1 241 (by decide))) ((hF4860.1 231 17 (by decide))) ((hF4860.1 231 23 (by decide)))
    obtain ⟨v4895, hv4895⟩ : ∃ v, gI g0 231 13 = v := ⟨_, rfl⟩
    have tv4895 := congrArg Int32.toInt hv4895
    have x4896 := HI.eqI hI4859 (p := 231) (b := 13) ((((hF4860.1 231 13 (by decide)).trans ((hF4843.1 231 13 (by decide)).trans ((hF4818.1 231 13 (by decide)).trans (hF2713.1 231 13 (by decide))))).trans hv4895))
    obtain ⟨v4898, hv4898⟩ : ∃ v, gI g0 231 15 = v := ⟨_, rfl⟩
    have rv4898 := RgF.at hI0.2.1 (p := 231) (b := 15) rfl
    rw [hv4898] at rv4898
    dsimp only at rv4898
    have tv4898 := congrArg Int32.toInt hv4898
    have x4899 := HI.eqI hI4859 (p := 231) (b := 15) ((((hF4860.1 231 15 (by decide)).trans ((hF4843.1 231 15 (by decide)).trans ((hF4818.1 231 15 (by decide)).trans (hF2713.1 231 15 (by decide))))).trans hv4898))
    obtain ⟨v4900, hv4900⟩ : ∃ v, gI g0 231 20 = v := ⟨_, rfl⟩
    have tv4900 := congrArg Int32.toInt hv4900
    have x4901 := HI.eqI hI4859 (p := 231) (b := 20) ((((hF4860.1 231 20 (by decide)).trans ((hF4843.1 231 20 (by decide)).trans ((hF4818.1 231 20 (by decide)).trans (hF2713.1 231 20 (by decide))))).trans hv4900))
    obtain ⟨v4903, hv4903⟩ : ∃ v, gI g0 231 24 = v := ⟨_, rfl⟩
    have tv4903 := congrArg Int32.toInt hv4903
    have x4904 := HI.eqI hI4859 (p := 231) (b := 24) ((((hF4860.1 231 24 (by decide)).trans ((hF4843.1 231 24 (by decide)).trans ((hF4818.1 231 24 (by decide)).trans (hF2713.1 231 24 (by decide))))).trans hv4903))
    have x4906 := HI.eqI hI0 (p := 231) (b := 13) (hv4895)
    have x4907 := HI.eqI hI0 (p := 231) (b := 14) (hv6)
    have x4908 := HI.eqI hI0 (p := 231) (b := 15) (hv4898)
    have x4909 := HI.eqI hI0 (p := 231) (b := 20) (hv4900)
    have x4910 := HI.eqI hI0 (p := 231) (b := 23) (hv8)
    have x4911 := HI.eqI hI0 (p := 231) (b := 24) (hv4903)
    have x4913 := HI.eqI hI4817 (p := 231) (b := 24) ((((hF4818.1 231 24 (by decide)).trans (hF2713.1 231 24 (by decide))).trans hv4903))
    exact ⟨_, rfl, hI4859, hF4863, _, rfl, by decide, ⟨by omega, by omega, by omega, by omega, c4878, by omega, by omega, (fun hbad => ⟨by omega, (PT.mk (fun _ => pg4893) (fun h => False.elim (by omega)) (fun h h9 => False.elim (by omega)) (fun h => False.elim (by omega)))⟩), (fun hbad => by omega), hK4881, (fun c0 b hC h => M.join h tok4880 (by omega) sq4826 (by omega) (PUSH.fr2 hr4845 rfl rfl rfl ((hF4860.2.1 240 (by decide))) ((hF4860.2.1 241 (by decide))) ((hF4860.1 231 23 (by decide)))) (by omega) (pI.c (((hF4818.1 231 24 (by decide)).trans (hF2713.1 231 24 (by decide))))) (show (gI _ 231 24).toInt = (gI g4816 231 24).toInt from by omega) (show (gI _ 231 20).toInt = (gI g0 231 20).toInt from by omega) (show (gI _ 231 15).toInt = (gI g0 231 15).toInt from by omega) (fun _ => ⟨show (gI _ 231 14).toInt = 0 from by omega, show (gI _ 231 13).toInt = (gI g0 231 13).toInt from by omega⟩) (fun z => absurd (show (gI g0 231 14).toInt = 0 from by omega) z)), (fun h14 c0 b K hC h => MG_join h tok4880 (by omega) sg4827 (by have l3 := lea_3 (CDM g0); omega) sq4826 (PUSH.fr2 hr4845 rfl rfl rfl ((hF4860.2.1 240 (by decide))) ((hF4860.2.1 241 (by decide))) ((hF4860.1 231 23 (by decide)))) (by omega) rfl (SMG_mk (((hF4860.2.1 238 (by decide)).trans (hF4843.2.1 238 (by decide)))) (((hF4860.2.1 239 (by decide)).trans (hF4843.2.1 239 (by decide)))) (((hF4860.1 231 17 (by decide)).trans (hF4843.1 231 17 (by decide))))) (by show 0 ≤ (gI g4816 231 17).toInt; omega))⟩⟩
