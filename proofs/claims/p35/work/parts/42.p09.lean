def F_X11_readClause_231 : List (Nat × Nat) := [(231, 9), (231, 10), (231, 11), (231, 12), (231, 13), (231, 14), (231, 15), (231, 17), (231, 20), (231, 23), (231, 24)]
def A_X11_readClause_231 : List Nat := [237, 238, 239, 240, 241]
set_option maxRecDepth 100000 in
set_option maxHeartbeats 4000000 in
theorem T_X11_readClause_231 (d : Nat) {N : Nat} {g0 : List en_E} (hI0 : HI g0) (h1 : ((gI g0 231 9).toInt ≤ (gI g0 231 10).toInt ∧ (gI g0 231 10).toInt ≤ (gI g0 231 8).toInt ∧ 0 ≤ (gI g0 231 11).toInt ∧ (gI g0 231 11).toInt ≤ 3 * ((gI g0 231 10).toInt - (gI g0 231 9).toInt))) (h2 : (gI g0 231 14).toInt = 0) (h3 : (gI g0 231 17).toInt ≤ (gI g0 231 9).toInt) (hW : W26 g0) (hC : CLS g0 (gI g0 231 15).toInt (gI g0 231 17).toInt) : Ev (d + 8) 209 [.ref 231] (g0, N) (fun w h' => ∃ g', h' = (g', N) ∧ HI g' ∧ Fr F_X11_readClause_231 A_X11_readClause_231 g0 g' ∧ w = none ∧ ((gI g' 231 9).toInt ≤ (gI g' 231 10).toInt ∧ (gI g' 231 10).toInt ≤ (gI g' 231 8).toInt ∧ 0 ≤ (gI g' 231 11).toInt ∧ (gI g' 231 11).toInt ≤ 3 * ((gI g' 231 10).toInt - (gI g' 231 9).toInt) ∧ W26 g' ∧ (gI g0 231 9).toInt ≤ (gI g' 231 9).toInt ∧ CLZ g')) := by
  have hF0 : Fr F_X11_readClause_231 A_X11_readClause_231 g0 g0 := Fr.rf
  obtain ⟨v1, hv1⟩ : ∃ v, gI g0 231 8 = v := ⟨_, rfl⟩
  have rv1 := RgF.at hI0.2.1 (p := 231) (b := 8) rfl
  rw [hv1] at rv1
  dsimp only at rv1
  have tv1 := congrArg Int32.toInt hv1
  obtain ⟨v2, hv2⟩ : ∃ v, gI g0 231 9 = v := ⟨_, rfl⟩
  have rv2 := RgF.at hI0.2.1 (p := 231) (b := 9) rfl
  rw [hv2] at rv2
  dsimp only at rv2
  have tv2 := congrArg Int32.toInt hv2
  obtain ⟨v3, hv3⟩ : ∃ v, gI g0 231 10 = v := ⟨_, rfl⟩
  have rv3 := RgF.at hI0.2.1 (p := 231) (b := 10) rfl
  rw [hv3] at rv3
  dsimp only at rv3
  have tv3 := congrArg Int32.toInt hv3
  obtain ⟨v4, hv4⟩ : ∃ v, gI g0 231 11 = v := ⟨_, rfl⟩
  have tv4 := congrArg Int32.toInt hv4
  obtain ⟨v5, hv5⟩ : ∃ v, gI g0 231 14 = v := ⟨_, rfl⟩
  have tv5 := congrArg Int32.toInt hv5
  obtain ⟨v6, hv6⟩ : ∃ v, gI g0 231 15 = v := ⟨_, rfl⟩
  have rv6 := RgF.at hI0.2.1 (p := 231) (b := 15) rfl
  rw [hv6] at rv6
  dsimp only at rv6
  have tv6 := congrArg Int32.toInt hv6
  obtain ⟨v7, hv7⟩ : ∃ v, gI g0 231 17 = v := ⟨_, rfl⟩
  have rv7 := RgF.at hI0.2.1 (p := 231) (b := 17) rfl
  rw [hv7] at rv7
  dsimp only at rv7
  have tv7 := congrArg Int32.toInt hv7
  refine Ev.mk rfl rfl ⟨Nat.le_of_ble_eq_true rfl, Or.inr (q_rc hI0.1 kx_231 rfl)⟩ ?_
  show At _ none _ _ (0, [(0, .ref 231)], [], (_, _)) _
  refine At.enter rfl ?_
  refine r_iconst (-1) rfl ?_
  refine r_istore_n ([(1, .int (-1)), (0, .ref 231)]) rfl ?_
  refine r_iconst 0 rfl ?_
  refine r_istore_n ([(2, .int 0), (1, .int (-1)), (0, .ref 231)]) rfl ?_
  refine Ar.fall 4 rfl ?_
  have z_13746 : ((-1) : Int32).toInt = (-1) := rfl
  have z_13747 : (0 : Int32).toInt = 0 := rfl
  refine w_loopI (fun n_ l_ g_ => ∃ x13732 : Int32, ∃ x13733 : Int32, n_ = 3 - x13733.toInt ∧ HI g_ ∧ Fr F_X11_readClause_231 A_X11_readClause_231 g0 g_ ∧ en_get 0 l_ = some (.ref 231) ∧ en_get 1 l_ = some (.int x13732) ∧ en_get 2 l_ = some (.int x13733) ∧ ((-1) ≤ x13732.toInt ∧ x13732.toInt ≤ 2) ∧ (0 ≤ x13733.toInt ∧ x13733.toInt ≤ 3) ∧ (Fr [] [] g0 g_)) ?_ (3 - 0) ⟨(-1), 0, by first | rfl | omega, hI0, hF0, rfl, rfl, rfl, by decide, by decide, Fr.rf⟩
  rintro n13738 l13737 g13734 ⟨x13732, x13733, hm13748, hI13735, hF13736, e13740, e13741, e13742, r13743, r13744, q13745⟩ ih13739
  refine At.enter rfl ?_
  refine r_iload_n e13742 ?_
  refine r_iconst 3 rfl ?_
  refine r_ics 9 rfl (fun c13749 => ?_) (fun c13749 => ?_)
  · have c13749_ : x13733.toInt ≥ 3 := en_i_ge_t c13749
    refine At.enter rfl ?_
    refine r_aload_n e13740 ?_
    refine r_iload_n e13741 ?_
    refine r_iconst (-1) rfl ?_
    refine r_ics 40 rfl (fun c13750 => ?_) (fun c13750 => ?_)
    · have c13750_ : x13732.toInt = (-1) := en_i_eq_t c13750
      refine At.enter rfl ?_
      refine r_iconst 0 rfl ?_
      refine Ar.fall 54 rfl ?_
      refine At.enter rfl ?_
      have x13751 := HI.eqI hI13735 (p := 231) (b := 8) (((q13745.1 231 8 (by decide)).trans hv1))
      have x13752 := HI.eqI hI13735 (p := 231) (b := 9) (((q13745.1 231 9 (by decide)).trans hv2))
      have x13753 := HI.eqI hI13735 (p := 231) (b := 10) (((q13745.1 231 10 (by decide)).trans hv3))
      have x13754 := HI.eqI hI13735 (p := 231) (b := 11) (((q13745.1 231 11 (by decide)).trans hv4))
      have w2613755 := W26.cong hW hI13735 ((q13745.1 231 9 (by decide))) ((q13745.1 231 10 (by decide))) ((q13745.1 231 11 (by decide))) ((q13745.2.2 231 12 (by decide)))
      have zv13756 : (0 : Int32).toInt = 0 := rfl
      refine r_callV 57 rfl [.ref 231, .int 0] [] (Nat.le_of_ble_eq_true rfl) rfl (T_X11_must_231 _ hI13735 0 (by decide) (by refine ⟨?_, ?_, ?_, ?_⟩ <;> omega) w2613755) ?_
      rintro _ _ ⟨g13757, rfl, hI13758, hF13759, rfl, hr13761⟩
      refine At.stn ?_
      have hF13762 := Fr.tr hF13736 hF13759 rfl rfl
      have zv13763 : (0 : Int32).toInt = 0 := rfl
      have x13764 := HI.eqI hI13735 (p := 231) (b := 8) (((q13745.1 231 8 (by decide)).trans hv1))
      have x13765 := HI.eqI hI13735 (p := 231) (b := 9) (((q13745.1 231 9 (by decide)).trans hv2))
      have x13766 := HI.eqI hI13735 (p := 231) (b := 10) (((q13745.1 231 10 (by decide)).trans hv3))
      have x13767 := HI.eqI hI13735 (p := 231) (b := 11) (((q13745.1 231 11 (by decide)).trans hv4))
      have x13768 := HI.eqI hI13735 (p := 231) (b := 14) (((q13745.1 231 14 (by decide)).trans hv5))
      have x13769 := HI.eqI hI13758 (p := 231) (b := 8) ((((hF13759.1 231 8 (by decide)).trans (q13745.1 231 8 (by decide))).trans hv1))
      obtain ⟨v13770, hv13770⟩ : ∃ v, gI g13757 231 9 = v := ⟨_, rfl⟩
      have rv13770 := RgF.at hI13758.2.1 (p := 231) (b := 9) rfl
      rw [hv13770] at rv13770
      dsimp only at rv13770
      have tv13770 := congrArg Int32.toInt hv13770
      have x13771 := HI.eqI hI13758 (p := 231) (b := 9) (hv13770)
      obtain ⟨v13772, hv13772⟩ : ∃ v, gI g13757 231 10 = v := ⟨_, rfl⟩
      have rv13772 := RgF.at hI13758.2.1 (p := 231) (b := 10) rfl
      rw [hv13772] at rv13772
      dsimp only at rv13772
      have tv13772 := congrArg Int32.toInt hv13772
      have x13773 := HI.eqI hI13758 (p := 231) (b := 10) (hv13772)
      obtain ⟨v13774, hv13774⟩ : ∃ v, gI g13757 231 11 = v := ⟨_, rfl⟩
      have tv13774 := congrArg Int32.toInt hv13774
      have x13775 := HI.eqI hI13758 (p := 231) (b := 11) (hv13774)
      obtain ⟨v13776, hv13776⟩ : ∃ v, gI g13757 231 14 = v := ⟨_, rfl⟩
      have tv13776 := congrArg Int32.toInt hv13776
      have x13777 := HI.eqI hI13758 (p := 231) (b := 14) (hv13776)
      obtain ⟨c13778, c13779, c13780, c13781, c13782, c13783, c13784⟩ := hr13761
      refine At.enter rfl ?_
      refine r_aload_n e13740 ?_
      refine q_getI (Sh.int hI13758.1 kx_231 rfl) v13776 hv13776 ?_
      refine r_ifs 64 rfl (fun c13785 => ?_) (fun c13785 => ?_)
      · have c13785_ : v13776.toInt = 0 := en_k_eq_t c13785
        obtain ⟨i13786, i13787, i13788⟩ := c13784 (by omega)
        refine At.enter rfl ?_
        refine r_bipush 8 rfl ?_
        refine r_aload_n e13740 ?_
        refine q_getI (Sh.int hI13758.1 kx_231 rfl) v6 (((hF13759.1 231 15 (by decide)).trans (q13745.1 231 15 (by decide))).trans hv6) ?_
        refine q_imul (8 * v6.toInt) rfl (by omega) (fun v13789 hv13789 => ?_)
        refine r_istore_n _ rfl ?_
        refine r_iconst 0 rfl ?_
        refine r_istore_n _ rfl ?_
        refine Ar.fall 75 rfl ?_
        have z_14007 : (0 : Int32).toInt = 0 := rfl
        refine w_loopI (fun n_ l_ g_ => ∃ x13993 : Int32, n_ = 8 - x13993.toInt ∧ HI g_ ∧ Fr F_X11_readClause_231 A_X11_readClause_231 g0 g_ ∧ en_get 0 l_ = some (.ref 231) ∧ en_get 1 l_ = some (.int x13732) ∧ en_get 2 l_ = some (.int v13789) ∧ en_get 3 l_ = some (.int x13993) ∧ (0 ≤ x13993.toInt ∧ x13993.toInt ≤ 8) ∧ (Fr [] [237] g13757 g_) ∧ (∀ i : Int, 0 ≤ i → i < v13789.toInt → eA g_ 237 i = eA g13757 237 i)) ?_ (8 - 0) ⟨0, by first | rfl | omega, hI13758, hF13762, (w_p1 (by decide) (Or.inr rfl) (w_p1 (by decide) (Or.inr rfl) e13740)), (w_p1 (by decide) (Or.inr rfl) (w_p1 (by decide) (Or.inr rfl) e13741)), (w_p1 (by decide) (Or.inr rfl) (w_e1 _ _ _)), (w_e1 _ _ _), by decide, Fr.rf, (fun i i0 i1 => rfl)⟩
        rintro n13998 l13997 g13994 ⟨x13993, hm14008, hI13995, hF13996, e14000, e14001, e14002, e14003, r14004, q14005, q14006⟩ ih13999
        refine At.enter rfl ?_
        refine r_iload_n e14003 ?_
        refine r_bipush 8 rfl ?_
        refine r_ics 81 rfl (fun c14009 => ?_) (fun c14009 => ?_)
        · have c14009_ : x13993.toInt ≥ 8 := en_i_ge_t c14009
          refine At.enter rfl ?_
          refine r_aload_n e14000 ?_
          refine q_getR (Sh.ref hI13995.1 kx_231 rfl) ?_
          refine r_iload_n e14002 ?_
          refine r_iload_n e14001 ?_
          refine q_iast (Sh.arr hI13995.1 ka_237) ((8 * v6.toInt)) (by omega) (by omega) ?_
          have hI14010 := HI.wA0 hI13995 ka_237 (p := 237) rfl rfl ((8 * v6.toInt)) (x13732)
          have hF14011 := Fr.wA (p := 237) (j := (8 * v6.toInt)) (v := x13732) hF13996 rfl
          refine r_aload_n e14000 ?_
          refine r_dup rfl ?_
          refine q_getI (Sh.int hI14010.1 kx_231 rfl) v6 (((gI_sW).trans ((q14005.1 231 15 (by decide)).trans ((hF13759.1 231 15 (by decide)).trans (q13745.1 231 15 (by decide))))).trans hv6) ?_
          refine r_iconst 1 rfl ?_
          refine q_iadd (v6.toInt + 1) rfl (by omega) (fun v14012 hv14012 => ?_)
          refine q_putI (Sh.int hI14010.1 kx_231 rfl) rfl ?_
          have hI14013 := HI.wI1 hI14010 kx_231 rfl (p := 231) (b := 15) (v := v14012) rfl (by dsimp only; omega)
          have hF14014 := Fr.wI (p := 231) (b := 15) (v := v14012) hF14011 rfl
          refine r_aload_n e14000 ?_
          refine q_getR (Sh.ref hI14013.1 kx_231 rfl) ?_
          refine r_iload_n e14002 ?_
          refine r_iconst 3 rfl ?_
          refine q_iadd (v13789.toInt + 3) rfl (by omega) (fun v14015 hv14015 => ?_)
          refine r_aload_n e14000 ?_
          refine q_getI (Sh.int hI14013.1 kx_231 rfl) v7 (((gI_sI_ne (by decide)).trans ((gI_sW).trans ((q14005.1 231 17 (by decide)).trans ((hF13759.1 231 17 (by decide)).trans (q13745.1 231 17 (by decide)))))).trans hv7) ?_
          refine q_iast (Sh.arr hI14013.1 ka_237) ((8 * v6.toInt + 3)) (by omega) (by omega) ?_
          have hI14016 := HI.wA0 hI14013 ka_237 (p := 237) rfl rfl ((8 * v6.toInt + 3)) (v7)
          have hF14017 := Fr.wA (p := 237) (j := (8 * v6.toInt + 3)) (v := v7) hF14014 rfl
          refine r_iload_n e14001 ?_
          refine r_iconst 2 rfl ?_
          refine r_ics 130 rfl (fun c14018 => ?_) (fun c14018 => ?_)
          · have c14018_ : x13732.toInt ≥ 2 := en_i_ge_t c14018
            exfalso; omega
          · have c14018_ : x13732.toInt < 2 := en_i_ge_f c14018
            refine At.enter rfl ?_
            refine r_aload_n e14000 ?_
            refine r_iconst 0 rfl ?_
            have x14019 := HI.eqI hI14016 (p := 231) (b := 8) ((((gI_sW).trans ((gI_sI_ne (by decide)).trans ((gI_sW).trans ((q14005.1 231 8 (by decide)).trans ((hF13759.1 231 8 (by decide)).trans (q13745.1 231 8 (by decide))))))).trans hv1))
            have x14020 := HI.eqI hI14016 (p := 231) (b := 9) ((((gI_sW).trans ((gI_sI_ne (by decide)).trans ((gI_sW).trans (q14005.1 231 9 (by decide))))).trans hv13770))
            have x14021 := HI.eqI hI14016 (p := 231) (b := 10) ((((gI_sW).trans ((gI_sI_ne (by decide)).trans ((gI_sW).trans (q14005.1 231 10 (by decide))))).trans hv13772))
            have x14022 := HI.eqI hI14016 (p := 231) (b := 11) ((((gI_sW).trans ((gI_sI_ne (by decide)).trans ((gI_sW).trans (q14005.1 231 11 (by decide))))).trans hv13774))
            obtain ⟨v14023, hv14023⟩ : ∃ v, gJ g13757 231 12 = v := ⟨_, rfl⟩
            have x14024 := HI.eqJ hI14016 (b := 12) ((((gJ_sW).trans ((gJ_sI_ne (by decide)).trans ((gJ_sW).trans (q14005.2.2 231 12 (by decide))))).trans hv14023))
            have x14025 := HI.eqI hI14016 (p := 231) (b := 14) ((((gI_sW).trans ((gI_sI_ne (by decide)).trans ((gI_sW).trans (q14005.1 231 14 (by decide))))).trans hv13776))
            have x14026 := HI.eqI hI14016 (p := 231) (b := 17) ((((gI_sW).trans ((gI_sI_ne (by decide)).trans ((gI_sW).trans ((q14005.1 231 17 (by decide)).trans ((hF13759.1 231 17 (by decide)).trans (q13745.1 231 17 (by decide))))))).trans hv7))
            obtain ⟨v14027, hv14027⟩ : ∃ v, gI g0 231 23 = v := ⟨_, rfl⟩
            have rv14027 := RgF.at hI0.2.1 (p := 231) (b := 23) rfl
            rw [hv14027] at rv14027
            dsimp only at rv14027
            have tv14027 := congrArg Int32.toInt hv14027
            have x14028 := HI.eqI hI14016 (p := 231) (b := 23) ((((gI_sW).trans ((gI_sI_ne (by decide)).trans ((gI_sW).trans ((q14005.1 231 23 (by decide)).trans ((hF13759.1 231 23 (by decide)).trans (q13745.1 231 23 (by decide))))))).trans hv14027))
            have w2614029 := W26.cong c13783 hI14016 (((gI_sW).trans ((gI_sI_ne (by decide)).trans ((gI_sW).trans (q14005.1 231 9 (by decide)))))) (((gI_sW).trans ((gI_sI_ne (by decide)).trans ((gI_sW).trans (q14005.1 231 10 (by decide)))))) (((gI_sW).trans ((gI_sI_ne (by decide)).trans ((gI_sW).trans (q14005.1 231 11 (by decide)))))) (((gJ_sW).trans ((gJ_sI_ne (by decide)).trans ((gJ_sW).trans (q14005.2.2 231 12 (by decide))))))
            have zv14030 : (0 : Int32).toInt = 0 := rfl
            refine r_callV 135 rfl [.ref 231, .int 0] [] (Nat.le_of_ble_eq_true rfl) rfl (T_X11_readExpression_231 _ hI14016 0 (by decide) (by refine ⟨?_, ?_, ?_, ?_⟩ <;> omega) (by omega) (by omega) w2614029) ?_
            rintro _ _ ⟨g14031, rfl, hI14032, hF14033, rfl, hr14035⟩
            refine At.stn ?_
            have hF14036 := Fr.tr hF14017 hF14033 rfl rfl
            have zv14037 : (0 : Int32).toInt = 0 := rfl
            have x14038 := HI.eqI hI14016 (p := 231) (b := 9) ((((gI_sW).trans ((gI_sI_ne (by decide)).trans ((gI_sW).trans (q14005.1 231 9 (by decide))))).trans hv13770))
            have x14039 := HI.eqI hI14016 (p := 231) (b := 17) ((((gI_sW).trans ((gI_sI_ne (by decide)).trans ((gI_sW).trans ((q14005.1 231 17 (by decide)).trans ((hF13759.1 231 17 (by decide)).trans (q13745.1 231 17 (by decide))))))).trans hv7))
            have x14040 := HI.eqI hI14032 (p := 231) (b := 8) ((((hF14033.1 231 8 (by decide)).trans ((gI_sW).trans ((gI_sI_ne (by decide)).trans ((gI_sW).trans ((q14005.1 231 8 (by decide)).trans ((hF13759.1 231 8 (by decide)).trans (q13745.1 231 8 (by decide)))))))).trans hv1))
            obtain ⟨v14041, hv14041⟩ : ∃ v, gI g14031 231 9 = v := ⟨_, rfl⟩
            have rv14041 := RgF.at hI14032.2.1 (p := 231) (b := 9) rfl
            rw [hv14041] at rv14041
            dsimp only at rv14041
            have tv14041 := congrArg Int32.toInt hv14041
            have x14042 := HI.eqI hI14032 (p := 231) (b := 9) (hv14041)
            obtain ⟨v14043, hv14043⟩ : ∃ v, gI g14031 231 10 = v := ⟨_, rfl⟩
            have rv14043 := RgF.at hI14032.2.1 (p := 231) (b := 10) rfl
            rw [hv14043] at rv14043
            dsimp only at rv14043
            have tv14043 := congrArg Int32.toInt hv14043
            have x14044 := HI.eqI hI14032 (p := 231) (b := 10) (hv14043)
            obtain ⟨v14045, hv14045⟩ : ∃ v, gI g14031 231 11 = v := ⟨_, rfl⟩
            have tv14045 := congrArg Int32.toInt hv14045
            have x14046 := HI.eqI hI14032 (p := 231) (b := 11) (hv14045)
            obtain ⟨v14047, hv14047⟩ : ∃ v, gJ g14031 231 12 = v := ⟨_, rfl⟩
            have x14048 := HI.eqJ hI14032 (b := 12) (hv14047)
            obtain ⟨v14049, hv14049⟩ : ∃ v, gI g14031 231 14 = v := ⟨_, rfl⟩
            have tv14049 := congrArg Int32.toInt hv14049
            have x14050 := HI.eqI hI14032 (p := 231) (b := 14) (hv14049)
            obtain ⟨v14051, hv14051⟩ : ∃ v, gI g14031 231 17 = v := ⟨_, rfl⟩
            have rv14051 := RgF.at hI14032.2.1 (p := 231) (b := 17) rfl
            rw [hv14051] at rv14051
            dsimp only at rv14051
            have tv14051 := congrArg Int32.toInt hv14051
            have x14052 := HI.eqI hI14032 (p := 231) (b := 17) (hv14051)
            obtain ⟨v14053, hv14053⟩ : ∃ v, gI g14031 231 23 = v := ⟨_, rfl⟩
            have rv14053 := RgF.at hI14032.2.1 (p := 231) (b := 23) rfl
            rw [hv14053] at rv14053
            dsimp only at rv14053
            have tv14053 := congrArg Int32.toInt hv14053
            have x14054 := HI.eqI hI14032 (p := 231) (b := 23) (hv14053)
            obtain ⟨c14055, c14056, c14057, c14058, c14059, c14060, c14061⟩ := hr14035
            refine At.enter rfl ?_
            refine r_aload_n e14000 ?_
            refine q_getR (Sh.ref hI14032.1 kx_231 rfl) ?_
            refine r_iload_n e14002 ?_
            refine r_iconst 4 rfl ?_
            refine q_iadd (v13789.toInt + 4) rfl (by omega) (fun v14062 hv14062 => ?_)
            refine r_aload_n e14000 ?_
            refine q_getI (Sh.int hI14032.1 kx_231 rfl) v14051 hv14051 ?_
            refine q_iast (Sh.arr hI14032.1 ka_237) ((8 * v6.toInt + 4)) (by omega) (by omega) ?_
            have hI14063 := HI.wA0 hI14032 ka_237 (p := 237) rfl rfl ((8 * v6.toInt + 4)) (v14051)
            have hF14064 := Fr.wA (p := 237) (j := (8 * v6.toInt + 4)) (v := v14051) hF14036 rfl
            refine r_aload_n e14000 ?_
            refine q_getR (Sh.ref hI14063.1 kx_231 rfl) ?_
            refine r_iload_n e14002 ?_
            refine r_iconst 5 rfl ?_
            refine q_iadd (v13789.toInt + 5) rfl (by omega) (fun v14065 hv14065 => ?_)
            refine r_aload_n e14000 ?_
            refine q_getI (Sh.int hI14063.1 kx_231 rfl) v14051 ((gI_sW).trans hv14051) ?_
            refine q_iast (Sh.arr hI14063.1 ka_237) ((8 * v6.toInt + 5)) (by omega) (by omega) ?_
            have hI14066 := HI.wA0 hI14063 ka_237 (p := 237) rfl rfl ((8 * v6.toInt + 5)) (v14051)
            have hF14067 := Fr.wA (p := 237) (j := (8 * v6.toInt + 5)) (v := v14051) hF14064 rfl
            refine r_aload_n e14000 ?_
            refine q_getI (Sh.int hI14066.1 kx_231 rfl) v14049 (((gI_sW).trans (gI_sW)).trans hv14049) ?_
            refine r_ifs 166 rfl (fun c14068 => ?_) (fun c14068 => ?_)
            · have c14068_ : v14049.toInt ≠ 0 := en_k_ne_t c14068
              refine At.enter rfl ?_
              refine r_aload_n e14000 ?_
              refine q_getR (Sh.ref hI14066.1 kx_231 rfl) ?_
              refine r_iload_n e14002 ?_
              refine r_bipush 6 rfl ?_
              refine q_iadd (v13789.toInt + 6) rfl (by omega) (fun v14069 hv14069 => ?_)
              refine r_aload_n e14000 ?_
              refine q_getI (Sh.int hI14066.1 kx_231 rfl) v14051 (((gI_sW).trans (gI_sW)).trans hv14051) ?_
              refine q_iast (Sh.arr hI14066.1 ka_237) ((8 * v6.toInt + 6)) (by omega) (by omega) ?_
              have hI14070 := HI.wA0 hI14066 ka_237 (p := 237) rfl rfl ((8 * v6.toInt + 6)) (v14051)
              have hF14071 := Fr.wA (p := 237) (j := (8 * v6.toInt + 6)) (v := v14051) hF14067 rfl
              refine r_vret ?_
              have x14072 := HI.eqI hI14070 (p := 231) (b := 8) ((((gI_sW).trans ((gI_sW).trans ((gI_sW).trans ((hF14033.1 231 8 (by decide)).trans ((gI_sW).trans ((gI_sI_ne (by decide)).trans ((gI_sW).trans ((q14005.1 231 8 (by decide)).trans ((hF13759.1 231 8 (by decide)).trans (q13745.1 231 8 (by decide))))))))))).trans hv1))
              have x14073 := HI.eqI hI14070 (p := 231) (b := 9) ((((gI_sW).trans ((gI_sW).trans (gI_sW))).trans hv14041))
              have x14074 := HI.eqI hI14070 (p := 231) (b := 10) ((((gI_sW).trans ((gI_sW).trans (gI_sW))).trans hv14043))
              have x14075 := HI.eqI hI14070 (p := 231) (b := 11) ((((gI_sW).trans ((gI_sW).trans (gI_sW))).trans hv14045))
              have x14076 := HI.eqI hI14070 (p := 231) (b := 14) ((((gI_sW).trans ((gI_sW).trans (gI_sW))).trans hv14049))
              have x14077 := HI.eqI hI14070 (p := 231) (b := 15) (((gI_sW).trans ((gI_sW).trans ((gI_sW).trans ((hF14033.1 231 15 (by decide)).trans ((gI_sW).trans (gI_sI_eq hI14010.1 kx_231 rfl _)))))))
              have x14078 := HI.eqI hI14070 (p := 231) (b := 17) ((((gI_sW).trans ((gI_sW).trans (gI_sW))).trans hv14051))
              have x14079 := HI.eqI hI0 (p := 231) (b := 8) (hv1)
              have x14080 := HI.eqI hI0 (p := 231) (b := 9) (hv2)
              have x14081 := HI.eqI hI0 (p := 231) (b := 10) (hv3)
              have x14082 := HI.eqI hI0 (p := 231) (b := 11) (hv4)
              have x14083 := HI.eqI hI0 (p := 231) (b := 14) (hv5)
              have x14084 := HI.eqI hI0 (p := 231) (b := 15) (hv6)
              have x14085 := HI.eqI hI0 (p := 231) (b := 17) (hv7)
              have w2614086 := W26.cong c14059 hI14070 (((gI_sW).trans ((gI_sW).trans (gI_sW)))) (((gI_sW).trans ((gI_sW).trans (gI_sW)))) (((gI_sW).trans ((gI_sW).trans (gI_sW)))) (((gJ_sW).trans ((gJ_sW).trans (gJ_sW))))
              exact ⟨_, rfl, hI14070, hF14071, rfl, ⟨by omega, by omega, by omega, by omega, w2614086, by omega, (fun hbad => by have t0 := (c14061 (by omega)).1; have x0 := (c14061 (by omega)).2; have u0 : (gI _ 231 17).toInt ≤ (gI _ 231 17).toInt := x0.1; exact ⟨by omega, CLS.step (K := (gI g0 231 15).toInt) (n1 := (gI g0 231 17).toInt) (n2 := v14051.toInt) hC ⟨by omega, by omega⟩ ⟨by omega, by omega, by omega⟩ (fun i i0 i1 => ((eA_sA_ne (i := i) hI14066.1 ka_237 (by omega) (by omega) (by omega)).trans ((eA_sA_ne (i := i) hI14063.1 ka_237 (by omega) (by omega) (by omega)).trans ((eA_sA_ne (i := i) hI14032.1 ka_237 (by omega) (by omega) (by omega)).trans ((eA_c (hF14033.2.1 237 (by decide))).trans ((eA_sA_ne (i := i) hI14013.1 ka_237 (by omega) (by omega) (by omega)).trans ((eA_c gA_sI).trans ((eA_sA_ne (i := i) hI13995.1 ka_237 (by omega) (by omega) (by omega)).trans ((q14006 i i0 (by omega)).trans ((eA_c (hF13759.2.1 237 (by decide))).trans (eA_c (q13745.2.1 237 (by decide))))))))))))) (by show (eA _ 237 (8 * (gI g0 231 15).toInt + 3)).toInt = (gI g0 231 17).toInt; rw [show 8 * (gI g0 231 15).toInt + 3 = (8 * v6.toInt + 3) by omega]; exact (congrArg Int32.toInt (((eA_sA_ne hI14066.1 ka_237 (by first | decide | omega) (by first | decide | omega) (by first | decide | omega)).trans ((eA_sA_ne hI14063.1 ka_237 (by first | decide | omega) (by first | decide | omega) (by first | decide | omega)).trans ((eA_sA_ne hI14032.1 ka_237 (by first | decide | omega) (by first | decide | omega) (by first | decide | omega)).trans ((eA_c (hF14033.2.1 237 (by decide))).trans (eA_sA_eq hI14013.1 ka_237 (by first | rfl | omega) (by first | decide | omega) (by first | decide | omega)))))))).trans (by omega)) (by show (eA _ 237 (8 * (gI g0 231 15).toInt + 4)).toInt = v14051.toInt; rw [show 8 * (gI g0 231 15).toInt + 4 = (8 * v6.toInt + 4) by omega]; exact (congrArg Int32.toInt (((eA_sA_ne hI14066.1 ka_237 (by first | decide | omega) (by first | decide | omega) (by first | decide | omega)).trans ((eA_sA_ne hI14063.1 ka_237 (by first | decide | omega) (by first | decide | omega) (by first | decide | omega)).trans (eA_sA_eq hI14032.1 ka_237 (by first | rfl | omega) (by first | decide | omega) (by first | decide | omega)))))).trans (by omega)) (by show (eA _ 237 (8 * (gI g0 231 15).toInt + 5)).toInt = v14051.toInt; rw [show 8 * (gI g0 231 15).toInt + 5 = (8 * v6.toInt + 5) by omega]; exact (congrArg Int32.toInt (((eA_sA_ne hI14066.1 ka_237 (by first | decide | omega) (by first | decide | omega) (by first | decide | omega)).trans (eA_sA_eq hI14063.1 ka_237 (by first | rfl | omega) (by first | decide | omega) (by first | decide | omega))))).trans (by omega)) (by show (eA _ 237 (8 * (gI g0 231 15).toInt + 6)).toInt = (gI _ 231 17).toInt; rw [show 8 * (gI g0 231 15).toInt + 6 = (8 * v6.toInt + 6) by omega]; exact (congrArg Int32.toInt ((eA_sA_eq hI14066.1 ka_237 (by first | rfl | omega) (by first | decide | omega) (by first | decide | omega)))).trans (by omega)) (show SAME g0 _ (gI g0 231 17).toInt from (SAME.tr (SAME.tr (SAME.c hI14016 (((gA_sA_ne (by decide)).trans ((gA_sI).trans ((gA_sA_ne (by decide)).trans ((q14005.2.1 238 (by decide)).trans ((hF13759.2.1 238 (by decide)).trans (q13745.2.1 238 (by decide)))))))) (((gA_sA_ne (by decide)).trans ((gA_sI).trans ((gA_sA_ne (by decide)).trans ((q14005.2.1 239 (by decide)).trans ((hF13759.2.1 239 (by decide)).trans (q13745.2.1 239 (by decide))))))))) (EXPR.same x0) (by show _ ≤ (gI _ 231 17).toInt; omega)) (SAME.c hI14070 (((gA_sA_ne (by decide)).trans ((gA_sA_ne (by decide)).trans (gA_sA_ne (by decide))))) (((gA_sA_ne (by decide)).trans ((gA_sA_ne (by decide)).trans (gA_sA_ne (by decide)))))) (Int.le_refl _))) (EXPR.code x0 (show SAME g14031 _ (gI g14031 231 17).toInt from (SAME.c hI14070 (((gA_sA_ne (by decide)).trans ((gA_sA_ne (by decide)).trans (gA_sA_ne (by decide))))) (((gA_sA_ne (by decide)).trans ((gA_sA_ne (by decide)).trans (gA_sA_ne (by decide))))))) (by show _ = (gI _ 231 17).toInt; omega) (by show _ = (gI _ 231 17).toInt; omega) (by show 0 ≤ (gI _ 231 17).toInt; omega)) (WfCode.nil' (by omega) (by omega) (by omega))⟩)⟩⟩
            · have c14068_ : v14049.toInt = 0 := en_k_ne_f c14068
              refine At.enter rfl ?_
              refine r_aload_n e14000 ?_
              refine r_ldc2 294 rfl ?_
              have x14087 := HI.eqI hI14066 (p := 231) (b := 11) ((((gI_sW).trans (gI_sW)).trans hv14045))
              have zv14088 : (294 : Int64).toInt = 294 := rfl
              refine r_callV 173 rfl [.ref 231, .long 294] [] (Nat.le_of_ble_eq_true rfl) rfl (T_X11_isWord_231 _ hI14066 294 (by omega)) ?_
              rintro _ _ ⟨g14089, rfl, hI14090, hF14091, v14092, rfl, hr14093⟩
              refine At.sti ?_
              have hF14094 := Fr.tr hF14067 hF14091 rfl rfl
              have zv14095 : (294 : Int64).toInt = 294 := rfl
              have x14096 := HI.eqI hI14066 (p := 231) (b := 9) ((((gI_sW).trans (gI_sW)).trans hv14041))
              have x14097 := HI.eqI hI14066 (p := 231) (b := 10) ((((gI_sW).trans (gI_sW)).trans hv14043))
              have x14098 := HI.eqI hI14066 (p := 231) (b := 11) ((((gI_sW).trans (gI_sW)).trans hv14045))
              have x14099 := HI.eqI hI14090 (p := 231) (b := 9) ((((hF14091.1 231 9 (by decide)).trans ((gI_sW).trans (gI_sW))).trans hv14041))
              have x14100 := HI.eqI hI14090 (p := 231) (b := 10) ((((hF14091.1 231 10 (by decide)).trans ((gI_sW).trans (gI_sW))).trans hv14043))
              have x14101 := HI.eqI hI14090 (p := 231) (b := 11) ((((hF14091.1 231 11 (by decide)).trans ((gI_sW).trans (gI_sW))).trans hv14045))
              obtain ⟨c14104, c14102, isw14103⟩ := hr14093
              have w2614105 := W26.cong c14059 hI14066 (((gI_sW).trans (gI_sW))) (((gI_sW).trans (gI_sW))) (((gI_sW).trans (gI_sW))) (((gJ_sW).trans (gJ_sW)))
              refine At.enter rfl ?_
              refine r_ifs 176 rfl (fun c14106 => ?_) (fun c14106 => ?_)
              · have c14106_ : v14092.toInt = 0 := en_k_eq_t c14106
                refine At.enter rfl ?_
                refine r_aload_n e14000 ?_
                refine q_getR (Sh.ref hI14090.1 kx_231 rfl) ?_
                refine r_iload_n e14002 ?_
                refine r_bipush 6 rfl ?_
                refine q_iadd (v13789.toInt + 6) rfl (by omega) (fun v14107 hv14107 => ?_)
                refine r_aload_n e14000 ?_
                refine q_getI (Sh.int hI14090.1 kx_231 rfl) v14051 (((hF14091.1 231 17 (by decide)).trans ((gI_sW).trans (gI_sW))).trans hv14051) ?_
                refine q_iast (Sh.arr hI14090.1 ka_237) ((8 * v6.toInt + 6)) (by omega) (by omega) ?_
                have hI14108 := HI.wA0 hI14090 ka_237 (p := 237) rfl rfl ((8 * v6.toInt + 6)) (v14051)
                have hF14109 := Fr.wA (p := 237) (j := (8 * v6.toInt + 6)) (v := v14051) hF14094 rfl
                refine r_vret ?_
                have x14110 := HI.eqI hI14108 (p := 231) (b := 8) ((((gI_sW).trans ((hF14091.1 231 8 (by decide)).trans ((gI_sW).trans ((gI_sW).trans ((hF14033.1 231 8 (by decide)).trans ((gI_sW).trans ((gI_sI_ne (by decide)).trans ((gI_sW).trans ((q14005.1 231 8 (by decide)).trans ((hF13759.1 231 8 (by decide)).trans (q13745.1 231 8 (by decide)))))))))))).trans hv1))
                have x14111 := HI.eqI hI14108 (p := 231) (b := 9) ((((gI_sW).trans ((hF14091.1 231 9 (by decide)).trans ((gI_sW).trans (gI_sW)))).trans hv14041))
                have x14112 := HI.eqI hI14108 (p := 231) (b := 10) ((((gI_sW).trans ((hF14091.1 231 10 (by decide)).trans ((gI_sW).trans (gI_sW)))).trans hv14043))
                have x14113 := HI.eqI hI14108 (p := 231) (b := 11) ((((gI_sW).trans ((hF14091.1 231 11 (by decide)).trans ((gI_sW).trans (gI_sW)))).trans hv14045))
                have x14114 := HI.eqI hI14108 (p := 231) (b := 14) ((((gI_sW).trans ((hF14091.1 231 14 (by decide)).trans ((gI_sW).trans (gI_sW)))).trans hv14049))
                have x14115 := HI.eqI hI14108 (p := 231) (b := 15) (((gI_sW).trans ((hF14091.1 231 15 (by decide)).trans ((gI_sW).trans ((gI_sW).trans ((hF14033.1 231 15 (by decide)).trans ((gI_sW).trans (gI_sI_eq hI14010.1 kx_231 rfl _))))))))
                have x14116 := HI.eqI hI14108 (p := 231) (b := 17) ((((gI_sW).trans ((hF14091.1 231 17 (by decide)).trans ((gI_sW).trans (gI_sW)))).trans hv14051))
                have x14117 := HI.eqI hI0 (p := 231) (b := 8) (hv1)
                have x14118 := HI.eqI hI0 (p := 231) (b := 9) (hv2)
                have x14119 := HI.eqI hI0 (p := 231) (b := 10) (hv3)
                have x14120 := HI.eqI hI0 (p := 231) (b := 11) (hv4)
                have x14121 := HI.eqI hI0 (p := 231) (b := 14) (hv5)
                have x14122 := HI.eqI hI0 (p := 231) (b := 15) (hv6)
                have x14123 := HI.eqI hI0 (p := 231) (b := 17) (hv7)
                have w2614124 := W26.cong c14059 hI14108 (((gI_sW).trans ((hF14091.1 231 9 (by decide)).trans ((gI_sW).trans (gI_sW))))) (((gI_sW).trans ((hF14091.1 231 10 (by decide)).trans ((gI_sW).trans (gI_sW))))) (((gI_sW).trans ((hF14091.1 231 11 (by decide)).trans ((gI_sW).trans (gI_sW))))) (((gJ_sW).trans ((hF14091.2.2 231 12 (by decide)).trans ((gJ_sW).trans (gJ_sW)))))
                exact ⟨_, rfl, hI14108, hF14109, rfl, ⟨by omega, by omega, by omega, by omega, w2614124, by omega, (fun hbad => by have t0 := (c14061 (by omega)).1; have x0 := (c14061 (by omega)).2; have u0 : (gI _ 231 17).toInt ≤ (gI _ 231 17).toInt := x0.1; exact ⟨by omega, CLS.step (K := (gI g0 231 15).toInt) (n1 := (gI g0 231 17).toInt) (n2 := v14051.toInt) hC ⟨by omega, by omega⟩ ⟨by omega, by omega, by omega⟩ (fun i i0 i1 => ((eA_sA_ne (i := i) hI14090.1 ka_237 (by omega) (by omega) (by omega)).trans ((eA_c (hF14091.2.1 237 (by decide))).trans ((eA_sA_ne (i := i) hI14063.1 ka_237 (by omega) (by omega) (by omega)).trans ((eA_sA_ne (i := i) hI14032.1 ka_237 (by omega) (by omega) (by omega)).trans ((eA_c (hF14033.2.1 237 (by decide))).trans ((eA_sA_ne (i := i) hI14013.1 ka_237 (by omega) (by omega) (by omega)).trans ((eA_c gA_sI).trans ((eA_sA_ne (i := i) hI13995.1 ka_237 (by omega) (by omega) (by omega)).trans ((q14006 i i0 (by omega)).trans ((eA_c (hF13759.2.1 237 (by decide))).trans (eA_c (q13745.2.1 237 (by decide)))))))))))))) (by show (eA _ 237 (8 * (gI g0 231 15).toInt + 3)).toInt = (gI g0 231 17).toInt; rw [show 8 * (gI g0 231 15).toInt + 3 = (8 * v6.toInt + 3) by omega]; exact (congrArg Int32.toInt (((eA_sA_ne hI14090.1 ka_237 (by first | decide | omega) (by first | decide | omega) (by first | decide | omega)).trans ((eA_c (hF14091.2.1 237 (by decide))).trans ((eA_sA_ne hI14063.1 ka_237 (by first | decide | omega) (by first | decide | omega) (by first | decide | omega)).trans ((eA_sA_ne hI14032.1 ka_237 (by first | decide | omega) (by first | decide | omega) (by first | decide | omega)).trans ((eA_c (hF14033.2.1 237 (by decide))).trans (eA_sA_eq hI14013.1 ka_237 (by first | rfl | omega) (by first | decide | omega) (by first | decide | omega))))))))).trans (by omega)) (by show (eA _ 237 (8 * (gI g0 231 15).toInt + 4)).toInt = v14051.toInt; rw [show 8 * (gI g0 231 15).toInt + 4 = (8 * v6.toInt + 4) by omega]; exact (congrArg Int32.toInt (((eA_sA_ne hI14090.1 ka_237 (by first | decide | omega) (by first | decide | omega) (by first | decide | omega)).trans ((eA_c (hF14091.2.1 237 (by decide))).trans ((eA_sA_ne hI14063.1 ka_237 (by first | decide | omega) (by first | decide | omega) (by first | decide | omega)).trans (eA_sA_eq hI14032.1 ka_237 (by first | rfl | omega) (by first | decide | omega) (by first | decide | omega))))))).trans (by omega)) (by show (eA _ 237 (8 * (gI g0 231 15).toInt + 5)).toInt = v14051.toInt; rw [show 8 * (gI g0 231 15).toInt + 5 = (8 * v6.toInt + 5) by omega]; exact (congrArg Int32.toInt (((eA_sA_ne hI14090.1 ka_237 (by first | decide | omega) (by first | decide | omega) (by first | decide | omega)).trans ((eA_c (hF14091.2.1 237 (by decide))).trans (eA_sA_eq hI14063.1 ka_237 (by first | rfl | omega) (by first | decide | omega) (by first | decide | omega)))))).trans (by omega)) (by show (eA _ 237 (8 * (gI g0 231 15).toInt + 6)).toInt = (gI _ 231 17).toInt; rw [show 8 * (gI g0 231 15).toInt + 6 = (8 * v6.toInt + 6) by omega]; exact (congrArg Int32.toInt ((eA_sA_eq hI14090.1 ka_237 (by first | rfl | omega) (by first | decide | omega) (by first | decide | omega)))).trans (by omega)) (show SAME g0 _ (gI g0 231 17).toInt from (SAME.tr (SAME.tr (SAME.c hI14016 (((gA_sA_ne (by decide)).trans ((gA_sI).trans ((gA_sA_ne (by decide)).trans ((q14005.2.1 238 (by decide)).trans ((hF13759.2.1 238 (by decide)).trans (q13745.2.1 238 (by decide)))))))) (((gA_sA_ne (by decide)).trans ((gA_sI).trans ((gA_sA_ne (by decide)).trans ((q14005.2.1 239 (by decide)).trans ((hF13759.2.1 239 (by decide)).trans (q13745.2.1 239 (by decide))))))))) (EXPR.same x0) (by show _ ≤ (gI _ 231 17).toInt; omega)) (SAME.c hI14108 (((gA_sA_ne (by decide)).trans ((hF14091.2.1 238 (by decide)).trans ((gA_sA_ne (by decide)).trans (gA_sA_ne (by decide)))))) (((gA_sA_ne (by decide)).trans ((hF14091.2.1 239 (by decide)).trans ((gA_sA_ne (by decide)).trans (gA_sA_ne (by decide))))))) (Int.le_refl _))) (EXPR.code x0 (show SAME g14031 _ (gI g14031 231 17).toInt from (SAME.c hI14108 (((gA_sA_ne (by decide)).trans ((hF14091.2.1 238 (by decide)).trans ((gA_sA_ne (by decide)).trans (gA_sA_ne (by decide)))))) (((gA_sA_ne (by decide)).trans ((hF14091.2.1 239 (by decide)).trans ((gA_sA_ne (by decide)).trans (gA_sA_ne (by decide)))))))) (by show _ = (gI _ 231 17).toInt; omega) (by show _ = (gI _ 231 17).toInt; omega) (by show 0 ≤ (gI _ 231 17).toInt; omega)) (WfCode.nil' (by omega) (by omega) (by omega))⟩)⟩⟩
              · have c14106_ : v14092.toInt ≠ 0 := en_k_eq_f c14106
                have i14125 := W26.two w2614105 isw14103 (by omega) (by decide)
                refine At.enter rfl ?_
                refine r_aload_n e14000 ?_
                have x14126 := HI.eqI hI14090 (p := 231) (b := 8) ((((hF14091.1 231 8 (by decide)).trans ((gI_sW).trans ((gI_sW).trans ((hF14033.1 231 8 (by decide)).trans ((gI_sW).trans ((gI_sI_ne (by decide)).trans ((gI_sW).trans ((q14005.1 231 8 (by decide)).trans ((hF13759.1 231 8 (by decide)).trans (q13745.1 231 8 (by decide))))))))))).trans hv1))
                have x14127 := HI.eqI hI14090 (p := 231) (b := 10) ((((hF14091.1 231 10 (by decide)).trans ((gI_sW).trans (gI_sW))).trans hv14043))
                refine r_callV 180 rfl [.ref 231] [] (Nat.le_of_ble_eq_true rfl) rfl (T_X11_next_231 _ hI14090 (by omega)) ?_
                rintro _ _ ⟨g14128, rfl, hI14129, hF14130, rfl, hr14132⟩
                refine At.stn ?_
                have hF14133 := Fr.tr hF14094 hF14130 rfl rfl
                have x14134 := HI.eqI hI14090 (p := 231) (b := 8) ((((hF14091.1 231 8 (by decide)).trans ((gI_sW).trans ((gI_sW).trans ((hF14033.1 231 8 (by decide)).trans ((gI_sW).trans ((gI_sI_ne (by decide)).trans ((gI_sW).trans ((q14005.1 231 8 (by decide)).trans ((hF13759.1 231 8 (by decide)).trans (q13745.1 231 8 (by decide))))))))))).trans hv1))
                have x14135 := HI.eqI hI14090 (p := 231) (b := 10) ((((hF14091.1 231 10 (by decide)).trans ((gI_sW).trans (gI_sW))).trans hv14043))
                have x14136 := HI.eqI hI14129 (p := 231) (b := 8) ((((hF14130.1 231 8 (by decide)).trans ((hF14091.1 231 8 (by decide)).trans ((gI_sW).trans ((gI_sW).trans ((hF14033.1 231 8 (by decide)).trans ((gI_sW).trans ((gI_sI_ne (by decide)).trans ((gI_sW).trans ((q14005.1 231 8 (by decide)).trans ((hF13759.1 231 8 (by decide)).trans (q13745.1 231 8 (by decide)))))))))))).trans hv1))
                obtain ⟨v14137, hv14137⟩ : ∃ v, gI g14128 231 9 = v := ⟨_, rfl⟩
                have rv14137 := RgF.at hI14129.2.1 (p := 231) (b := 9) rfl
                rw [hv14137] at rv14137
                dsimp only at rv14137
                have tv14137 := congrArg Int32.toInt hv14137
                have x14138 := HI.eqI hI14129 (p := 231) (b := 9) (hv14137)
                obtain ⟨v14139, hv14139⟩ : ∃ v, gI g14128 231 10 = v := ⟨_, rfl⟩
                have rv14139 := RgF.at hI14129.2.1 (p := 231) (b := 10) rfl
                rw [hv14139] at rv14139
                dsimp only at rv14139
                have tv14139 := congrArg Int32.toInt hv14139
                have x14140 := HI.eqI hI14129 (p := 231) (b := 10) (hv14139)
                obtain ⟨v14141, hv14141⟩ : ∃ v, gI g14128 231 11 = v := ⟨_, rfl⟩
                have tv14141 := congrArg Int32.toInt hv14141
                have x14142 := HI.eqI hI14129 (p := 231) (b := 11) (hv14141)
                obtain ⟨c14143, c14144, c14145, c14146, c14147, c14148⟩ := hr14132
                refine At.enter rfl ?_
                refine r_aload_n e14000 ?_
                refine r_iconst 1 rfl ?_
                have x14149 := HI.eqI hI14129 (p := 231) (b := 8) ((((hF14130.1 231 8 (by decide)).trans ((hF14091.1 231 8 (by decide)).trans ((gI_sW).trans ((gI_sW).trans ((hF14033.1 231 8 (by decide)).trans ((gI_sW).trans ((gI_sI_ne (by decide)).trans ((gI_sW).trans ((q14005.1 231 8 (by decide)).trans ((hF13759.1 231 8 (by decide)).trans (q13745.1 231 8 (by decide)))))))))))).trans hv1))
                have x14150 := HI.eqI hI14129 (p := 231) (b := 9) (hv14137)
                have x14151 := HI.eqI hI14129 (p := 231) (b := 10) (hv14139)
                have x14152 := HI.eqI hI14129 (p := 231) (b := 11) (hv14141)
                obtain ⟨v14153, hv14153⟩ : ∃ v, gJ g14128 231 12 = v := ⟨_, rfl⟩
                have x14154 := HI.eqJ hI14129 (b := 12) (hv14153)
                have x14155 := HI.eqI hI14129 (p := 231) (b := 14) ((((hF14130.1 231 14 (by decide)).trans ((hF14091.1 231 14 (by decide)).trans ((gI_sW).trans (gI_sW)))).trans hv14049))
                have x14156 := HI.eqI hI14129 (p := 231) (b := 17) ((((hF14130.1 231 17 (by decide)).trans ((hF14091.1 231 17 (by decide)).trans ((gI_sW).trans (gI_sW)))).trans hv14051))
                have x14157 := HI.eqI hI14129 (p := 231) (b := 23) ((((hF14130.1 231 23 (by decide)).trans ((hF14091.1 231 23 (by decide)).trans ((gI_sW).trans (gI_sW)))).trans hv14053))
                have y14158 := (c14061 (by omega)).1
                have zv14159 : (1 : Int32).toInt = 1 := rfl
                refine r_callV 185 rfl [.ref 231, .int 1] [] (Nat.le_of_ble_eq_true rfl) rfl (T_X11_readExpression_231 _ hI14129 1 (by decide) (by refine ⟨?_, ?_, ?_, ?_⟩ <;> omega) (by omega) (by omega) c14148) ?_
                rintro _ _ ⟨g14160, rfl, hI14161, hF14162, rfl, hr14164⟩
                refine At.stn ?_
                have hF14165 := Fr.tr hF14133 hF14162 rfl rfl
                have zv14166 : (1 : Int32).toInt = 1 := rfl
                have x14167 := HI.eqI hI14129 (p := 231) (b := 9) (hv14137)
                have x14168 := HI.eqI hI14129 (p := 231) (b := 17) ((((hF14130.1 231 17 (by decide)).trans ((hF14091.1 231 17 (by decide)).trans ((gI_sW).trans (gI_sW)))).trans hv14051))
                have x14169 := HI.eqI hI14161 (p := 231) (b := 8) ((((hF14162.1 231 8 (by decide)).trans ((hF14130.1 231 8 (by decide)).trans ((hF14091.1 231 8 (by decide)).trans ((gI_sW).trans ((gI_sW).trans ((hF14033.1 231 8 (by decide)).trans ((gI_sW).trans ((gI_sI_ne (by decide)).trans ((gI_sW).trans ((q14005.1 231 8 (by decide)).trans ((hF13759.1 231 8 (by decide)).trans (q13745.1 231 8 (by decide))))))))))))).trans hv1))
                obtain ⟨v14170, hv14170⟩ : ∃ v, gI g14160 231 9 = v := ⟨_, rfl⟩
                have rv14170 := RgF.at hI14161.2.1 (p := 231) (b := 9) rfl
                rw [hv14170] at rv14170
                dsimp only at rv14170
                have tv14170 := congrArg Int32.toInt hv14170
                have x14171 := HI.eqI hI14161 (p := 231) (b := 9) (hv14170)
                obtain ⟨v14172, hv14172⟩ : ∃ v, gI g14160 231 10 = v := ⟨_, rfl⟩
                have rv14172 := RgF.at hI14161.2.1 (p := 231) (b := 10) rfl
                rw [hv14172] at rv14172
                dsimp only at rv14172
                have tv14172 := congrArg Int32.toInt hv14172
                have x14173 := HI.eqI hI14161 (p := 231) (b := 10) (hv14172)
                obtain ⟨v14174, hv14174⟩ : ∃ v, gI g14160 231 11 = v := ⟨_, rfl⟩
                have tv14174 := congrArg Int32.toInt hv14174
                have x14175 := HI.eqI hI14161 (p := 231) (b := 11) (hv14174)
                obtain ⟨v14176, hv14176⟩ : ∃ v, gJ g14160 231 12 = v := ⟨_, rfl⟩
                have x14177 := HI.eqJ hI14161 (b := 12) (hv14176)
                obtain ⟨v14178, hv14178⟩ : ∃ v, gI g14160 231 14 = v := ⟨_, rfl⟩
                have tv14178 := congrArg Int32.toInt hv14178
                have x14179 := HI.eqI hI14161 (p := 231) (b := 14) (hv14178)
                obtain ⟨v14180, hv14180⟩ : ∃ v, gI g14160 231 17 = v := ⟨_, rfl⟩
                have rv14180 := RgF.at hI14161.2.1 (p := 231) (b := 17) rfl
                rw [hv14180] at rv14180
                dsimp only at rv14180
                have tv14180 := congrArg Int32.toInt hv14180
                have x14181 := HI.eqI hI14161 (p := 231) (b := 17) (hv14180)
                obtain ⟨v14182, hv14182⟩ : ∃ v, gI g14160 231 23 = v := ⟨_, rfl⟩
                have rv14182 := RgF.at hI14161.2.1 (p := 231) (b := 23) rfl
                rw [hv14182] at rv14182
                dsimp only at rv14182
                have tv14182 := congrArg Int32.toInt hv14182
                have x14183 := HI.eqI hI14161 (p := 231) (b := 23) (hv14182)
                obtain ⟨c14184, c14185, c14186, c14187, c14188, c14189, c14190⟩ := hr14164
                refine At.enter rfl ?_
                refine r_aload_n e14000 ?_
                refine q_getR (Sh.ref hI14161.1 kx_231 rfl) ?_
                refine r_iload_n e14002 ?_
                refine r_bipush 6 rfl ?_
                refine q_iadd (v13789.toInt + 6) rfl (by omega) (fun v14191 hv14191 => ?_)
                refine r_aload_n e14000 ?_
                refine q_getI (Sh.int hI14161.1 kx_231 rfl) v14180 hv14180 ?_
                refine q_iast (Sh.arr hI14161.1 ka_237) ((8 * v6.toInt + 6)) (by omega) (by omega) ?_
                have hI14192 := HI.wA0 hI14161 ka_237 (p := 237) rfl rfl ((8 * v6.toInt + 6)) (v14180)
                have hF14193 := Fr.wA (p := 237) (j := (8 * v6.toInt + 6)) (v := v14180) hF14165 rfl
                refine r_vret ?_
                have x14194 := HI.eqI hI14192 (p := 231) (b := 8) ((((gI_sW).trans ((hF14162.1 231 8 (by decide)).trans ((hF14130.1 231 8 (by decide)).trans ((hF14091.1 231 8 (by decide)).trans ((gI_sW).trans ((gI_sW).trans ((hF14033.1 231 8 (by decide)).trans ((gI_sW).trans ((gI_sI_ne (by decide)).trans ((gI_sW).trans ((q14005.1 231 8 (by decide)).trans ((hF13759.1 231 8 (by decide)).trans (q13745.1 231 8 (by decide)))))))))))))).trans hv1))
                have x14195 := HI.eqI hI14192 (p := 231) (b := 9) (((gI_sW).trans hv14170))
                have x14196 := HI.eqI hI14192 (p := 231) (b := 10) (((gI_sW).trans hv14172))
                have x14197 := HI.eqI hI14192 (p := 231) (b := 11) (((gI_sW).trans hv14174))
                have x14198 := HI.eqI hI14192 (p := 231) (b := 14) (((gI_sW).trans hv14178))
                have x14199 := HI.eqI hI14192 (p := 231) (b := 15) (((gI_sW).trans ((hF14162.1 231 15 (by decide)).trans ((hF14130.1 231 15 (by decide)).trans ((hF14091.1 231 15 (by decide)).trans ((gI_sW).trans ((gI_sW).trans ((hF14033.1 231 15 (by decide)).trans ((gI_sW).trans (gI_sI_eq hI14010.1 kx_231 rfl _))))))))))
                have x14200 := HI.eqI hI14192 (p := 231) (b := 17) (((gI_sW).trans hv14180))
                have x14201 := HI.eqI hI0 (p := 231) (b := 8) (hv1)
                have x14202 := HI.eqI hI0 (p := 231) (b := 9) (hv2)
                have x14203 := HI.eqI hI0 (p := 231) (b := 10) (hv3)
                have x14204 := HI.eqI hI0 (p := 231) (b := 11) (hv4)
                have x14205 := HI.eqI hI0 (p := 231) (b := 14) (hv5)
                have x14206 := HI.eqI hI0 (p := 231) (b := 15) (hv6)
                have x14207 := HI.eqI hI0 (p := 231) (b := 17) (hv7)
                have w2614208 := W26.cong c14188 hI14192 ((gI_sW)) ((gI_sW)) ((gI_sW)) ((gJ_sW))
                exact ⟨_, rfl, hI14192, hF14193, rfl, ⟨by omega, by omega, by omega, by omega, w2614208, by omega, (fun hbad => by have t0 := (c14061 (by omega)).1; have x0 := (c14061 (by omega)).2; have u0 : (gI _ 231 17).toInt ≤ (gI _ 231 17).toInt := x0.1; have t1 := (c14190 (by omega)).1; have x1 := (c14190 (by omega)).2; have u1 : (gI _ 231 17).toInt ≤ (gI _ 231 17).toInt := x1.1; exact ⟨by omega, CLS.step (K := (gI g0 231 15).toInt) (n1 := (gI g0 231 17).toInt) (n2 := v14051.toInt) hC ⟨by omega, by omega⟩ ⟨by omega, by omega, by omega⟩ (fun i i0 i1 => ((eA_sA_ne (i := i) hI14161.1 ka_237 (by omega) (by omega) (by omega)).trans ((eA_c (hF14162.2.1 237 (by decide))).trans ((eA_c (hF14130.2.1 237 (by decide))).trans ((eA_c (hF14091.2.1 237 (by decide))).trans ((eA_sA_ne (i := i) hI14063.1 ka_237 (by omega) (by omega) (by omega)).trans ((eA_sA_ne (i := i) hI14032.1 ka_237 (by omega) (by omega) (by omega)).trans ((eA_c (hF14033.2.1 237 (by decide))).trans ((eA_sA_ne (i := i) hI14013.1 ka_237 (by omega) (by omega) (by omega)).trans ((eA_c gA_sI).trans ((eA_sA_ne (i := i) hI13995.1 ka_237 (by omega) (by omega) (by omega)).trans ((q14006 i i0 (by omega)).trans ((eA_c (hF13759.2.1 237 (by decide))).trans (eA_c (q13745.2.1 237 (by decide)))))))))))))))) (by show (eA _ 237 (8 * (gI g0 231 15).toInt + 3)).toInt = (gI g0 231 17).toInt; rw [show 8 * (gI g0 231 15).toInt + 3 = (8 * v6.toInt + 3) by omega]; exact (congrArg Int32.toInt (((eA_sA_ne hI14161.1 ka_237 (by first | decide | omega) (by first | decide | omega) (by first | decide | omega)).trans ((eA_c (hF14162.2.1 237 (by decide))).trans ((eA_c (hF14130.2.1 237 (by decide))).trans ((eA_c (hF14091.2.1 237 (by decide))).trans ((eA_sA_ne hI14063.1 ka_237 (by first | decide | omega) (by first | decide | omega) (by first | decide | omega)).trans ((eA_sA_ne hI14032.1 ka_237 (by first | decide | omega) (by first | decide | omega) (by first | decide | omega)).trans ((eA_c (hF14033.2.1 237 (by decide))).trans (eA_sA_eq hI14013.1 ka_237 (by first | rfl | omega) (by first | decide | omega) (by first | decide | omega))))))))))).trans (by omega)) (by show (eA _ 237 (8 * (gI g0 231 15).toInt + 4)).toInt = v14051.toInt; rw [show 8 * (gI g0 231 15).toInt + 4 = (8 * v6.toInt + 4) by omega]; exact (congrArg Int32.toInt (((eA_sA_ne hI14161.1 ka_237 (by first | decide | omega) (by first | decide | omega) (by first | decide | omega)).trans ((eA_c (hF14162.2.1 237 (by decide))).trans ((eA_c (hF14130.2.1 237 (by decide))).trans ((eA_c (hF14091.2.1 237 (by decide))).trans ((eA_sA_ne hI14063.1 ka_237 (by first | decide | omega) (by first | decide | omega) (by first | decide | omega)).trans (eA_sA_eq hI14032.1 ka_237 (by first | rfl | omega) (by first | decide | omega) (by first | decide | omega))))))))).trans (by omega)) (by show (eA _ 237 (8 * (gI g0 231 15).toInt + 5)).toInt = v14051.toInt; rw [show 8 * (gI g0 231 15).toInt + 5 = (8 * v6.toInt + 5) by omega]; exact (congrArg Int32.toInt (((eA_sA_ne hI14161.1 ka_237 (by first | decide | omega) (by first | decide | omega) (by first | decide | omega)).trans ((eA_c (hF14162.2.1 237 (by decide))).trans ((eA_c (hF14130.2.1 237 (by decide))).trans ((eA_c (hF14091.2.1 237 (by decide))).trans (eA_sA_eq hI14063.1 ka_237 (by first | rfl | omega) (by first | decide | omega) (by first | decide | omega)))))))).trans (by omega)) (by show (eA _ 237 (8 * (gI g0 231 15).toInt + 6)).toInt = (gI _ 231 17).toInt; rw [show 8 * (gI g0 231 15).toInt + 6 = (8 * v6.toInt + 6) by omega]; exact (congrArg Int32.toInt ((eA_sA_eq hI14161.1 ka_237 (by first | rfl | omega) (by first | decide | omega) (by first | decide | omega)))).trans (by omega)) (show SAME g0 _ (gI g0 231 17).toInt from (SAME.tr (SAME.tr (SAME.tr (SAME.tr (SAME.c hI14016 (((gA_sA_ne (by decide)).trans ((gA_sI).trans ((gA_sA_ne (by decide)).trans ((q14005.2.1 238 (by decide)).trans ((hF13759.2.1 238 (by decide)).trans (q13745.2.1 238 (by decide)))))))) (((gA_sA_ne (by decide)).trans ((gA_sI).trans ((gA_sA_ne (by decide)).trans ((q14005.2.1 239 (by decide)).trans ((hF13759.2.1 239 (by decide)).trans (q13745.2.1 239 (by decide))))))))) (EXPR.same x0) (by show _ ≤ (gI _ 231 17).toInt; omega)) (SAME.c hI14129 (((hF14130.2.1 238 (by decide)).trans ((hF14091.2.1 238 (by decide)).trans ((gA_sA_ne (by decide)).trans (gA_sA_ne (by decide)))))) (((hF14130.2.1 239 (by decide)).trans ((hF14091.2.1 239 (by decide)).trans ((gA_sA_ne (by decide)).trans (gA_sA_ne (by decide))))))) (by omega)) (EXPR.same x1) (by show _ ≤ (gI _ 231 17).toInt; omega)) (SAME.c hI14192 ((gA_sA_ne (by decide))) ((gA_sA_ne (by decide)))) (Int.le_refl _))) (EXPR.code x0 (show SAME g14031 _ (gI g14031 231 17).toInt from (SAME.tr (SAME.tr (SAME.c hI14129 (((hF14130.2.1 238 (by decide)).trans ((hF14091.2.1 238 (by decide)).trans ((gA_sA_ne (by decide)).trans (gA_sA_ne (by decide)))))) (((hF14130.2.1 239 (by decide)).trans ((hF14091.2.1 239 (by decide)).trans ((gA_sA_ne (by decide)).trans (gA_sA_ne (by decide))))))) (EXPR.same x1) (by show _ ≤ (gI _ 231 17).toInt; omega)) (SAME.c hI14192 ((gA_sA_ne (by decide))) ((gA_sA_ne (by decide)))) (Int.le_refl _))) (by show _ = (gI _ 231 17).toInt; omega) (by show _ = (gI _ 231 17).toInt; omega) (by show 0 ≤ (gI _ 231 17).toInt; omega)) (EXPR.code x1 (show SAME g14160 _ (gI g14160 231 17).toInt from (SAME.c hI14192 ((gA_sA_ne (by decide))) ((gA_sA_ne (by decide))))) (by show _ = (gI _ 231 17).toInt; omega) (by show _ = (gI _ 231 17).toInt; omega) (by show 0 ≤ (gI _ 231 17).toInt; omega))⟩)⟩⟩
        · have c14009_ : x13993.toInt < 8 := en_i_ge_f c14009
          refine At.enter rfl ?_
          refine r_aload_n e14000 ?_
          refine q_getR (Sh.ref hI13995.1 kx_231 rfl) ?_
          refine r_iload_n e14002 ?_
          refine r_iload_n e14003 ?_
          refine q_iadd (v13789.toInt + x13993.toInt) rfl (by omega) (fun v14209 hv14209 => ?_)
          refine r_iconst 0 rfl ?_
          refine q_iast (Sh.arr hI13995.1 ka_237) ((8 * v6.toInt + x13993.toInt)) (by omega) (by omega) ?_
          have hI14210 := HI.wA0 hI13995 ka_237 (p := 237) rfl rfl ((8 * v6.toInt + x13993.toInt)) (0)
          have hF14211 := Fr.wA (p := 237) (j := (8 * v6.toInt + x13993.toInt)) (v := 0) hF13996 rfl
          refine q_iinc e14003 (x13993.toInt + 1) rfl (by omega) (fun v14212 hv14212 => ?_)
          refine r_goto ?_
          exact ih13999 (8 - v14212.toInt) _ _ ⟨v14212, by first | rfl | omega, hI14210, hF14211, (w_p1 (by decide) (Or.inr rfl) e14000), (w_p1 (by decide) (Or.inr rfl) e14001), (w_p1 (by decide) (Or.inr rfl) e14002), (w_e1 _ _ _), by omega, (Fr.wA (p := 237) q14005 rfl), (fun i i0 i1 => (eA_sA_ne (i := i) hI13995.1 ka_237 (by omega) (by omega) (by omega)).trans (q14006 i i0 i1))⟩ ⟨by omega, by omega⟩
      · have c13785_ : v13776.toInt ≠ 0 := en_k_eq_f c13785
        clear c13784
        refine At.enter rfl ?_
        refine r_vret ?_
        have x14213 := HI.eqI hI13758 (p := 231) (b := 8) ((((hF13759.1 231 8 (by decide)).trans (q13745.1 231 8 (by decide))).trans hv1))
        have x14214 := HI.eqI hI13758 (p := 231) (b := 9) (hv13770)
        have x14215 := HI.eqI hI13758 (p := 231) (b := 10) (hv13772)
        have x14216 := HI.eqI hI13758 (p := 231) (b := 11) (hv13774)
        have x14217 := HI.eqI hI13758 (p := 231) (b := 14) (hv13776)
        have x14218 := HI.eqI hI13758 (p := 231) (b := 15) ((((hF13759.1 231 15 (by decide)).trans (q13745.1 231 15 (by decide))).trans hv6))
        have x14219 := HI.eqI hI13758 (p := 231) (b := 17) ((((hF13759.1 231 17 (by decide)).trans (q13745.1 231 17 (by decide))).trans hv7))
        have x14220 := HI.eqI hI0 (p := 231) (b := 8) (hv1)
        have x14221 := HI.eqI hI0 (p := 231) (b := 9) (hv2)
        have x14222 := HI.eqI hI0 (p := 231) (b := 10) (hv3)
        have x14223 := HI.eqI hI0 (p := 231) (b := 11) (hv4)
        have x14224 := HI.eqI hI0 (p := 231) (b := 14) (hv5)
        have x14225 := HI.eqI hI0 (p := 231) (b := 15) (hv6)
        have x14226 := HI.eqI hI0 (p := 231) (b := 17) (hv7)
        exact ⟨_, rfl, hI13758, hF13762, rfl, ⟨by omega, by omega, by omega, by omega, c13783, by omega, (fun hbad => False.elim (by omega))⟩⟩
    · have c13750_ : x13732.toInt ≠ (-1) := en_i_eq_f c13750
      refine At.enter rfl ?_
      refine r_aload_n e13740 ?_
      refine q_getI (Sh.int hI13735.1 kx_231 rfl) v6 ((q13745.1 231 15 (by decide)).trans hv6) ?_
      refine r_bipush 12 rfl ?_
      refine r_ics 49 rfl (fun c14227 => ?_) (fun c14227 => ?_)
      · have c14227_ : v6.toInt ≥ 12 := en_i_ge_t c14227
        refine At.enter rfl ?_
        refine r_iconst 0 rfl ?_
        refine Ar.fall 54 rfl ?_
        refine At.enter rfl ?_
        have x14228 := HI.eqI hI13735 (p := 231) (b := 8) (((q13745.1 231 8 (by decide)).trans hv1))
        have x14229 := HI.eqI hI13735 (p := 231) (b := 9) (((q13745.1 231 9 (by decide)).trans hv2))
        have x14230 := HI.eqI hI13735 (p := 231) (b := 10) (((q13745.1 231 10 (by decide)).trans hv3))
        have x14231 := HI.eqI hI13735 (p := 231) (b := 11) (((q13745.1 231 11 (by decide)).trans hv4))
        have w2614232 := W26.cong hW hI13735 ((q13745.1 231 9 (by decide))) ((q13745.1 231 10 (by decide))) ((q13745.1 231 11 (by decide))) ((q13745.2.2 231 12 (by decide)))
        have zv14233 : (0 : Int32).toInt = 0 := rfl
        refine r_callV 57 rfl [.ref 231, .int 0] [] (Nat.le_of_ble_eq_true rfl) rfl (T_X11_must_231 _ hI13735 0 (by decide) (by refine ⟨?_, ?_, ?_, ?_⟩ <;> omega) w2614232) ?_
        rintro _ _ ⟨g14234, rfl, hI14235, hF14236, rfl, hr14238⟩
        refine At.stn ?_
        have hF14239 := Fr.tr hF13736 hF14236 rfl rfl
        have zv14240 : (0 : Int32).toInt = 0 := rfl
        have x14241 := HI.eqI hI13735 (p := 231) (b := 8) (((q13745.1 231 8 (by decide)).trans hv1))
        have x14242 := HI.eqI hI13735 (p := 231) (b := 9) (((q13745.1 231 9 (by decide)).trans hv2))
        have x14243 := HI.eqI hI13735 (p := 231) (b := 10) (((q13745.1 231 10 (by decide)).trans hv3))
        have x14244 := HI.eqI hI13735 (p := 231) (b := 11) (((q13745.1 231 11 (by decide)).trans hv4))
        have x14245 := HI.eqI hI13735 (p := 231) (b := 14) (((q13745.1 231 14 (by decide)).trans hv5))
        have x14246 := HI.eqI hI14235 (p := 231) (b := 8) ((((hF14236.1 231 8 (by decide)).trans (q13745.1 231 8 (by decide))).trans hv1))
        obtain ⟨v14247, hv14247⟩ : ∃ v, gI g14234 231 9 = v := ⟨_, rfl⟩
        have rv14247 := RgF.at hI14235.2.1 (p := 231) (b := 9) rfl
        rw [hv14247] at rv14247
        dsimp only at rv14247
        have tv14247 := congrArg Int32.toInt hv14247
        have x14248 := HI.eqI hI14235 (p := 231) (b := 9) (hv14247)
        obtain ⟨v14249, hv14249⟩ : ∃ v, gI g14234 231 10 = v := ⟨_, rfl⟩
        have rv14249 := RgF.at hI14235.2.1 (p := 231) (b := 10) rfl
        rw [hv14249] at rv14249
        dsimp only at rv14249
        have tv14249 := congrArg Int32.toInt hv14249
        have x14250 := HI.eqI hI14235 (p := 231) (b := 10) (hv14249)
        obtain ⟨v14251, hv14251⟩ : ∃ v, gI g14234 231 11 = v := ⟨_, rfl⟩
        have tv14251 := congrArg Int32.toInt hv14251
        have x14252 := HI.eqI hI14235 (p := 231) (b := 11) (hv14251)
        obtain ⟨v14253, hv14253⟩ : ∃ v, gI g14234 231 14 = v := ⟨_, rfl⟩
        have tv14253 := congrArg Int32.toInt hv14253
        have x14254 := HI.eqI hI14235 (p := 231) (b := 14) (hv14253)
        obtain ⟨c14255, c14256, c14257, c14258, c14259, c14260, c14261⟩ := hr14238
        refine At.enter rfl ?_
        refine r_aload_n e13740 ?_
        refine q_getI (Sh.int hI14235.1 kx_231 rfl) v14253 hv14253 ?_
        refine r_ifs 64 rfl (fun c14262 => ?_) (fun c14262 => ?_)
        · have c14262_ : v14253.toInt = 0 := en_k_eq_t c14262
          obtain ⟨i14263, i14264, i14265⟩ := c14261 (by omega)
          refine At.enter rfl ?_
          refine r_bipush 8 rfl ?_
          refine r_aload_n e13740 ?_
          refine q_getI (Sh.int hI14235.1 kx_231 rfl) v6 (((hF14236.1 231 15 (by decide)).trans (q13745.1 231 15 (by decide))).trans hv6) ?_
          refine q_imul (8 * v6.toInt) rfl (by omega) (fun v14266 hv14266 => ?_)
          refine r_istore_n _ rfl ?_
          refine r_iconst 0 rfl ?_
          refine r_istore_n _ rfl ?_
          refine Ar.fall 75 rfl ?_
          have z_14586 : (0 : Int32).toInt = 0 := rfl
          refine w_loopI (fun n_ l_ g_ => ∃ x14572 : Int32, n_ = 8 - x14572.toInt ∧ HI g_ ∧ Fr F_X11_readClause_231 A_X11_readClause_231 g0 g_ ∧ en_get 0 l_ = some (.ref 231) ∧ en_get 1 l_ = some (.int x13732) ∧ en_get 2 l_ = some (.int v14266) ∧ en_get 3 l_ = some (.int x14572) ∧ (0 ≤ x14572.toInt ∧ x14572.toInt ≤ 8) ∧ (Fr [] [237] g14234 g_) ∧ (∀ i : Int, 0 ≤ i → i < v14266.toInt → eA g_ 237 i = eA g14234 237 i)) ?_ (8 - 0) ⟨0, by first | rfl | omega, hI14235, hF14239, (w_p1 (by decide) (Or.inr rfl) (w_p1 (by decide) (Or.inr rfl) e13740)), (w_p1 (by decide) (Or.inr rfl) (w_p1 (by decide) (Or.inr rfl) e13741)), (w_p1 (by decide) (Or.inr rfl) (w_e1 _ _ _)), (w_e1 _ _ _), by decide, Fr.rf, (fun i i0 i1 => rfl)⟩
          rintro n14577 l14576 g14573 ⟨x14572, hm14587, hI14574, hF14575, e14579, e14580, e14581, e14582, r14583, q14584, q14585⟩ ih14578
          refine At.enter rfl ?_
          refine r_iload_n e14582 ?_
          refine r_bipush 8 rfl ?_
          refine r_ics 81 rfl (fun c14588 => ?_) (fun c14588 => ?_)
          · have c14588_ : x14572.toInt ≥ 8 := en_i_ge_t c14588
            refine At.enter rfl ?_
            refine r_aload_n e14579 ?_
            refine q_getR (Sh.ref hI14574.1 kx_231 rfl) ?_
            refine r_iload_n e14581 ?_
            refine r_iload_n e14580 ?_
            refine q_iast (Sh.arr hI14574.1 ka_237) ((8 * v6.toInt)) (by omega) (by omega) ?_
            have hI14589 := HI.wA0 hI14574 ka_237 (p := 237) rfl rfl ((8 * v6.toInt)) (x13732)
            have hF14590 := Fr.wA (p := 237) (j := (8 * v6.toInt)) (v := x13732) hF14575 rfl
            refine r_aload_n e14579 ?_
            refine r_dup rfl ?_
            refine q_getI (Sh.int hI14589.1 kx_231 rfl) v6 (((gI_sW).trans ((q14584.1 231 15 (by decide)).trans ((hF14236.1 231 15 (by decide)).trans (q13745.1 231 15 (by decide))))).trans hv6) ?_
            refine r_iconst 1 rfl ?_
            refine q_iadd (v6.toInt + 1) rfl (by omega) (fun v14591 hv14591 => ?_)
            refine q_putI (Sh.int hI14589.1 kx_231 rfl) rfl ?_
            have hI14592 := HI.wI1 hI14589 kx_231 rfl (p := 231) (b := 15) (v := v14591) rfl (by dsimp only; omega)
            have hF14593 := Fr.wI (p := 231) (b := 15) (v := v14591) hF14590 rfl
            refine r_aload_n e14579 ?_
            refine q_getR (Sh.ref hI14592.1 kx_231 rfl) ?_
            refine r_iload_n e14581 ?_
            refine r_iconst 3 rfl ?_
            refine q_iadd (v14266.toInt + 3) rfl (by omega) (fun v14594 hv14594 => ?_)
            refine r_aload_n e14579 ?_
            refine q_getI (Sh.int hI14592.1 kx_231 rfl) v7 (((gI_sI_ne (by decide)).trans ((gI_sW).trans ((q14584.1 231 17 (by decide)).trans ((hF14236.1 231 17 (by decide)).trans (q13745.1 231 17 (by decide)))))).trans hv7) ?_
            refine q_iast (Sh.arr hI14592.1 ka_237) ((8 * v6.toInt + 3)) (by omega) (by omega) ?_
            have hI14595 := HI.wA0 hI14592 ka_237 (p := 237) rfl rfl ((8 * v6.toInt + 3)) (v7)
            have hF14596 := Fr.wA (p := 237) (j := (8 * v6.toInt + 3)) (v := v7) hF14593 rfl
            refine r_iload_n e14580 ?_
            refine r_iconst 2 rfl ?_
            refine r_ics 130 rfl (fun c14597 => ?_) (fun c14597 => ?_)
            · have c14597_ : x13732.toInt ≥ 2 := en_i_ge_t c14597
              refine At.enter rfl ?_
              refine r_aload_n e14579 ?_
              refine q_getR (Sh.ref hI14595.1 kx_231 rfl) ?_
              refine r_iload_n e14581 ?_
              refine r_iconst 4 rfl ?_
              refine q_iadd (v14266.toInt + 4) rfl (by omega) (fun v14598 hv14598 => ?_)
              refine r_aload_n e14579 ?_
              refine q_getI (Sh.int hI14595.1 kx_231 rfl) v7 (((gI_sW).trans ((gI_sI_ne (by decide)).trans ((gI_sW).trans ((q14584.1 231 17 (by decide)).trans ((hF14236.1 231 17 (by decide)).trans (q13745.1 231 17 (by decide))))))).trans hv7) ?_
              refine q_iast (Sh.arr hI14595.1 ka_237) ((8 * v6.toInt + 4)) (by omega) (by omega) ?_
              have hI14599 := HI.wA0 hI14595 ka_237 (p := 237) rfl rfl ((8 * v6.toInt + 4)) (v7)
              have hF14600 := Fr.wA (p := 237) (j := (8 * v6.toInt + 4)) (v := v7) hF14596 rfl
              refine r_aload_n e14579 ?_
              refine q_getR (Sh.ref hI14599.1 kx_231 rfl) ?_
              refine r_iload_n e14581 ?_
              refine r_iconst 5 rfl ?_
              refine q_iadd (v14266.toInt + 5) rfl (by omega) (fun v14601 hv14601 => ?_)
              refine r_aload_n e14579 ?_
              refine q_getI (Sh.int hI14599.1 kx_231 rfl) v7 (((gI_sW).trans ((gI_sW).trans ((gI_sI_ne (by decide)).trans ((gI_sW).trans ((q14584.1 231 17 (by decide)).trans ((hF14236.1 231 17 (by decide)).trans (q13745.1 231 17 (by decide)))))))).trans hv7) ?_
              refine q_iast (Sh.arr hI14599.1 ka_237) ((8 * v6.toInt + 5)) (by omega) (by omega) ?_
              have hI14602 := HI.wA0 hI14599 ka_237 (p := 237) rfl rfl ((8 * v6.toInt + 5)) (v7)
              have hF14603 := Fr.wA (p := 237) (j := (8 * v6.toInt + 5)) (v := v7) hF14600 rfl
              refine r_aload_n e14579 ?_
              refine q_getI (Sh.int hI14602.1 kx_231 rfl) v14253 (((gI_sW).trans ((gI_sW).trans ((gI_sW).trans ((gI_sI_ne (by decide)).trans ((gI_sW).trans (q14584.1 231 14 (by decide))))))).trans hv14253) ?_
              refine r_ifs 166 rfl (fun c14604 => ?_) (fun c14604 => ?_)
              · have c14604_ : v14253.toInt ≠ 0 := en_k_ne_t c14604
                clear c14261
                exfalso; omega
              · have c14604_ : v14253.toInt = 0 := en_k_ne_f c14604
                obtain ⟨i14605, i14606, i14607⟩ := c14261 (by omega)
                refine At.enter rfl ?_
                refine r_aload_n e14579 ?_
                refine r_ldc2 294 rfl ?_
                have x14608 := HI.eqI hI14602 (p := 231) (b := 11) ((((gI_sW).trans ((gI_sW).trans ((gI_sW).trans ((gI_sI_ne (by decide)).trans ((gI_sW).trans (q14584.1 231 11 (by decide))))))).trans hv14251))
                have zv14609 : (294 : Int64).toInt = 294 := rfl
                refine r_callV 173 rfl [.ref 231, .long 294] [] (Nat.le_of_ble_eq_true rfl) rfl (T_X11_isWord_231 _ hI14602 294 (by omega)) ?_
                rintro _ _ ⟨g14610, rfl, hI14611, hF14612, v14613, rfl, hr14614⟩
                refine At.sti ?_
                have hF14615 := Fr.tr hF14603 hF14612 rfl rfl
                have zv14616 : (294 : Int64).toInt = 294 := rfl
                have x14617 := HI.eqI hI14602 (p := 231) (b := 9) ((((gI_sW).trans ((gI_sW).trans ((gI_sW).trans ((gI_sI_ne (by decide)).trans ((gI_sW).trans (q14584.1 231 9 (by decide))))))).trans hv14247))
                have x14618 := HI.eqI hI14602 (p := 231) (b := 10) ((((gI_sW).trans ((gI_sW).trans ((gI_sW).trans ((gI_sI_ne (by decide)).trans ((gI_sW).trans (q14584.1 231 10 (by decide))))))).trans hv14249))
                have x14619 := HI.eqI hI14602 (p := 231) (b := 11) ((((gI_sW).trans ((gI_sW).trans ((gI_sW).trans ((gI_sI_ne (by decide)).trans ((gI_sW).trans (q14584.1 231 11 (by decide))))))).trans hv14251))
                have x14620 := HI.eqI hI14611 (p := 231) (b := 9) ((((hF14612.1 231 9 (by decide)).trans ((gI_sW).trans ((gI_sW).trans ((gI_sW).trans ((gI_sI_ne (by decide)).trans ((gI_sW).trans (q14584.1 231 9 (by decide)))))))).trans hv14247))
                have x14621 := HI.eqI hI14611 (p := 231) (b := 10) ((((hF14612.1 231 10 (by decide)).trans ((gI_sW).trans ((gI_sW).trans ((gI_sW).trans ((gI_sI_ne (by decide)).trans ((gI_sW).trans (q14584.1 231 10 (by decide)))))))).trans hv14249))
                have x14622 := HI.eqI hI14611 (p := 231) (b := 11) ((((hF14612.1 231 11 (by decide)).trans ((gI_sW).trans ((gI_sW).trans ((gI_sW).trans ((gI_sI_ne (by decide)).trans ((gI_sW).trans (q14584.1 231 11 (by decide)))))))).trans hv14251))
                obtain ⟨c14625, c14623, isw14624⟩ := hr14614
                have w2614626 := W26.cong c14260 hI14602 (((gI_sW).trans ((gI_sW).trans ((gI_sW).trans ((gI_sI_ne (by decide)).trans ((gI_sW).trans (q14584.1 231 9 (by decide)))))))) (((gI_sW).trans ((gI_sW).trans ((gI_sW).trans ((gI_sI_ne (by decide)).trans ((gI_sW).trans (q14584.1 231 10 (by decide)))))))) (((gI_sW).trans ((gI_sW).trans ((gI_sW).trans ((gI_sI_ne (by decide)).trans ((gI_sW).trans (q14584.1 231 11 (by decide)))))))) (((gJ_sW).trans ((gJ_sW).trans ((gJ_sW).trans ((gJ_sI_ne (by decide)).trans ((gJ_sW).trans (q14584.2.2 231 12 (by decide))))))))
                refine At.enter rfl ?_
                refine r_ifs 176 rfl (fun c14627 => ?_) (fun c14627 => ?_)
                · have c14627_ : v14613.toInt = 0 := en_k_eq_t c14627
                  refine At.enter rfl ?_
                  refine r_aload_n e14579 ?_
                  refine q_getR (Sh.ref hI14611.1 kx_231 rfl) ?_
                  refine r_iload_n e14581 ?_
                  refine r_bipush 6 rfl ?_
                  refine q_iadd (v14266.toInt + 6) rfl (by omega) (fun v14628 hv14628 => ?_)
                  refine r_aload_n e14579 ?_
                  refine q_getI (Sh.int hI14611.1 kx_231 rfl) v7 (((hF14612.1 231 17 (by decide)).trans ((gI_sW).trans ((gI_sW).trans ((gI_sW).trans ((gI_sI_ne (by decide)).trans ((gI_sW).trans ((q14584.1 231 17 (by decide)).trans ((hF14236.1 231 17 (by decide)).trans (q13745.1 231 17 (by decide)))))))))).trans hv7) ?_
                  refine q_iast (Sh.arr hI14611.1 ka_237) ((8 * v6.toInt + 6)) (by omega) (by omega) ?_
                  have hI14629 := HI.wA0 hI14611 ka_237 (p := 237) rfl rfl ((8 * v6.toInt + 6)) (v7)
                  have hF14630 := Fr.wA (p := 237) (j := (8 * v6.toInt + 6)) (v := v7) hF14615 rfl
                  refine r_vret ?_
                  have x14631 := HI.eqI hI14629 (p := 231) (b := 8) ((((gI_sW).trans ((hF14612.1 231 8 (by decide)).trans ((gI_sW).trans ((gI_sW).trans ((gI_sW).trans ((gI_sI_ne (by decide)).trans ((gI_sW).trans ((q14584.1 231 8 (by decide)).trans ((hF14236.1 231 8 (by decide)).trans (q13745.1 231 8 (by decide))))))))))).trans hv1))
                  have x14632 := HI.eqI hI14629 (p := 231) (b := 9) ((((gI_sW).trans ((hF14612.1 231 9 (by decide)).trans ((gI_sW).trans ((gI_sW).trans ((gI_sW).trans ((gI_sI_ne (by decide)).trans ((gI_sW).trans (q14584.1 231 9 (by decide))))))))).trans hv14247))
                  have x14633 := HI.eqI hI14629 (p := 231) (b := 10) ((((gI_sW).trans ((hF14612.1 231 10 (by decide)).trans ((gI_sW).trans ((gI_sW).trans ((gI_sW).trans ((gI_sI_ne (by decide)).trans ((gI_sW).trans (q14584.1 231 10 (by decide))))))))).trans hv14249))
                  have x14634 := HI.eqI hI14629 (p := 231) (b := 11) ((((gI_sW).trans ((hF14612.1 231 11 (by decide)).trans ((gI_sW).trans ((gI_sW).trans ((gI_sW).trans ((gI_sI_ne (by decide)).trans ((gI_sW).trans (q14584.1 231 11 (by decide))))))))).trans hv14251))
                  have x14635 := HI.eqI hI14629 (p := 231) (b := 14) ((((gI_sW).trans ((hF14612.1 231 14 (by decide)).trans ((gI_sW).trans ((gI_sW).trans ((gI_sW).trans ((gI_sI_ne (by decide)).trans ((gI_sW).trans (q14584.1 231 14 (by decide))))))))).trans hv14253))
                  have x14636 := HI.eqI hI14629 (p := 231) (b := 15) (((gI_sW).trans ((hF14612.1 231 15 (by decide)).trans ((gI_sW).trans ((gI_sW).trans ((gI_sW).trans (gI_sI_eq hI14589.1 kx_231 rfl _)))))))
                  have x14637 := HI.eqI hI14629 (p := 231) (b := 17) ((((gI_sW).trans ((hF14612.1 231 17 (by decide)).trans ((gI_sW).trans ((gI_sW).trans ((gI_sW).trans ((gI_sI_ne (by decide)).trans ((gI_sW).trans ((q14584.1 231 17 (by decide)).trans ((hF14236.1 231 17 (by decide)).trans (q13745.1 231 17 (by decide))))))))))).trans hv7))
                  have x14638 := HI.eqI hI0 (p := 231) (b := 8) (hv1)
                  have x14639 := HI.eqI hI0 (p := 231) (b := 9) (hv2)
                  have x14640 := HI.eqI hI0 (p := 231) (b := 10) (hv3)
                  have x14641 := HI.eqI hI0 (p := 231) (b := 11) (hv4)
                  have x14642 := HI.eqI hI0 (p := 231) (b := 14) (hv5)
                  have x14643 := HI.eqI hI0 (p := 231) (b := 15) (hv6)
                  have x14644 := HI.eqI hI0 (p := 231) (b := 17) (hv7)
                  have w2614645 := W26.cong c14260 hI14629 (((gI_sW).trans ((hF14612.1 231 9 (by decide)).trans ((gI_sW).trans ((gI_sW).trans ((gI_sW).trans ((gI_sI_ne (by decide)).trans ((gI_sW).trans (q14584.1 231 9 (by decide)))))))))) (((gI_sW).trans ((hF14612.1 231 10 (by decide)).trans ((gI_sW).trans ((gI_sW).trans ((gI_sW).trans ((gI_sI_ne (by decide)).trans ((gI_sW).trans (q14584.1 231 10 (by decide)))))))))) (((gI_sW).trans ((hF14612.1 231 11 (by decide)).trans ((gI_sW).trans ((gI_sW).trans ((gI_sW).trans ((gI_sI_ne (by decide)).trans ((gI_sW).trans (q14584.1 231 11 (by decide)))))))))) (((gJ_sW).trans ((hF14612.2.2 231 12 (by decide)).trans ((gJ_sW).trans ((gJ_sW).trans ((gJ_sW).trans ((gJ_sI_ne (by decide)).trans ((gJ_sW).trans (q14584.2.2 231 12 (by decide))))))))))
                  exact ⟨_, rfl, hI14629, hF14630, rfl, ⟨by omega, by omega, by omega, by omega, w2614645, by omega, (fun hbad => by exact ⟨by omega, CLS.step (K := (gI g0 231 15).toInt) (n1 := (gI g0 231 17).toInt) (n2 := v7.toInt) hC ⟨by omega, by omega⟩ ⟨by omega, by omega, by omega⟩ (fun i i0 i1 => ((eA_sA_ne (i := i) hI14611.1 ka_237 (by omega) (by omega) (by omega)).trans ((eA_c (hF14612.2.1 237 (by decide))).trans ((eA_sA_ne (i := i) hI14599.1 ka_237 (by omega) (by omega) (by omega)).trans ((eA_sA_ne (i := i) hI14595.1 ka_237 (by omega) (by omega) (by omega)).trans ((eA_sA_ne (i := i) hI14592.1 ka_237 (by omega) (by omega) (by omega)).trans ((eA_c gA_sI).trans ((eA_sA_ne (i := i) hI14574.1 ka_237 (by omega) (by omega) (by omega)).trans ((q14585 i i0 (by omega)).trans ((eA_c (hF14236.2.1 237 (by decide))).trans (eA_c (q13745.2.1 237 (by decide))))))))))))) (by show (eA _ 237 (8 * (gI g0 231 15).toInt + 3)).toInt = (gI g0 231 17).toInt; rw [show 8 * (gI g0 231 15).toInt + 3 = (8 * v6.toInt + 3) by omega]; exact (congrArg Int32.toInt (((eA_sA_ne hI14611.1 ka_237 (by first | decide | omega) (by first | decide | omega) (by first | decide | omega)).trans ((eA_c (hF14612.2.1 237 (by decide))).trans ((eA_sA_ne hI14599.1 ka_237 (by first | decide | omega) (by first | decide | omega) (by first | decide | omega)).trans ((eA_sA_ne hI14595.1 ka_237 (by first | decide | omega) (by first | decide | omega) (by first | decide | omega)).trans (eA_sA_eq hI14592.1 ka_237 (by first | rfl | omega) (by first | decide | omega) (by first | decide | omega)))))))).trans (by omega)) (by show (eA _ 237 (8 * (gI g0 231 15).toInt + 4)).toInt = v7.toInt; rw [show 8 * (gI g0 231 15).toInt + 4 = (8 * v6.toInt + 4) by omega]; exact (congrArg Int32.toInt (((eA_sA_ne hI14611.1 ka_237 (by first | decide | omega) (by first | decide | omega) (by first | decide | omega)).trans ((eA_c (hF14612.2.1 237 (by decide))).trans ((eA_sA_ne hI14599.1 ka_237 (by first | decide | omega) (by first | decide | omega) (by first | decide | omega)).trans (eA_sA_eq hI14595.1 ka_237 (by first | rfl | omega) (by first | decide | omega) (by first | decide | omega))))))).trans (by omega)) (by show (eA _ 237 (8 * (gI g0 231 15).toInt + 5)).toInt = v7.toInt; rw [show 8 * (gI g0 231 15).toInt + 5 = (8 * v6.toInt + 5) by omega]; exact (congrArg Int32.toInt (((eA_sA_ne hI14611.1 ka_237 (by first | decide | omega) (by first | decide | omega) (by first | decide | omega)).trans ((eA_c (hF14612.2.1 237 (by decide))).trans (eA_sA_eq hI14599.1 ka_237 (by first | rfl | omega) (by first | decide | omega) (by first | decide | omega)))))).trans (by omega)) (by show (eA _ 237 (8 * (gI g0 231 15).toInt + 6)).toInt = (gI _ 231 17).toInt; rw [show 8 * (gI g0 231 15).toInt + 6 = (8 * v6.toInt + 6) by omega]; exact (congrArg Int32.toInt ((eA_sA_eq hI14611.1 ka_237 (by first | rfl | omega) (by first | decide | omega) (by first | decide | omega)))).trans (by omega)) (show SAME g0 _ (gI g0 231 17).toInt from (SAME.c hI14629 (((gA_sA_ne (by decide)).trans ((hF14612.2.1 238 (by decide)).trans ((gA_sA_ne (by decide)).trans ((gA_sA_ne (by decide)).trans ((gA_sA_ne (by decide)).trans ((gA_sI).trans ((gA_sA_ne (by decide)).trans ((q14584.2.1 238 (by decide)).trans ((hF14236.2.1 238 (by decide)).trans (q13745.2.1 238 (by decide)))))))))))) (((gA_sA_ne (by decide)).trans ((hF14612.2.1 239 (by decide)).trans ((gA_sA_ne (by decide)).trans ((gA_sA_ne (by decide)).trans ((gA_sA_ne (by decide)).trans ((gA_sI).trans ((gA_sA_ne (by decide)).trans ((q14584.2.1 239 (by decide)).trans ((hF14236.2.1 239 (by decide)).trans (q13745.2.1 239 (by decide)))))))))))))) (WfCode.nil' (by omega) (by omega) (by omega)) (WfCode.nil' (by omega) (by omega) (by omega))⟩)⟩⟩
                · have c14627_ : v14613.toInt ≠ 0 := en_k_eq_f c14627
                  have i14646 := W26.two w2614626 isw14624 (by omega) (by decide)
                  refine At.enter rfl ?_
                  refine r_aload_n e14579 ?_
                  have x14647 := HI.eqI hI14611 (p := 231) (b := 8) ((((hF14612.1 231 8 (by decide)).trans ((gI_sW).trans ((gI_sW).trans ((gI_sW).trans ((gI_sI_ne (by decide)).trans ((gI_sW).trans ((q14584.1 231 8 (by decide)).trans ((hF14236.1 231 8 (by decide)).trans (q13745.1 231 8 (by decide)))))))))).trans hv1))
                  have x14648 := HI.eqI hI14611 (p := 231) (b := 10) ((((hF14612.1 231 10 (by decide)).trans ((gI_sW).trans ((gI_sW).trans ((gI_sW).trans ((gI_sI_ne (by decide)).trans ((gI_sW).trans (q14584.1 231 10 (by decide)))))))).trans hv14249))
                  refine r_callV 180 rfl [.ref 231] [] (Nat.le_of_ble_eq_true rfl) rfl (T_X11_next_231 _ hI14611 (by omega)) ?_
                  rintro _ _ ⟨g14649, rfl, hI14650, hF14651, rfl, hr14653⟩
                  refine At.stn ?_
                  have hF14654 := Fr.tr hF14615 hF14651 rfl rfl
                  have x14655 := HI.eqI hI14611 (p := 231) (b := 8) ((((hF14612.1 231 8 (by decide)).trans ((gI_sW).trans ((gI_sW).trans ((gI_sW).trans ((gI_sI_ne (by decide)).trans ((gI_sW).trans ((q14584.1 231 8 (by decide)).trans ((hF14236.1 231 8 (by decide)).trans (q13745.1 231 8 (by decide)))))))))).trans hv1))
                  have x14656 := HI.eqI hI14611 (p := 231) (b := 10) ((((hF14612.1 231 10 (by decide)).trans ((gI_sW).trans ((gI_sW).trans ((gI_sW).trans ((gI_sI_ne (by decide)).trans ((gI_sW).trans (q14584.1 231 10 (by decide)))))))).trans hv14249))
                  have x14657 := HI.eqI hI14650 (p := 231) (b := 8) ((((hF14651.1 231 8 (by decide)).trans ((hF14612.1 231 8 (by decide)).trans ((gI_sW).trans ((gI_sW).trans ((gI_sW).trans ((gI_sI_ne (by decide)).trans ((gI_sW).trans ((q14584.1 231 8 (by decide)).trans ((hF14236.1 231 8 (by decide)).trans (q13745.1 231 8 (by decide))))))))))).trans hv1))
                  obtain ⟨v14658, hv14658⟩ : ∃ v, gI g14649 231 9 = v := ⟨_, rfl⟩
                  have rv14658 := RgF.at hI14650.2.1 (p := 231) (b := 9) rfl
                  rw [hv14658] at rv14658
                  dsimp only at rv14658
                  have tv14658 := congrArg Int32.toInt hv14658
                  have x14659 := HI.eqI hI14650 (p := 231) (b := 9) (hv14658)
                  obtain ⟨v14660, hv14660⟩ : ∃ v, gI g14649 231 10 = v := ⟨_, rfl⟩
                  have rv14660 := RgF.at hI14650.2.1 (p := 231) (b := 10) rfl
                  rw [hv14660] at rv14660
                  dsimp only at rv14660
                  have tv14660 := congrArg Int32.toInt hv14660
                  have x14661 := HI.eqI hI14650 (p := 231) (b := 10) (hv14660)
                  obtain ⟨v14662, hv14662⟩ : ∃ v, gI g14649 231 11 = v := ⟨_, rfl⟩
                  have tv14662 := congrArg Int32.toInt hv14662
                  have x14663 := HI.eqI hI14650 (p := 231) (b := 11) (hv14662)
                  obtain ⟨c14664, c14665, c14666, c14667, c14668, c14669⟩ := hr14653
                  refine At.enter rfl ?_
                  refine r_aload_n e14579 ?_
                  refine r_iconst 1 rfl ?_
                  have x14670 := HI.eqI hI14650 (p := 231) (b := 8) ((((hF14651.1 231 8 (by decide)).trans ((hF14612.1 231 8 (by decide)).trans ((gI_sW).trans ((gI_sW).trans ((gI_sW).trans ((gI_sI_ne (by decide)).trans ((gI_sW).trans ((q14584.1 231 8 (by decide)).trans ((hF14236.1 231 8 (by decide)).trans (q13745.1 231 8 (by decide))))))))))).trans hv1))
                  have x14671 := HI.eqI hI14650 (p := 231) (b := 9) (hv14658)
                  have x14672 := HI.eqI hI14650 (p := 231) (b := 10) (hv14660)
                  have x14673 := HI.eqI hI14650 (p := 231) (b := 11) (hv14662)
                  obtain ⟨v14674, hv14674⟩ : ∃ v, gJ g14649 231 12 = v := ⟨_, rfl⟩
                  have x14675 := HI.eqJ hI14650 (b := 12) (hv14674)
                  have x14676 := HI.eqI hI14650 (p := 231) (b := 14) ((((hF14651.1 231 14 (by decide)).trans ((hF14612.1 231 14 (by decide)).trans ((gI_sW).trans ((gI_sW).trans ((gI_sW).trans ((gI_sI_ne (by decide)).trans ((gI_sW).trans (q14584.1 231 14 (by decide))))))))).trans hv14253))
                  have x14677 := HI.eqI hI14650 (p := 231) (b := 17) ((((hF14651.1 231 17 (by decide)).trans ((hF14612.1 231 17 (by decide)).trans ((gI_sW).trans ((gI_sW).trans ((gI_sW).trans ((gI_sI_ne (by decide)).trans ((gI_sW).trans ((q14584.1 231 17 (by decide)).trans ((hF14236.1 231 17 (by decide)).trans (q13745.1 231 17 (by decide))))))))))).trans hv7))
                  obtain ⟨v14678, hv14678⟩ : ∃ v, gI g0 231 23 = v := ⟨_, rfl⟩
                  have rv14678 := RgF.at hI0.2.1 (p := 231) (b := 23) rfl
                  rw [hv14678] at rv14678
                  dsimp only at rv14678
                  have tv14678 := congrArg Int32.toInt hv14678
                  have x14679 := HI.eqI hI14650 (p := 231) (b := 23) ((((hF14651.1 231 23 (by decide)).trans ((hF14612.1 231 23 (by decide)).trans ((gI_sW).trans ((gI_sW).trans ((gI_sW).trans ((gI_sI_ne (by decide)).trans ((gI_sW).trans ((q14584.1 231 23 (by decide)).trans ((hF14236.1 231 23 (by decide)).trans (q13745.1 231 23 (by decide))))))))))).trans hv14678))
                  have zv14680 : (1 : Int32).toInt = 1 := rfl
                  refine r_callV 185 rfl [.ref 231, .int 1] [] (Nat.le_of_ble_eq_true rfl) rfl (T_X11_readExpression_231 _ hI14650 1 (by decide) (by refine ⟨?_, ?_, ?_, ?_⟩ <;> omega) (by omega) (by omega) c14669) ?_
                  rintro _ _ ⟨g14681, rfl, hI14682, hF14683, rfl, hr14685⟩
                  refine At.stn ?_
                  have hF14686 := Fr.tr hF14654 hF14683 rfl rfl
                  have zv14687 : (1 : Int32).toInt = 1 := rfl
                  have x14688 := HI.eqI hI14650 (p := 231) (b := 9) (hv14658)
                  have x14689 := HI.eqI hI14650 (p := 231) (b := 17) ((((hF14651.1 231 17 (by decide)).trans ((hF14612.1 231 17 (by decide)).trans ((gI_sW).trans ((gI_sW).trans ((gI_sW).trans ((gI_sI_ne (by decide)).trans ((gI_sW).trans ((q14584.1 231 17 (by decide)).trans ((hF14236.1 231 17 (by decide)).trans (q13745.1 231 17 (by decide))))))))))).trans hv7))
                  have x14690 := HI.eqI hI14682 (p := 231) (b := 8) ((((hF14683.1 231 8 (by decide)).trans ((hF14651.1 231 8 (by decide)).trans ((hF14612.1 231 8 (by decide)).trans ((gI_sW).trans ((gI_sW).trans ((gI_sW).trans ((gI_sI_ne (by decide)).trans ((gI_sW).trans ((q14584.1 231 8 (by decide)).trans ((hF14236.1 231 8 (by decide)).trans (q13745.1 231 8 (by decide)))))))))))).trans hv1))
                  obtain ⟨v14691, hv14691⟩ : ∃ v, gI g14681 231 9 = v := ⟨_, rfl⟩
                  have rv14691 := RgF.at hI14682.2.1 (p := 231) (b := 9) rfl
                  rw [hv14691] at rv14691
                  dsimp only at rv14691
                  have tv14691 := congrArg Int32.toInt hv14691
                  have x14692 := HI.eqI hI14682 (p := 231) (b := 9) (hv14691)
                  obtain ⟨v14693, hv14693⟩ : ∃ v, gI g14681 231 10 = v := ⟨_, rfl⟩
                  have rv14693 := RgF.at hI14682.2.1 (p := 231) (b := 10) rfl
                  rw [hv14693] at rv14693
                  dsimp only at rv14693
                  have tv14693 := congrArg Int32.toInt hv14693
                  have x14694 := HI.eqI hI14682 (p := 231) (b := 10) (hv14693)
                  obtain ⟨v14695, hv14695⟩ : ∃ v, gI g14681 231 11 = v := ⟨_, rfl⟩
                  have tv14695 := congrArg Int32.toInt hv14695
                  have x14696 := HI.eqI hI14682 (p := 231) (b := 11) (hv14695)
                  obtain ⟨v14697, hv14697⟩ : ∃ v, gJ g14681 231 12 = v := ⟨_, rfl⟩
                  have x14698 := HI.eqJ hI14682 (b := 12) (hv14697)
                  obtain ⟨v14699, hv14699⟩ : ∃ v, gI g14681 231 14 = v := ⟨_, rfl⟩
                  have tv14699 := congrArg Int32.toInt hv14699
                  have x14700 := HI.eqI hI14682 (p := 231) (b := 14) (hv14699)
                  obtain ⟨v14701, hv14701⟩ : ∃ v, gI g14681 231 17 = v := ⟨_, rfl⟩
                  have rv14701 := RgF.at hI14682.2.1 (p := 231) (b := 17) rfl
                  rw [hv14701] at rv14701
                  dsimp only at rv14701
                  have tv14701 := congrArg Int32.toInt hv14701
                  have x14702 := HI.eqI hI14682 (p := 231) (b := 17) (hv14701)
                  obtain ⟨v14703, hv14703⟩ : ∃ v, gI g14681 231 23 = v := ⟨_, rfl⟩
                  have rv14703 := RgF.at hI14682.2.1 (p := 231) (b := 23) rfl
                  rw [hv14703] at rv14703
                  dsimp only at rv14703
                  have tv14703 := congrArg Int32.toInt hv14703
                  have x14704 := HI.eqI hI14682 (p := 231) (b := 23) (hv14703)
                  obtain ⟨c14705, c14706, c14707, c14708, c14709, c14710, c14711⟩ := hr14685
                  refine At.enter rfl ?_
                  refine r_aload_n e14579 ?_
                  refine q_getR (Sh.ref hI14682.1 kx_231 rfl) ?_
                  refine r_iload_n e14581 ?_
                  refine r_bipush 6 rfl ?_
                  refine q_iadd (v14266.toInt + 6) rfl (by omega) (fun v14712 hv14712 => ?_)
                  refine r_aload_n e14579 ?_
                  refine q_getI (Sh.int hI14682.1 kx_231 rfl) v14701 hv14701 ?_
                  refine q_iast (Sh.arr hI14682.1 ka_237) ((8 * v6.toInt + 6)) (by omega) (by omega) ?_
                  have hI14713 := HI.wA0 hI14682 ka_237 (p := 237) rfl rfl ((8 * v6.toInt + 6)) (v14701)
                  have hF14714 := Fr.wA (p := 237) (j := (8 * v6.toInt + 6)) (v := v14701) hF14686 rfl
                  refine r_vret ?_
                  have x14715 := HI.eqI hI14713 (p := 231) (b := 8) ((((gI_sW).trans ((hF14683.1 231 8 (by decide)).trans ((hF14651.1 231 8 (by decide)).trans ((hF14612.1 231 8 (by decide)).trans ((gI_sW).trans ((gI_sW).trans ((gI_sW).trans ((gI_sI_ne (by decide)).trans ((gI_sW).trans ((q14584.1 231 8 (by decide)).trans ((hF14236.1 231 8 (by decide)).trans (q13745.1 231 8 (by decide))))))))))))).trans hv1))
                  have x14716 := HI.eqI hI14713 (p := 231) (b := 9) (((gI_sW).trans hv14691))
                  have x14717 := HI.eqI hI14713 (p := 231) (b := 10) (((gI_sW).trans hv14693))
                  have x14718 := HI.eqI hI14713 (p := 231) (b := 11) (((gI_sW).trans hv14695))
                  have x14719 := HI.eqI hI14713 (p := 231) (b := 14) (((gI_sW).trans hv14699))
                  have x14720 := HI.eqI hI14713 (p := 231) (b := 15) (((gI_sW).trans ((hF14683.1 231 15 (by decide)).trans ((hF14651.1 231 15 (by decide)).trans ((hF14612.1 231 15 (by decide)).trans ((gI_sW).trans ((gI_sW).trans ((gI_sW).trans (gI_sI_eq hI14589.1 kx_231 rfl _)))))))))
                  have x14721 := HI.eqI hI14713 (p := 231) (b := 17) (((gI_sW).trans hv14701))
                  have x14722 := HI.eqI hI0 (p := 231) (b := 8) (hv1)
                  have x14723 := HI.eqI hI0 (p := 231) (b := 9) (hv2)
                  have x14724 := HI.eqI hI0 (p := 231) (b := 10) (hv3)
                  have x14725 := HI.eqI hI0 (p := 231) (b := 11) (hv4)
                  have x14726 := HI.eqI hI0 (p := 231) (b := 14) (hv5)
                  have x14727 := HI.eqI hI0 (p := 231) (b := 15) (hv6)
                  have x14728 := HI.eqI hI0 (p := 231) (b := 17) (hv7)
                  have w2614729 := W26.cong c14709 hI14713 ((gI_sW)) ((gI_sW)) ((gI_sW)) ((gJ_sW))
                  exact ⟨_, rfl, hI14713, hF14714, rfl, ⟨by omega, by omega, by omega, by omega, w2614729, by omega, (fun hbad => by have t0 := (c14711 (by omega)).1; have x0 := (c14711 (by omega)).2; have u0 : (gI _ 231 17).toInt ≤ (gI _ 231 17).toInt := x0.1; exact ⟨by omega, CLS.step (K := (gI g0 231 15).toInt) (n1 := (gI g0 231 17).toInt) (n2 := v7.toInt) hC ⟨by omega, by omega⟩ ⟨by omega, by omega, by omega⟩ (fun i i0 i1 => ((eA_sA_ne (i := i) hI14682.1 ka_237 (by omega) (by omega) (by omega)).trans ((eA_c (hF14683.2.1 237 (by decide))).trans ((eA_c (hF14651.2.1 237 (by decide))).trans ((eA_c (hF14612.2.1 237 (by decide))).trans ((eA_sA_ne (i := i) hI14599.1 ka_237 (by omega) (by omega) (by omega)).trans ((eA_sA_ne (i := i) hI14595.1 ka_237 (by omega) (by omega) (by omega)).trans ((eA_sA_ne (i := i) hI14592.1 ka_237 (by omega) (by omega) (by omega)).trans ((eA_c gA_sI).trans ((eA_sA_ne (i := i) hI14574.1 ka_237 (by omega) (by omega) (by omega)).trans ((q14585 i i0 (by omega)).trans ((eA_c (hF14236.2.1 237 (by decide))).trans (eA_c (q13745.2.1 237 (by decide))))))))))))))) (by show (eA _ 237 (8 * (gI g0 231 15).toInt + 3)).toInt = (gI g0 231 17).toInt; rw [show 8 * (gI g0 231 15).toInt + 3 = (8 * v6.toInt + 3) by omega]; exact (congrArg Int32.toInt (((eA_sA_ne hI14682.1 ka_237 (by first | decide | omega) (by first | decide | omega) (by first | decide | omega)).trans ((eA_c (hF14683.2.1 237 (by decide))).trans ((eA_c (hF14651.2.1 237 (by decide))).trans ((eA_c (hF14612.2.1 237 (by decide))).trans ((eA_sA_ne hI14599.1 ka_237 (by first | decide | omega) (by first | decide | omega) (by first | decide | omega)).trans ((eA_sA_ne hI14595.1 ka_237 (by first | decide | omega) (by first | decide | omega) (by first | decide | omega)).trans (eA_sA_eq hI14592.1 ka_237 (by first | rfl | omega) (by first | decide | omega) (by first | decide | omega)))))))))).trans (by omega)) (by show (eA _ 237 (8 * (gI g0 231 15).toInt + 4)).toInt = v7.toInt; rw [show 8 * (gI g0 231 15).toInt + 4 = (8 * v6.toInt + 4) by omega]; exact (congrArg Int32.toInt (((eA_sA_ne hI14682.1 ka_237 (by first | decide | omega) (by first | decide | omega) (by first | decide | omega)).trans ((eA_c (hF14683.2.1 237 (by decide))).trans ((eA_c (hF14651.2.1 237 (by decide))).trans ((eA_c (hF14612.2.1 237 (by decide))).trans ((eA_sA_ne hI14599.1 ka_237 (by first | decide | omega) (by first | decide | omega) (by first | decide | omega)).trans (eA_sA_eq hI14595.1 ka_237 (by first | rfl | omega) (by first | decide | omega) (by first | decide | omega))))))))).trans (by omega)) (by show (eA _ 237 (8 * (gI g0 231 15).toInt + 5)).toInt = v7.toInt; rw [show 8 * (gI g0 231 15).toInt + 5 = (8 * v6.toInt + 5) by omega]; exact (congrArg Int32.toInt (((eA_sA_ne hI14682.1 ka_237 (by first | decide | omega) (by first | decide | omega) (by first | decide | omega)).trans ((eA_c (hF14683.2.1 237 (by decide))).trans ((eA_c (hF14651.2.1 237 (by decide))).trans ((eA_c (hF14612.2.1 237 (by decide))).trans (eA_sA_eq hI14599.1 ka_237 (by first | rfl | omega) (by first | decide | omega) (by first | decide | omega)))))))).trans (by omega)) (by show (eA _ 237 (8 * (gI g0 231 15).toInt + 6)).toInt = (gI _ 231 17).toInt; rw [show 8 * (gI g0 231 15).toInt + 6 = (8 * v6.toInt + 6) by omega]; exact (congrArg Int32.toInt ((eA_sA_eq hI14682.1 ka_237 (by first | rfl | omega) (by first | decide | omega) (by first | decide | omega)))).trans (by omega)) (show SAME g0 _ (gI g0 231 17).toInt from (SAME.tr (SAME.tr (SAME.c hI14650 (((hF14651.2.1 238 (by decide)).trans ((hF14612.2.1 238 (by decide)).trans ((gA_sA_ne (by decide)).trans ((gA_sA_ne (by decide)).trans ((gA_sA_ne (by decide)).trans ((gA_sI).trans ((gA_sA_ne (by decide)).trans ((q14584.2.1 238 (by decide)).trans ((hF14236.2.1 238 (by decide)).trans (q13745.2.1 238 (by decide)))))))))))) (((hF14651.2.1 239 (by decide)).trans ((hF14612.2.1 239 (by decide)).trans ((gA_sA_ne (by decide)).trans ((gA_sA_ne (by decide)).trans ((gA_sA_ne (by decide)).trans ((gA_sI).trans ((gA_sA_ne (by decide)).trans ((q14584.2.1 239 (by decide)).trans ((hF14236.2.1 239 (by decide)).trans (q13745.2.1 239 (by decide))))))))))))) (EXPR.same x0) (by show _ ≤ (gI _ 231 17).toInt; omega)) (SAME.c hI14713 ((gA_sA_ne (by decide))) ((gA_sA_ne (by decide)))) (Int.le_refl _))) (WfCode.nil' (by omega) (by omega) (by omega)) (EXPR.code x0 (show SAME g14681 _ (gI g14681 231 17).toInt from (SAME.c hI14713 ((gA_sA_ne (by decide))) ((gA_sA_ne (by decide))))) (by show _ = (gI _ 231 17).toInt; omega) (by show _ = (gI _ 231 17).toInt; omega) (by show 0 ≤ (gI _ 231 17).toInt; omega))⟩)⟩⟩
            · have c14597_ : x13732.toInt < 2 := en_i_ge_f c14597
              refine At.enter rfl ?_
              refine r_aload_n e14579 ?_
              refine r_iconst 0 rfl ?_
              have x14730 := HI.eqI hI14595 (p := 231) (b := 8) ((((gI_sW).trans ((gI_sI_ne (by decide)).trans ((gI_sW).trans ((q14584.1 231 8 (by decide)).trans ((hF14236.1 231 8 (by decide)).trans (q13745.1 231 8 (by decide))))))).trans hv1))
              have x14731 := HI.eqI hI14595 (p := 231) (b := 9) ((((gI_sW).trans ((gI_sI_ne (by decide)).trans ((gI_sW).trans (q14584.1 231 9 (by decide))))).trans hv14247))
              have x14732 := HI.eqI hI14595 (p := 231) (b := 10) ((((gI_sW).trans ((gI_sI_ne (by decide)).trans ((gI_sW).trans (q14584.1 231 10 (by decide))))).trans hv14249))
              have x14733 := HI.eqI hI14595 (p := 231) (b := 11) ((((gI_sW).trans ((gI_sI_ne (by decide)).trans ((gI_sW).trans (q14584.1 231 11 (by decide))))).trans hv14251))
              obtain ⟨v14734, hv14734⟩ : ∃ v, gJ g14234 231 12 = v := ⟨_, rfl⟩
              have x14735 := HI.eqJ hI14595 (b := 12) ((((gJ_sW).trans ((gJ_sI_ne (by decide)).trans ((gJ_sW).trans (q14584.2.2 231 12 (by decide))))).trans hv14734))
              have x14736 := HI.eqI hI14595 (p := 231) (b := 14) ((((gI_sW).trans ((gI_sI_ne (by decide)).trans ((gI_sW).trans (q14584.1 231 14 (by decide))))).trans hv14253))
              have x14737 := HI.eqI hI14595 (p := 231) (b := 17) ((((gI_sW).trans ((gI_sI_ne (by decide)).trans ((gI_sW).trans ((q14584.1 231 17 (by decide)).trans ((hF14236.1 231 17 (by decide)).trans (q13745.1 231 17 (by decide))))))).trans hv7))
              obtain ⟨v14738, hv14738⟩ : ∃ v, gI g0 231 23 = v := ⟨_, rfl⟩
              have rv14738 := RgF.at hI0.2.1 (p := 231) (b := 23) rfl
              rw [hv14738] at rv14738
              dsimp only at rv14738
              have tv14738 := congrArg Int32.toInt hv14738
              have x14739 := HI.eqI hI14595 (p := 231) (b := 23) ((((gI_sW).trans ((gI_sI_ne (by decide)).trans ((gI_sW).trans ((q14584.1 231 23 (by decide)).trans ((hF14236.1 231 23 (by decide)).trans (q13745.1 231 23 (by decide))))))).trans hv14738))
              have w2614740 := W26.cong c14260 hI14595 (((gI_sW).trans ((gI_sI_ne (by decide)).trans ((gI_sW).trans (q14584.1 231 9 (by decide)))))) (((gI_sW).trans ((gI_sI_ne (by decide)).trans ((gI_sW).trans (q14584.1 231 10 (by decide)))))) (((gI_sW).trans ((gI_sI_ne (by decide)).trans ((gI_sW).trans (q14584.1 231 11 (by decide)))))) (((gJ_sW).trans ((gJ_sI_ne (by decide)).trans ((gJ_sW).trans (q14584.2.2 231 12 (by decide))))))
              have zv14741 : (0 : Int32).toInt = 0 := rfl
              refine r_callV 135 rfl [.ref 231, .int 0] [] (Nat.le_of_ble_eq_true rfl) rfl (T_X11_readExpression_231 _ hI14595 0 (by decide) (by refine ⟨?_, ?_, ?_, ?_⟩ <;> omega) (by omega) (by omega) w2614740) ?_
              rintro _ _ ⟨g14742, rfl, hI14743, hF14744, rfl, hr14746⟩
              refine At.stn ?_
              have hF14747 := Fr.tr hF14596 hF14744 rfl rfl
              have zv14748 : (0 : Int32).toInt = 0 := rfl
              have x14749 := HI.eqI hI14595 (p := 231) (b := 9) ((((gI_sW).trans ((gI_sI_ne (by decide)).trans ((gI_sW).trans (q14584.1 231 9 (by decide))))).trans hv14247))
              have x14750 := HI.eqI hI14595 (p := 231) (b := 17) ((((gI_sW).trans ((gI_sI_ne (by decide)).trans ((gI_sW).trans ((q14584.1 231 17 (by decide)).trans ((hF14236.1 231 17 (by decide)).trans (q13745.1 231 17 (by decide))))))).trans hv7))
              have x14751 := HI.eqI hI14743 (p := 231) (b := 8) ((((hF14744.1 231 8 (by decide)).trans ((gI_sW).trans ((gI_sI_ne (by decide)).trans ((gI_sW).trans ((q14584.1 231 8 (by decide)).trans ((hF14236.1 231 8 (by decide)).trans (q13745.1 231 8 (by decide)))))))).trans hv1))
              obtain ⟨v14752, hv14752⟩ : ∃ v, gI g14742 231 9 = v := ⟨_, rfl⟩
              have rv14752 := RgF.at hI14743.2.1 (p := 231) (b := 9) rfl
              rw [hv14752] at rv14752
              dsimp only at rv14752
              have tv14752 := congrArg Int32.toInt hv14752
              have x14753 := HI.eqI hI14743 (p := 231) (b := 9) (hv14752)
              obtain ⟨v14754, hv14754⟩ : ∃ v, gI g14742 231 10 = v := ⟨_, rfl⟩
              have rv14754 := RgF.at hI14743.2.1 (p := 231) (b := 10) rfl
              rw [hv14754] at rv14754
              dsimp only at rv14754
              have tv14754 := congrArg Int32.toInt hv14754
              have x14755 := HI.eqI hI14743 (p := 231) (b := 10) (hv14754)
              obtain ⟨v14756, hv14756⟩ : ∃ v, gI g14742 231 11 = v := ⟨_, rfl⟩
              have tv14756 := congrArg Int32.toInt hv14756
              have x14757 := HI.eqI hI14743 (p := 231) (b := 11) (hv14756)
              obtain ⟨v14758, hv14758⟩ : ∃ v, gJ g14742 231 12 = v := ⟨_, rfl⟩
              have x14759 := HI.eqJ hI14743 (b := 12) (hv14758)
              obtain ⟨v14760, hv14760⟩ : ∃ v, gI g14742 231 14 = v := ⟨_, rfl⟩
              have tv14760 := congrArg Int32.toInt hv14760
              have x14761 := HI.eqI hI14743 (p := 231) (b := 14) (hv14760)
              obtain ⟨v14762, hv14762⟩ : ∃ v, gI g14742 231 17 = v := ⟨_, rfl⟩
              have rv14762 := RgF.at hI14743.2.1 (p := 231) (b := 17) rfl
              rw [hv14762] at rv14762
              dsimp only at rv14762
              have tv14762 := congrArg Int32.toInt hv14762
              have x14763 := HI.eqI hI14743 (p := 231) (b := 17) (hv14762)
              obtain ⟨v14764, hv14764⟩ : ∃ v, gI g14742 231 23 = v := ⟨_, rfl⟩
              have rv14764 := RgF.at hI14743.2.1 (p := 231) (b := 23) rfl
              rw [hv14764] at rv14764
              dsimp only at rv14764
              have tv14764 := congrArg Int32.toInt hv14764
              have x14765 := HI.eqI hI14743 (p := 231) (b := 23) (hv14764)
              obtain ⟨c14766, c14767, c14768, c14769, c14770, c14771, c14772⟩ := hr14746
              refine At.enter rfl ?_
              refine r_aload_n e14579 ?_
              refine q_getR (Sh.ref hI14743.1 kx_231 rfl) ?_
              refine r_iload_n e14581 ?_
              refine r_iconst 4 rfl ?_
              refine q_iadd (v14266.toInt + 4) rfl (by omega) (fun v14773 hv14773 => ?_)
              refine r_aload_n e14579 ?_
              refine q_getI (Sh.int hI14743.1 kx_231 rfl) v14762 hv14762 ?_
              refine q_iast (Sh.arr hI14743.1 ka_237) ((8 * v6.toInt + 4)) (by omega) (by omega) ?_
              have hI14774 := HI.wA0 hI14743 ka_237 (p := 237) rfl rfl ((8 * v6.toInt + 4)) (v14762)
              have hF14775 := Fr.wA (p := 237) (j := (8 * v6.toInt + 4)) (v := v14762) hF14747 rfl
              refine r_aload_n e14579 ?_
              refine q_getR (Sh.ref hI14774.1 kx_231 rfl) ?_
              refine r_iload_n e14581 ?_
              refine r_iconst 5 rfl ?_
              refine q_iadd (v14266.toInt + 5) rfl (by omega) (fun v14776 hv14776 => ?_)
              refine r_aload_n e14579 ?_
              refine q_getI (Sh.int hI14774.1 kx_231 rfl) v14762 ((gI_sW).trans hv14762) ?_
              refine q_iast (Sh.arr hI14774.1 ka_237) ((8 * v6.toInt + 5)) (by omega) (by omega) ?_
              have hI14777 := HI.wA0 hI14774 ka_237 (p := 237) rfl rfl ((8 * v6.toInt + 5)) (v14762)
              have hF14778 := Fr.wA (p := 237) (j := (8 * v6.toInt + 5)) (v := v14762) hF14775 rfl
              refine r_aload_n e14579 ?_
              refine q_getI (Sh.int hI14777.1 kx_231 rfl) v14760 (((gI_sW).trans (gI_sW)).trans hv14760) ?_
              refine r_ifs 166 rfl (fun c14779 => ?_) (fun c14779 => ?_)
              · have c14779_ : v14760.toInt ≠ 0 := en_k_ne_t c14779
                refine At.enter rfl ?_
                refine r_aload_n e14579 ?_
                refine q_getR (Sh.ref hI14777.1 kx_231 rfl) ?_
                refine r_iload_n e14581 ?_
                refine r_bipush 6 rfl ?_
                refine q_iadd (v14266.toInt + 6) rfl (by omega) (fun v14780 hv14780 => ?_)
                refine r_aload_n e14579 ?_
                refine q_getI (Sh.int hI14777.1 kx_231 rfl) v14762 (((gI_sW).trans (gI_sW)).trans hv14762) ?_
                refine q_iast (Sh.arr hI14777.1 ka_237) ((8 * v6.toInt + 6)) (by omega) (by omega) ?_
                have hI14781 := HI.wA0 hI14777 ka_237 (p := 237) rfl rfl ((8 * v6.toInt + 6)) (v14762)
                have hF14782 := Fr.wA (p := 237) (j := (8 * v6.toInt + 6)) (v := v14762) hF14778 rfl
                refine r_vret ?_
                have x14783 := HI.eqI hI14781 (p := 231) (b := 8) ((((gI_sW).trans ((gI_sW).trans ((gI_sW).trans ((hF14744.1 231 8 (by decide)).trans ((gI_sW).trans ((gI_sI_ne (by decide)).trans ((gI_sW).trans ((q14584.1 231 8 (by decide)).trans ((hF14236.1 231 8 (by decide)).trans (q13745.1 231 8 (by decide))))))))))).trans hv1))
                have x14784 := HI.eqI hI14781 (p := 231) (b := 9) ((((gI_sW).trans ((gI_sW).trans (gI_sW))).trans hv14752))
                have x14785 := HI.eqI hI14781 (p := 231) (b := 10) ((((gI_sW).trans ((gI_sW).trans (gI_sW))).trans hv14754))
                have x14786 := HI.eqI hI14781 (p := 231) (b := 11) ((((gI_sW).trans ((gI_sW).trans (gI_sW))).trans hv14756))
                have x14787 := HI.eqI hI14781 (p := 231) (b := 14) ((((gI_sW).trans ((gI_sW).trans (gI_sW))).trans hv14760))
                have x14788 := HI.eqI hI14781 (p := 231) (b := 15) (((gI_sW).trans ((gI_sW).trans ((gI_sW).trans ((hF14744.1 231 15 (by decide)).trans ((gI_sW).trans (gI_sI_eq hI14589.1 kx_231 rfl _)))))))
                have x14789 := HI.eqI hI14781 (p := 231) (b := 17) ((((gI_sW).trans ((gI_sW).trans (gI_sW))).trans hv14762))
                have x14790 := HI.eqI hI0 (p := 231) (b := 8) (hv1)
                have x14791 := HI.eqI hI0 (p := 231) (b := 9) (hv2)
                have x14792 := HI.eqI hI0 (p := 231) (b := 10) (hv3)
                have x14793 := HI.eqI hI0 (p := 231) (b := 11) (hv4)
                have x14794 := HI.eqI hI0 (p := 231) (b := 14) (hv5)
                have x14795 := HI.eqI hI0 (p := 231) (b := 15) (hv6)
                have x14796 := HI.eqI hI0 (p := 231) (b := 17) (hv7)
                have w2614797 := W26.cong c14770 hI14781 (((gI_sW).trans ((gI_sW).trans (gI_sW)))) (((gI_sW).trans ((gI_sW).trans (gI_sW)))) (((gI_sW).trans ((gI_sW).trans (gI_sW)))) (((gJ_sW).trans ((gJ_sW).trans (gJ_sW))))
                exact ⟨_, rfl, hI14781, hF14782, rfl, ⟨by omega, by omega, by omega, by omega, w2614797, by omega, (fun hbad => by have t0 := (c14772 (by omega)).1; have x0 := (c14772 (by omega)).2; have u0 : (gI _ 231 17).toInt ≤ (gI _ 231 17).toInt := x0.1; exact ⟨by omega, CLS.step (K := (gI g0 231 15).toInt) (n1 := (gI g0 231 17).toInt) (n2 := v14762.toInt) hC ⟨by omega, by omega⟩ ⟨by omega, by omega, by omega⟩ (fun i i0 i1 => ((eA_sA_ne (i := i) hI14777.1 ka_237 (by omega) (by omega) (by omega)).trans ((eA_sA_ne (i := i) hI14774.1 ka_237 (by omega) (by omega) (by omega)).trans ((eA_sA_ne (i := i) hI14743.1 ka_237 (by omega) (by omega) (by omega)).trans ((eA_c (hF14744.2.1 237 (by decide))).trans ((eA_sA_ne (i := i) hI14592.1 ka_237 (by omega) (by omega) (by omega)).trans ((eA_c gA_sI).trans ((eA_sA_ne (i := i) hI14574.1 ka_237 (by omega) (by omega) (by omega)).trans ((q14585 i i0 (by omega)).trans ((eA_c (hF14236.2.1 237 (by decide))).trans (eA_c (q13745.2.1 237 (by decide))))))))))))) (by show (eA _ 237 (8 * (gI g0 231 15).toInt + 3)).toInt = (gI g0 231 17).toInt; rw [show 8 * (gI g0 231 15).toInt + 3 = (8 * v6.toInt + 3) by omega]; exact (congrArg Int32.toInt (((eA_sA_ne hI14777.1 ka_237 (by first | decide | omega) (by first | decide | omega) (by first | decide | omega)).trans ((eA_sA_ne hI14774.1 ka_237 (by first | decide | omega) (by first | decide | omega) (by first | decide | omega)).trans ((eA_sA_ne hI14743.1 ka_237 (by first | decide | omega) (by first | decide | omega) (by first | decide | omega)).trans ((eA_c (hF14744.2.1 237 (by decide))).trans (eA_sA_eq hI14592.1 ka_237 (by first | rfl | omega) (by first | decide | omega) (by first | decide | omega)))))))).trans (by omega)) (by show (eA _ 237 (8 * (gI g0 231 15).toInt + 4)).toInt = v14762.toInt; rw [show 8 * (gI g0 231 15).toInt + 4 = (8 * v6.toInt + 4) by omega]; exact (congrArg Int32.toInt (((eA_sA_ne hI14777.1 ka_237 (by first | decide | omega) (by first | decide | omega) (by first | decide | omega)).trans ((eA_sA_ne hI14774.1 ka_237 (by first | decide | omega) (by first | decide | omega) (by first | decide | omega)).trans (eA_sA_eq hI14743.1 ka_237 (by first | rfl | omega) (by first | decide | omega) (by first | decide | omega)))))).trans (by omega)) (by show (eA _ 237 (8 * (gI g0 231 15).toInt + 5)).toInt = v14762.toInt; rw [show 8 * (gI g0 231 15).toInt + 5 = (8 * v6.toInt + 5) by omega]; exact (congrArg Int32.toInt (((eA_sA_ne hI14777.1 ka_237 (by first | decide | omega) (by first | decide | omega) (by first | decide | omega)).trans (eA_sA_eq hI14774.1 ka_237 (by first | rfl | omega) (by first | decide | omega) (by first | decide | omega))))).trans (by omega)) (by show (eA _ 237 (8 * (gI g0 231 15).toInt + 6)).toInt = (gI _ 231 17).toInt; rw [show 8 * (gI g0 231 15).toInt + 6 = (8 * v6.toInt + 6) by omega]; exact (congrArg Int32.toInt ((eA_sA_eq hI14777.1 ka_237 (by first | rfl | omega) (by first | decide | omega) (by first | decide | omega)))).trans (by omega)) (show SAME g0 _ (gI g0 231 17).toInt from (SAME.tr (SAME.tr (SAME.c hI14595 (((gA_sA_ne (by decide)).trans ((gA_sI).trans ((gA_sA_ne (by decide)).trans ((q14584.2.1 238 (by decide)).trans ((hF14236.2.1 238 (by decide)).trans (q13745.2.1 238 (by decide)))))))) (((gA_sA_ne (by decide)).trans ((gA_sI).trans ((gA_sA_ne (by decide)).trans ((q14584.2.1 239 (by decide)).trans ((hF14236.2.1 239 (by decide)).trans (q13745.2.1 239 (by decide))))))))) (EXPR.same x0) (by show _ ≤ (gI _ 231 17).toInt; omega)) (SAME.c hI14781 (((gA_sA_ne (by decide)).trans ((gA_sA_ne (by decide)).trans (gA_sA_ne (by decide))))) (((gA_sA_ne (by decide)).trans ((gA_sA_ne (by decide)).trans (gA_sA_ne (by decide)))))) (Int.le_refl _))) (EXPR.code x0 (show SAME g14742 _ (gI g14742 231 17).toInt from (SAME.c hI14781 (((gA_sA_ne (by decide)).trans ((gA_sA_ne (by decide)).trans (gA_sA_ne (by decide))))) (((gA_sA_ne (by decide)).trans ((gA_sA_ne (by decide)).trans (gA_sA_ne (by decide))))))) (by show _ = (gI _ 231 17).toInt; omega) (by show _ = (gI _ 231 17).toInt; omega) (by show 0 ≤ (gI _ 231 17).toInt; omega)) (WfCode.nil' (by omega) (by omega) (by omega))⟩)⟩⟩
              · have c14779_ : v14760.toInt = 0 := en_k_ne_f c14779
                refine At.enter rfl ?_
                refine r_aload_n e14579 ?_
                refine r_ldc2 294 rfl ?_
                have x14798 := HI.eqI hI14777 (p := 231) (b := 11) ((((gI_sW).trans (gI_sW)).trans hv14756))
                have zv14799 : (294 : Int64).toInt = 294 := rfl
                refine r_callV 173 rfl [.ref 231, .long 294] [] (Nat.le_of_ble_eq_true rfl) rfl (T_X11_isWord_231 _ hI14777 294 (by omega)) ?_
                rintro _ _ ⟨g14800, rfl, hI14801, hF14802, v14803, rfl, hr14804⟩
                refine At.sti ?_
                have hF14805 := Fr.tr hF14778 hF14802 rfl rfl
                have zv14806 : (294 : Int64).toInt = 294 := rfl
                have x14807 := HI.eqI hI14777 (p := 231) (b := 9) ((((gI_sW).trans (gI_sW)).trans hv14752))
                have x14808 := HI.eqI hI14777 (p := 231) (b := 10) ((((gI_sW).trans (gI_sW)).trans hv14754))
                have x14809 := HI.eqI hI14777 (p := 231) (b := 11) ((((gI_sW).trans (gI_sW)).trans hv14756))
                have x14810 := HI.eqI hI14801 (p := 231) (b := 9) ((((hF14802.1 231 9 (by decide)).trans ((gI_sW).trans (gI_sW))).trans hv14752))
                have x14811 := HI.eqI hI14801 (p := 231) (b := 10) ((((hF14802.1 231 10 (by decide)).trans ((gI_sW).trans (gI_sW))).trans hv14754))
                have x14812 := HI.eqI hI14801 (p := 231) (b := 11) ((((hF14802.1 231 11 (by decide)).trans ((gI_sW).trans (gI_sW))).trans hv14756))
                obtain ⟨c14815, c14813, isw14814⟩ := hr14804
                have w2614816 := W26.cong c14770 hI14777 (((gI_sW).trans (gI_sW))) (((gI_sW).trans (gI_sW))) (((gI_sW).trans (gI_sW))) (((gJ_sW).trans (gJ_sW)))
                refine At.enter rfl ?_
                refine r_ifs 176 rfl (fun c14817 => ?_) (fun c14817 => ?_)
                · have c14817_ : v14803.toInt = 0 := en_k_eq_t c14817
                  refine At.enter rfl ?_
                  refine r_aload_n e14579 ?_
                  refine q_getR (Sh.ref hI14801.1 kx_231 rfl) ?_
                  refine r_iload_n e14581 ?_
                  refine r_bipush 6 rfl ?_
                  refine q_iadd (v14266.toInt + 6) rfl (by omega) (fun v14818 hv14818 => ?_)
                  refine r_aload_n e14579 ?_
                  refine q_getI (Sh.int hI14801.1 kx_231 rfl) v14762 (((hF14802.1 231 17 (by decide)).trans ((gI_sW).trans (gI_sW))).trans hv14762) ?_
                  refine q_iast (Sh.arr hI14801.1 ka_237) ((8 * v6.toInt + 6)) (by omega) (by omega) ?_
                  have hI14819 := HI.wA0 hI14801 ka_237 (p := 237) rfl rfl ((8 * v6.toInt + 6)) (v14762)
                  have hF14820 := Fr.wA (p := 237) (j := (8 * v6.toInt + 6)) (v := v14762) hF14805 rfl
                  refine r_vret ?_
                  have x14821 := HI.eqI hI14819 (p := 231) (b := 8) ((((gI_sW).trans ((hF14802.1 231 8 (by decide)).trans ((gI_sW).trans ((gI_sW).trans ((hF14744.1 231 8 (by decide)).trans ((gI_sW).trans ((gI_sI_ne (by decide)).trans ((gI_sW).trans ((q14584.1 231 8 (by decide)).trans ((hF14236.1 231 8 (by decide)).trans (q13745.1 231 8 (by decide)))))))))))).trans hv1))
                  have x14822 := HI.eqI hI14819 (p := 231) (b := 9) ((((gI_sW).trans ((hF14802.1 231 9 (by decide)).trans ((gI_sW).trans (gI_sW)))).trans hv14752))
                  have x14823 := HI.eqI hI14819 (p := 231) (b := 10) ((((gI_sW).trans ((hF14802.1 231 10 (by decide)).trans ((gI_sW).trans (gI_sW)))).trans hv14754))
                  have x14824 := HI.eqI hI14819 (p := 231) (b := 11) ((((gI_sW).trans ((hF14802.1 231 11 (by decide)).trans ((gI_sW).trans (gI_sW)))).trans hv14756))
                  have x14825 := HI.eqI hI14819 (p := 231) (b := 14) ((((gI_sW).trans ((hF14802.1 231 14 (by decide)).trans ((gI_sW).trans (gI_sW)))).trans hv14760))
                  have x14826 := HI.eqI hI14819 (p := 231) (b := 15) (((gI_sW).trans ((hF14802.1 231 15 (by decide)).trans ((gI_sW).trans ((gI_sW).trans ((hF14744.1 231 15 (by decide)).trans ((gI_sW).trans (gI_sI_eq hI14589.1 kx_231 rfl _))))))))
                  have x14827 := HI.eqI hI14819 (p := 231) (b := 17) ((((gI_sW).trans ((hF14802.1 231 17 (by decide)).trans ((gI_sW).trans (gI_sW)))).trans hv14762))
                  have x14828 := HI.eqI hI0 (p := 231) (b := 8) (hv1)
                  have x14829 := HI.eqI hI0 (p := 231) (b := 9) (hv2)
                  have x14830 := HI.eqI hI0 (p := 231) (b := 10) (hv3)
                  have x14831 := HI.eqI hI0 (p := 231) (b := 11) (hv4)
                  have x14832 := HI.eqI hI0 (p := 231) (b := 14) (hv5)
                  have x14833 := HI.eqI hI0 (p := 231) (b := 15) (hv6)
                  have x14834 := HI.eqI hI0 (p := 231) (b := 17) (hv7)
                  have w2614835 := W26.cong c14770 hI14819 (((gI_sW).trans ((hF14802.1 231 9 (by decide)).trans ((gI_sW).trans (gI_sW))))) (((gI_sW).trans ((hF14802.1 231 10 (by decide)).trans ((gI_sW).trans (gI_sW))))) (((gI_sW).trans ((hF14802.1 231 11 (by decide)).trans ((gI_sW).trans (gI_sW))))) (((gJ_sW).trans ((hF14802.2.2 231 12 (by decide)).trans ((gJ_sW).trans (gJ_sW)))))
                  exact ⟨_, rfl, hI14819, hF14820, rfl, ⟨by omega, by omega, by omega, by omega, w2614835, by omega, (fun hbad => by have t0 := (c14772 (by omega)).1; have x0 := (c14772 (by omega)).2; have u0 : (gI _ 231 17).toInt ≤ (gI _ 231 17).toInt := x0.1; exact ⟨by omega, CLS.step (K := (gI g0 231 15).toInt) (n1 := (gI g0 231 17).toInt) (n2 := v14762.toInt) hC ⟨by omega, by omega⟩ ⟨by omega, by omega, by omega⟩ (fun i i0 i1 => ((eA_sA_ne (i := i) hI14801.1 ka_237 (by omega) (by omega) (by omega)).trans ((eA_c (hF14802.2.1 237 (by decide))).trans ((eA_sA_ne (i := i) hI14774.1 ka_237 (by omega) (by omega) (by omega)).trans ((eA_sA_ne (i := i) hI14743.1 ka_237 (by omega) (by omega) (by omega)).trans ((eA_c (hF14744.2.1 237 (by decide))).trans ((eA_sA_ne (i := i) hI14592.1 ka_237 (by omega) (by omega) (by omega)).trans ((eA_c gA_sI).trans ((eA_sA_ne (i := i) hI14574.1 ka_237 (by omega) (by omega) (by omega)).trans ((q14585 i i0 (by omega)).trans ((eA_c (hF14236.2.1 237 (by decide))).trans (eA_c (q13745.2.1 237 (by decide)))))))))))))) (by show (eA _ 237 (8 * (gI g0 231 15).toInt + 3)).toInt = (gI g0 231 17).toInt; rw [show 8 * (gI g0 231 15).toInt + 3 = (8 * v6.toInt + 3) by omega]; exact (congrArg Int32.toInt (((eA_sA_ne hI14801.1 ka_237 (by first | decide | omega) (by first | decide | omega) (by first | decide | omega)).trans ((eA_c (hF14802.2.1 237 (by decide))).trans ((eA_sA_ne hI14774.1 ka_237 (by first | decide | omega) (by first | decide | omega) (by first | decide | omega)).trans ((eA_sA_ne hI14743.1 ka_237 (by first | decide | omega) (by first | decide | omega) (by first | decide | omega)).trans ((eA_c (hF14744.2.1 237 (by decide))).trans (eA_sA_eq hI14592.1 ka_237 (by first | rfl | omega) (by first | decide | omega) (by first | decide | omega))))))))).trans (by omega)) (by show (eA _ 237 (8 * (gI g0 231 15).toInt + 4)).toInt = v14762.toInt; rw [show 8 * (gI g0 231 15).toInt + 4 = (8 * v6.toInt + 4) by omega]; exact (congrArg Int32.toInt (((eA_sA_ne hI14801.1 ka_237 (by first | decide | omega) (by first | decide | omega) (by first | decide | omega)).trans ((eA_c (hF14802.2.1 237 (by decide))).trans ((eA_sA_ne hI14774.1 ka_237 (by first | decide | omega) (by first | decide | omega) (by first | decide | omega)).trans (eA_sA_eq hI14743.1 ka_237 (by first | rfl | omega) (by first | decide | omega) (by first | decide | omega))))))).trans (by omega)) (by show (eA _ 237 (8 * (gI g0 231 15).toInt + 5)).toInt = v14762.toInt; rw [show 8 * (gI g0 231 15).toInt + 5 = (8 * v6.toInt + 5) by omega]; exact (congrArg Int32.toInt (((eA_sA_ne hI14801.1 ka_237 (by first | decide | omega) (by first | decide | omega) (by first | decide | omega)).trans ((eA_c (hF14802.2.1 237 (by decide))).trans (eA_sA_eq hI14774.1 ka_237 (by first | rfl | omega) (by first | decide | omega) (by first | decide | omega)))))).trans (by omega)) (by show (eA _ 237 (8 * (gI g0 231 15).toInt + 6)).toInt = (gI _ 231 17).toInt; rw [show 8 * (gI g0 231 15).toInt + 6 = (8 * v6.toInt + 6) by omega]; exact (congrArg Int32.toInt ((eA_sA_eq hI14801.1 ka_237 (by first | rfl | omega) (by first | decide | omega) (by first | decide | omega)))).trans (by omega)) (show SAME g0 _ (gI g0 231 17).toInt from (SAME.tr (SAME.tr (SAME.c hI14595 (((gA_sA_ne (by decide)).trans ((gA_sI).trans ((gA_sA_ne (by decide)).trans ((q14584.2.1 238 (by decide)).trans ((hF14236.2.1 238 (by decide)).trans (q13745.2.1 238 (by decide)))))))) (((gA_sA_ne (by decide)).trans ((gA_sI).trans ((gA_sA_ne (by decide)).trans ((q14584.2.1 239 (by decide)).trans ((hF14236.2.1 239 (by decide)).trans (q13745.2.1 239 (by decide))))))))) (EXPR.same x0) (by show _ ≤ (gI _ 231 17).toInt; omega)) (SAME.c hI14819 (((gA_sA_ne (by decide)).trans ((hF14802.2.1 238 (by decide)).trans ((gA_sA_ne (by decide)).trans (gA_sA_ne (by decide)))))) (((gA_sA_ne (by decide)).trans ((hF14802.2.1 239 (by decide)).trans ((gA_sA_ne (by decide)).trans (gA_sA_ne (by decide))))))) (Int.le_refl _))) (EXPR.code x0 (show SAME g14742 _ (gI g14742 231 17).toInt from (SAME.c hI14819 (((gA_sA_ne (by decide)).trans ((hF14802.2.1 238 (by decide)).trans ((gA_sA_ne (by decide)).trans (gA_sA_ne (by decide)))))) (((gA_sA_ne (by decide)).trans ((hF14802.2.1 239 (by decide)).trans ((gA_sA_ne (by decide)).trans (gA_sA_ne (by decide)))))))) (by show _ = (gI _ 231 17).toInt; omega) (by show _ = (gI _ 231 17).toInt; omega) (by show 0 ≤ (gI _ 231 17).toInt; omega)) (WfCode.nil' (by omega) (by omega) (by omega))⟩)⟩⟩
                · have c14817_ : v14803.toInt ≠ 0 := en_k_eq_f c14817
                  have i14836 := W26.two w2614816 isw14814 (by omega) (by decide)
                  refine At.enter rfl ?_
                  refine r_aload_n e14579 ?_
                  have x14837 := HI.eqI hI14801 (p := 231) (b := 8) ((((hF14802.1 231 8 (by decide)).trans ((gI_sW).trans ((gI_sW).trans ((hF14744.1 231 8 (by decide)).trans ((gI_sW).trans ((gI_sI_ne (by decide)).trans ((gI_sW).trans ((q14584.1 231 8 (by decide)).trans ((hF14236.1 231 8 (by decide)).trans (q13745.1 231 8 (by decide))))))))))).trans hv1))
                  have x14838 := HI.eqI hI14801 (p := 231) (b := 10) ((((hF14802.1 231 10 (by decide)).trans ((gI_sW).trans (gI_sW))).trans hv14754))
                  refine r_callV 180 rfl [.ref 231] [] (Nat.le_of_ble_eq_true rfl) rfl (T_X11_next_231 _ hI14801 (by omega)) ?_
                  rintro _ _ ⟨g14839, rfl, hI14840, hF14841, rfl, hr14843⟩
                  refine At.stn ?_
                  have hF14844 := Fr.tr hF14805 hF14841 rfl rfl
                  have x14845 := HI.eqI hI14801 (p := 231) (b := 8) ((((hF14802.1 231 8 (by decide)).trans ((gI_sW).trans ((gI_sW).trans ((hF14744.1 231 8 (by decide)).trans ((gI_sW).trans ((gI_sI_ne (by decide)).trans ((gI_sW).trans ((q14584.1 231 8 (by decide)).trans ((hF14236.1 231 8 (by decide)).trans (q13745.1 231 8 (by decide))))))))))).trans hv1))
                  have x14846 := HI.eqI hI14801 (p := 231) (b := 10) ((((hF14802.1 231 10 (by decide)).trans ((gI_sW).trans (gI_sW))).trans hv14754))
                  have x14847 := HI.eqI hI14840 (p := 231) (b := 8) ((((hF14841.1 231 8 (by decide)).trans ((hF14802.1 231 8 (by decide)).trans ((gI_sW).trans ((gI_sW).trans ((hF14744.1 231 8 (by decide)).trans ((gI_sW).trans ((gI_sI_ne (by decide)).trans ((gI_sW).trans ((q14584.1 231 8 (by decide)).trans ((hF14236.1 231 8 (by decide)).trans (q13745.1 231 8 (by decide)))))))))))).trans hv1))
                  obtain ⟨v14848, hv14848⟩ : ∃ v, gI g14839 231 9 = v := ⟨_, rfl⟩
                  have rv14848 := RgF.at hI14840.2.1 (p := 231) (b := 9) rfl
                  rw [hv14848] at rv14848
                  dsimp only at rv14848
                  have tv14848 := congrArg Int32.toInt hv14848
                  have x14849 := HI.eqI hI14840 (p := 231) (b := 9) (hv14848)
                  obtain ⟨v14850, hv14850⟩ : ∃ v, gI g14839 231 10 = v := ⟨_, rfl⟩
                  have rv14850 := RgF.at hI14840.2.1 (p := 231) (b := 10) rfl
                  rw [hv14850] at rv14850
                  dsimp only at rv14850
                  have tv14850 := congrArg Int32.toInt hv14850
                  have x14851 := HI.eqI hI14840 (p := 231) (b := 10) (hv14850)
                  obtain ⟨v14852, hv14852⟩ : ∃ v, gI g14839 231 11 = v := ⟨_, rfl⟩
                  have tv14852 := congrArg Int32.toInt hv14852
                  have x14853 := HI.eqI hI14840 (p := 231) (b := 11) (hv14852)
                  obtain ⟨c14854, c14855, c14856, c14857, c14858, c14859⟩ := hr14843
                  refine At.enter rfl ?_
                  refine r_aload_n e14579 ?_
                  refine r_iconst 1 rfl ?_
                  have x14860 := HI.eqI hI14840 (p := 231) (b := 8) ((((hF14841.1 231 8 (by decide)).trans ((hF14802.1 231 8 (by decide)).trans ((gI_sW).trans ((gI_sW).trans ((hF14744.1 231 8 (by decide)).trans ((gI_sW).trans ((gI_sI_ne (by decide)).trans ((gI_sW).trans ((q14584.1 231 8 (by decide)).trans ((hF14236.1 231 8 (by decide)).trans (q13745.1 231 8 (by decide)))))))))))).trans hv1))
                  have x14861 := HI.eqI hI14840 (p := 231) (b := 9) (hv14848)
                  have x14862 := HI.eqI hI14840 (p := 231) (b := 10) (hv14850)
                  have x14863 := HI.eqI hI14840 (p := 231) (b := 11) (hv14852)
                  obtain ⟨v14864, hv14864⟩ : ∃ v, gJ g14839 231 12 = v := ⟨_, rfl⟩
                  have x14865 := HI.eqJ hI14840 (b := 12) (hv14864)
                  have x14866 := HI.eqI hI14840 (p := 231) (b := 14) ((((hF14841.1 231 14 (by decide)).trans ((hF14802.1 231 14 (by decide)).trans ((gI_sW).trans (gI_sW)))).trans hv14760))
                  have x14867 := HI.eqI hI14840 (p := 231) (b := 17) ((((hF14841.1 231 17 (by decide)).trans ((hF14802.1 231 17 (by decide)).trans ((gI_sW).trans (gI_sW)))).trans hv14762))
                  have x14868 := HI.eqI hI14840 (p := 231) (b := 23) ((((hF14841.1 231 23 (by decide)).trans ((hF14802.1 231 23 (by decide)).trans ((gI_sW).trans (gI_sW)))).trans hv14764))
                  have y14869 := (c14772 (by omega)).1
                  have zv14870 : (1 : Int32).toInt = 1 := rfl
                  refine r_callV 185 rfl [.ref 231, .int 1] [] (Nat.le_of_ble_eq_true rfl) rfl (T_X11_readExpression_231 _ hI14840 1 (by decide) (by refine ⟨?_, ?_, ?_, ?_⟩ <;> omega) (by omega) (by omega) c14859) ?_
                  rintro _ _ ⟨g14871, rfl, hI14872, hF14873, rfl, hr14875⟩
                  refine At.stn ?_
                  have hF14876 := Fr.tr hF14844 hF14873 rfl rfl
                  have zv14877 : (1 : Int32).toInt = 1 := rfl
                  have x14878 := HI.eqI hI14840 (p := 231) (b := 9) (hv14848)
                  have x14879 := HI.eqI hI14840 (p := 231) (b := 17) ((((hF14841.1 231 17 (by decide)).trans ((hF14802.1 231 17 (by decide)).trans ((gI_sW).trans (gI_sW)))).trans hv14762))
                  have x14880 := HI.eqI hI14872 (p := 231) (b := 8) ((((hF14873.1 231 8 (by decide)).trans ((hF14841.1 231 8 (by decide)).trans ((hF14802.1 231 8 (by decide)).trans ((gI_sW).trans ((gI_sW).trans ((hF14744.1 231 8 (by decide)).trans ((gI_sW).trans ((gI_sI_ne (by decide)).trans ((gI_sW).trans ((q14584.1 231 8 (by decide)).trans ((hF14236.1 231 8 (by decide)).trans (q13745.1 231 8 (by decide))))))))))))).trans hv1))
                  obtain ⟨v14881, hv14881⟩ : ∃ v, gI g14871 231 9 = v := ⟨_, rfl⟩
                  have rv14881 := RgF.at hI14872.2.1 (p := 231) (b := 9) rfl
                  rw [hv14881] at rv14881
                  dsimp only at rv14881
                  have tv14881 := congrArg Int32.toInt hv14881
                  have x14882 := HI.eqI hI14872 (p := 231) (b := 9) (hv14881)
                  obtain ⟨v14883, hv14883⟩ : ∃ v, gI g14871 231 10 = v := ⟨_, rfl⟩
                  have rv14883 := RgF.at hI14872.2.1 (p := 231) (b := 10) rfl
                  rw [hv14883] at rv14883
                  dsimp only at rv14883
                  have tv14883 := congrArg Int32.toInt hv14883
                  have x14884 := HI.eqI hI14872 (p := 231) (b := 10) (hv14883)
                  obtain ⟨v14885, hv14885⟩ : ∃ v, gI g14871 231 11 = v := ⟨_, rfl⟩
                  have tv14885 := congrArg Int32.toInt hv14885
                  have x14886 := HI.eqI hI14872 (p := 231) (b := 11) (hv14885)
                  obtain ⟨v14887, hv14887⟩ : ∃ v, gJ g14871 231 12 = v := ⟨_, rfl⟩
                  have x14888 := HI.eqJ hI14872 (b := 12) (hv14887)
                  obtain ⟨v14889, hv14889⟩ : ∃ v, gI g14871 231 14 = v := ⟨_, rfl⟩
                  have tv14889 := congrArg Int32.toInt hv14889
                  have x14890 := HI.eqI hI14872 (p := 231) (b := 14) (hv14889)
                  obtain ⟨v14891, hv14891⟩ : ∃ v, gI g14871 231 17 = v := ⟨_, rfl⟩
                  have rv14891 := RgF.at hI14872.2.1 (p := 231) (b := 17) rfl
                  rw [hv14891] at rv14891
                  dsimp only at rv14891
                  have tv14891 := congrArg Int32.toInt hv14891
                  have x14892 := HI.eqI hI14872 (p := 231) (b := 17) (hv14891)
                  obtain ⟨v14893, hv14893⟩ : ∃ v, gI g14871 231 23 = v := ⟨_, rfl⟩
                  have rv14893 := RgF.at hI14872.2.1 (p := 231) (b := 23) rfl
                  rw [hv14893] at rv14893
                  dsimp only at rv14893
                  have tv14893 := congrArg Int32.toInt hv14893
                  have x14894 := HI.eqI hI14872 (p := 231) (b := 23) (hv14893)
                  obtain ⟨c14895, c14896, c14897, c14898, c14899, c14900, c14901⟩ := hr14875
                  refine At.enter rfl ?_
                  refine r_aload_n e14579 ?_
                  refine q_getR (Sh.ref hI14872.1 kx_231 rfl) ?_
                  refine r_iload_n e14581 ?_
                  refine r_bipush 6 rfl ?_
                  refine q_iadd (v14266.toInt + 6) rfl (by omega) (fun v14902 hv14902 => ?_)
                  refine r_aload_n e14579 ?_
                  refine q_getI (Sh.int hI14872.1 kx_231 rfl) v14891 hv14891 ?_
                  refine q_iast (Sh.arr hI14872.1 ka_237) ((8 * v6.toInt + 6)) (by omega) (by omega) ?_
                  have hI14903 := HI.wA0 hI14872 ka_237 (p := 237) rfl rfl ((8 * v6.toInt + 6)) (v14891)
                  have hF14904 := Fr.wA (p := 237) (j := (8 * v6.toInt + 6)) (v := v14891) hF14876 rfl
                  refine r_vret ?_
                  have x14905 := HI.eqI hI14903 (p := 231) (b := 8) ((((gI_sW).trans ((hF14873.1 231 8 (by decide)).trans ((hF14841.1 231 8 (by decide)).trans ((hF14802.1 231 8 (by decide)).trans ((gI_sW).trans ((gI_sW).trans ((hF14744.1 231 8 (by decide)).trans ((gI_sW).trans ((gI_sI_ne (by decide)).trans ((gI_sW).trans ((q14584.1 231 8 (by decide)).trans ((hF14236.1 231 8 (by decide)).trans (q13745.1 231 8 (by decide)))))))))))))).trans hv1))
                  have x14906 := HI.eqI hI14903 (p := 231) (b := 9) (((gI_sW).trans hv14881))
                  have x14907 := HI.eqI hI14903 (p := 231) (b := 10) (((gI_sW).trans hv14883))
                  have x14908 := HI.eqI hI14903 (p := 231) (b := 11) (((gI_sW).trans hv14885))
                  have x14909 := HI.eqI hI14903 (p := 231) (b := 14) (((gI_sW).trans hv14889))
                  have x14910 := HI.eqI hI14903 (p := 231) (b := 15) (((gI_sW).trans ((hF14873.1 231 15 (by decide)).trans ((hF14841.1 231 15 (by decide)).trans ((hF14802.1 231 15 (by decide)).trans ((gI_sW).trans ((gI_sW).trans ((hF14744.1 231 15 (by decide)).trans ((gI_sW).trans (gI_sI_eq hI14589.1 kx_231 rfl _))))))))))
                  have x14911 := HI.eqI hI14903 (p := 231) (b := 17) (((gI_sW).trans hv14891))
                  have x14912 := HI.eqI hI0 (p := 231) (b := 8) (hv1)
                  have x14913 := HI.eqI hI0 (p := 231) (b := 9) (hv2)
                  have x14914 := HI.eqI hI0 (p := 231) (b := 10) (hv3)
                  have x14915 := HI.eqI hI0 (p := 231) (b := 11) (hv4)
                  have x14916 := HI.eqI hI0 (p := 231) (b := 14) (hv5)
                  have x14917 := HI.eqI hI0 (p := 231) (b := 15) (hv6)
                  have x14918 := HI.eqI hI0 (p := 231) (b := 17) (hv7)
                  have w2614919 := W26.cong c14899 hI14903 ((gI_sW)) ((gI_sW)) ((gI_sW)) ((gJ_sW))
                  exact ⟨_, rfl, hI14903, hF14904, rfl, ⟨by omega, by omega, by omega, by omega, w2614919, by omega, (fun hbad => by have t0 := (c14772 (by omega)).1; have x0 := (c14772 (by omega)).2; have u0 : (gI _ 231 17).toInt ≤ (gI _ 231 17).toInt := x0.1; have t1 := (c14901 (by omega)).1; have x1 := (c14901 (by omega)).2; have u1 : (gI _ 231 17).toInt ≤ (gI _ 231 17).toInt := x1.1; exact ⟨by omega, CLS.step (K := (gI g0 231 15).toInt) (n1 := (gI g0 231 17).toInt) (n2 := v14762.toInt) hC ⟨by omega, by omega⟩ ⟨by omega, by omega, by omega⟩ (fun i i0 i1 => ((eA_sA_ne (i := i) hI14872.1 ka_237 (by omega) (by omega) (by omega)).trans ((eA_c (hF14873.2.1 237 (by decide))).trans ((eA_c (hF14841.2.1 237 (by decide))).trans ((eA_c (hF14802.2.1 237 (by decide))).trans ((eA_sA_ne (i := i) hI14774.1 ka_237 (by omega) (by omega) (by omega)).trans ((eA_sA_ne (i := i) hI14743.1 ka_237 (by omega) (by omega) (by omega)).trans ((eA_c (hF14744.2.1 237 (by decide))).trans ((eA_sA_ne (i := i) hI14592.1 ka_237 (by omega) (by omega) (by omega)).trans ((eA_c gA_sI).trans ((eA_sA_ne (i := i) hI14574.1 ka_237 (by omega) (by omega) (by omega)).trans ((q14585 i i0 (by omega)).trans ((eA_c (hF14236.2.1 237 (by decide))).trans (eA_c (q13745.2.1 237 (by decide)))))))))))))))) (by show (eA _ 237 (8 * (gI g0 231 15).toInt + 3)).toInt = (gI g0 231 17).toInt; rw [show 8 * (gI g0 231 15).toInt + 3 = (8 * v6.toInt + 3) by omega]; exact (congrArg Int32.toInt (((eA_sA_ne hI14872.1 ka_237 (by first | decide | omega) (by first | decide | omega) (by first | decide | omega)).trans ((eA_c (hF14873.2.1 237 (by decide))).trans ((eA_c (hF14841.2.1 237 (by decide))).trans ((eA_c (hF14802.2.1 237 (by decide))).trans ((eA_sA_ne hI14774.1 ka_237 (by first | decide | omega) (by first | decide | omega) (by first | decide | omega)).trans ((eA_sA_ne hI14743.1 ka_237 (by first | decide | omega) (by first | decide | omega) (by first | decide | omega)).trans ((eA_c (hF14744.2.1 237 (by decide))).trans (eA_sA_eq hI14592.1 ka_237 (by first | rfl | omega) (by first | decide | omega) (by first | decide | omega))))))))))).trans (by omega)) (by show (eA _ 237 (8 * (gI g0 231 15).toInt + 4)).toInt = v14762.toInt; rw [show 8 * (gI g0 231 15).toInt + 4 = (8 * v6.toInt + 4) by omega]; exact (congrArg Int32.toInt (((eA_sA_ne hI14872.1 ka_237 (by first | decide | omega) (by first | decide | omega) (by first | decide | omega)).trans ((eA_c (hF14873.2.1 237 (by decide))).trans ((eA_c (hF14841.2.1 237 (by decide))).trans ((eA_c (hF14802.2.1 237 (by decide))).trans ((eA_sA_ne hI14774.1 ka_237 (by first | decide | omega) (by first | decide | omega) (by first | decide | omega)).trans (eA_sA_eq hI14743.1 ka_237 (by first | rfl | omega) (by first | decide | omega) (by first | decide | omega))))))))).trans (by omega)) (by show (eA _ 237 (8 * (gI g0 231 15).toInt + 5)).toInt = v14762.toInt; rw [show 8 * (gI g0 231 15).toInt + 5 = (8 * v6.toInt + 5) by omega]; exact (congrArg Int32.toInt (((eA_sA_ne hI14872.1 ka_237 (by first | decide | omega) (by first | decide | omega) (by first | decide | omega)).trans ((eA_c (hF14873.2.1 237 (by decide))).trans ((eA_c (hF14841.2.1 237 (by decide))).trans ((eA_c (hF14802.2.1 237 (by decide))).trans (eA_sA_eq hI14774.1 ka_237 (by first | rfl | omega) (by first | decide | omega) (by first | decide | omega)))))))).trans (by omega)) (by show (eA _ 237 (8 * (gI g0 231 15).toInt + 6)).toInt = (gI _ 231 17).toInt; rw [show 8 * (gI g0 231 15).toInt + 6 = (8 * v6.toInt + 6) by omega]; exact (congrArg Int32.toInt ((eA_sA_eq hI14872.1 ka_237 (by first | rfl | omega) (by first | decide | omega) (by first | decide | omega)))).trans (by omega)) (show SAME g0 _ (gI g0 231 17).toInt from (SAME.tr (SAME.tr (SAME.tr (SAME.tr (SAME.c hI14595 (((gA_sA_ne (by decide)).trans ((gA_sI).trans ((gA_sA_ne (by decide)).trans ((q14584.2.1 238 (by decide)).trans ((hF14236.2.1 238 (by decide)).trans (q13745.2.1 238 (by decide)))))))) (((gA_sA_ne (by decide)).trans ((gA_sI).trans ((gA_sA_ne (by decide)).trans ((q14584.2.1 239 (by decide)).trans ((hF14236.2.1 239 (by decide)).trans (q13745.2.1 239 (by decide))))))))) (EXPR.same x0) (by show _ ≤ (gI _ 231 17).toInt; omega)) (SAME.c hI14840 (((hF14841.2.1 238 (by decide)).trans ((hF14802.2.1 238 (by decide)).trans ((gA_sA_ne (by decide)).trans (gA_sA_ne (by decide)))))) (((hF14841.2.1 239 (by decide)).trans ((hF14802.2.1 239 (by decide)).trans ((gA_sA_ne (by decide)).trans (gA_sA_ne (by decide))))))) (by omega)) (EXPR.same x1) (by show _ ≤ (gI _ 231 17).toInt; omega)) (SAME.c hI14903 ((gA_sA_ne (by decide))) ((gA_sA_ne (by decide)))) (Int.le_refl _))) (EXPR.code x0 (show SAME g14742 _ (gI g14742 231 17).toInt from (SAME.tr (SAME.tr (SAME.c hI14840 (((hF14841.2.1 238 (by decide)).trans ((hF14802.2.1 238 (by decide)).trans ((gA_sA_ne (by decide)).trans (gA_sA_ne (by decide)))))) (((hF14841.2.1 239 (by decide)).trans ((hF14802.2.1 239 (by decide)).trans ((gA_sA_ne (by decide)).trans (gA_sA_ne (by decide))))))) (EXPR.same x1) (by show _ ≤ (gI _ 231 17).toInt; omega)) (SAME.c hI14903 ((gA_sA_ne (by decide))) ((gA_sA_ne (by decide)))) (Int.le_refl _))) (by show _ = (gI _ 231 17).toInt; omega) (by show _ = (gI _ 231 17).toInt; omega) (by show 0 ≤ (gI _ 231 17).toInt; omega)) (EXPR.code x1 (show SAME g14871 _ (gI g14871 231 17).toInt from (SAME.c hI14903 ((gA_sA_ne (by decide))) ((gA_sA_ne (by decide))))) (by show _ = (gI _ 231 17).toInt; omega) (by show _ = (gI _ 231 17).toInt; omega) (by show 0 ≤ (gI _ 231 17).toInt; omega))⟩)⟩⟩
          · have c14588_ : x14572.toInt < 8 := en_i_ge_f c14588
            refine At.enter rfl ?_
            refine r_aload_n e14579 ?_
            refine q_getR (Sh.ref hI14574.1 kx_231 rfl) ?_
            refine r_iload_n e14581 ?_
            refine r_iload_n e14582 ?_
            refine q_iadd (v14266.toInt + x14572.toInt) rfl (by omega) (fun v14920 hv14920 => ?_)
            refine r_iconst 0 rfl ?_
            refine q_iast (Sh.arr hI14574.1 ka_237) ((8 * v6.toInt + x14572.toInt)) (by omega) (by omega) ?_
            have hI14921 := HI.wA0 hI14574 ka_237 (p := 237) rfl rfl ((8 * v6.toInt + x14572.toInt)) (0)
            have hF14922 := Fr.wA (p := 237) (j := (8 * v6.toInt + x14572.toInt)) (v := 0) hF14575 rfl
            refine q_iinc e14582 (x14572.toInt + 1) rfl (by omega) (fun v14923 hv14923 => ?_)
            refine r_goto ?_
            exact ih14578 (8 - v14923.toInt) _ _ ⟨v14923, by first | rfl | omega, hI14921, hF14922, (w_p1 (by decide) (Or.inr rfl) e14579), (w_p1 (by decide) (Or.inr rfl) e14580), (w_p1 (by decide) (Or.inr rfl) e14581), (w_e1 _ _ _), by omega, (Fr.wA (p := 237) q14584 rfl), (fun i i0 i1 => (eA_sA_ne (i := i) hI14574.1 ka_237 (by omega) (by omega) (by omega)).trans (q14585 i i0 i1))⟩ ⟨by omega, by omega⟩
        · have c14262_ : v14253.toInt ≠ 0 := en_k_eq_f c14262
          clear c14261
          refine At.enter rfl ?_
          refine r_vret ?_
          have x14924 := HI.eqI hI14235 (p := 231) (b := 8) ((((hF14236.1 231 8 (by decide)).trans (q13745.1 231 8 (by decide))).trans hv1))
          have x14925 := HI.eqI hI14235 (p := 231) (b := 9) (hv14247)
          have x14926 := HI.eqI hI14235 (p := 231) (b := 10) (hv14249)
          have x14927 := HI.eqI hI14235 (p := 231) (b := 11) (hv14251)
          have x14928 := HI.eqI hI14235 (p := 231) (b := 14) (hv14253)
          have x14929 := HI.eqI hI14235 (p := 231) (b := 15) ((((hF14236.1 231 15 (by decide)).trans (q13745.1 231 15 (by decide))).trans hv6))
          have x14930 := HI.eqI hI14235 (p := 231) (b := 17) ((((hF14236.1 231 17 (by decide)).trans (q13745.1 231 17 (by decide))).trans hv7))
          have x14931 := HI.eqI hI0 (p := 231) (b := 8) (hv1)
          have x14932 := HI.eqI hI0 (p := 231) (b := 9) (hv2)
          have x14933 := HI.eqI hI0 (p := 231) (b := 10) (hv3)
          have x14934 := HI.eqI hI0 (p := 231) (b := 11) (hv4)
          have x14935 := HI.eqI hI0 (p := 231) (b := 14) (hv5)
          have x14936 := HI.eqI hI0 (p := 231) (b := 15) (hv6)
          have x14937 := HI.eqI hI0 (p := 231) (b := 17) (hv7)
          exact ⟨_, rfl, hI14235, hF14239, rfl, ⟨by omega, by omega, by omega, by omega, c14260, by omega, (fun hbad => False.elim (by omega))⟩⟩
      · have c14227_ : v6.toInt < 12 := en_i_ge_f c14227
        refine At.enter rfl ?_
        refine r_iconst 1 rfl ?_
        refine r_goto ?_
        refine At.enter rfl ?_
        have x14938 := HI.eqI hI13735 (p := 231) (b := 8) (((q13745.1 231 8 (by decide)).trans hv1))
        have x14939 := HI.eqI hI13735 (p := 231) (b := 9) (((q13745.1 231 9 (by decide)).trans hv2))
        have x14940 := HI.eqI hI13735 (p := 231) (b := 10) (((q13745.1 231 10 (by decide)).trans hv3))
        have x14941 := HI.eqI hI13735 (p := 231) (b := 11) (((q13745.1 231 11 (by decide)).trans hv4))
        have w2614942 := W26.cong hW hI13735 ((q13745.1 231 9 (by decide))) ((q13745.1 231 10 (by decide))) ((q13745.1 231 11 (by decide))) ((q13745.2.2 231 12 (by decide)))
        have zv14943 : (1 : Int32).toInt = 1 := rfl
        refine r_callV 57 rfl [.ref 231, .int 1] [] (Nat.le_of_ble_eq_true rfl) rfl (T_X11_must_231 _ hI13735 1 (by decide) (by refine ⟨?_, ?_, ?_, ?_⟩ <;> omega) w2614942) ?_
        rintro _ _ ⟨g14944, rfl, hI14945, hF14946, rfl, hr14948⟩
        refine At.stn ?_
        have hF14949 := Fr.tr hF13736 hF14946 rfl rfl
        have zv14950 : (1 : Int32).toInt = 1 := rfl
        have x14951 := HI.eqI hI13735 (p := 231) (b := 8) (((q13745.1 231 8 (by decide)).trans hv1))
        have x14952 := HI.eqI hI13735 (p := 231) (b := 9) (((q13745.1 231 9 (by decide)).trans hv2))
        have x14953 := HI.eqI hI13735 (p := 231) (b := 10) (((q13745.1 231 10 (by decide)).trans hv3))
        have x14954 := HI.eqI hI13735 (p := 231) (b := 11) (((q13745.1 231 11 (by decide)).trans hv4))
        have x14955 := HI.eqI hI13735 (p := 231) (b := 14) (((q13745.1 231 14 (by decide)).trans hv5))
        have x14956 := HI.eqI hI14945 (p := 231) (b := 8) ((((hF14946.1 231 8 (by decide)).trans (q13745.1 231 8 (by decide))).trans hv1))
        obtain ⟨v14957, hv14957⟩ : ∃ v, gI g14944 231 9 = v := ⟨_, rfl⟩
        have rv14957 := RgF.at hI14945.2.1 (p := 231) (b := 9) rfl
        rw [hv14957] at rv14957
        dsimp only at rv14957
        have tv14957 := congrArg Int32.toInt hv14957
        have x14958 := HI.eqI hI14945 (p := 231) (b := 9) (hv14957)
        obtain ⟨v14959, hv14959⟩ : ∃ v, gI g14944 231 10 = v := ⟨_, rfl⟩
        have rv14959 := RgF.at hI14945.2.1 (p := 231) (b := 10) rfl
        rw [hv14959] at rv14959
        dsimp only at rv14959
        have tv14959 := congrArg Int32.toInt hv14959
        have x14960 := HI.eqI hI14945 (p := 231) (b := 10) (hv14959)
        obtain ⟨v14961, hv14961⟩ : ∃ v, gI g14944 231 11 = v := ⟨_, rfl⟩
        have tv14961 := congrArg Int32.toInt hv14961
        have x14962 := HI.eqI hI14945 (p := 231) (b := 11) (hv14961)
        obtain ⟨v14963, hv14963⟩ : ∃ v, gI g14944 231 14 = v := ⟨_, rfl⟩
        have tv14963 := congrArg Int32.toInt hv14963
        have x14964 := HI.eqI hI14945 (p := 231) (b := 14) (hv14963)
        obtain ⟨c14965, c14966, c14967, c14968, c14969, c14970, c14971⟩ := hr14948
        refine At.enter rfl ?_
        refine r_aload_n e13740 ?_
        refine q_getI (Sh.int hI14945.1 kx_231 rfl) v14963 hv14963 ?_
        refine r_ifs 64 rfl (fun c14972 => ?_) (fun c14972 => ?_)
        · have c14972_ : v14963.toInt = 0 := en_k_eq_t c14972
          obtain ⟨i14973, i14974, i14975⟩ := c14971 (by omega)
          refine At.enter rfl ?_
          refine r_bipush 8 rfl ?_
          refine r_aload_n e13740 ?_
          refine q_getI (Sh.int hI14945.1 kx_231 rfl) v6 (((hF14946.1 231 15 (by decide)).trans (q13745.1 231 15 (by decide))).trans hv6) ?_
          refine q_imul (8 * v6.toInt) rfl (by omega) (fun v14976 hv14976 => ?_)
          refine r_istore_n _ rfl ?_
          refine r_iconst 0 rfl ?_
          refine r_istore_n _ rfl ?_
          refine Ar.fall 75 rfl ?_
          have z_15296 : (0 : Int32).toInt = 0 := rfl
          refine w_loopI (fun n_ l_ g_ => ∃ x15282 : Int32, n_ = 8 - x15282.toInt ∧ HI g_ ∧ Fr F_X11_readClause_231 A_X11_readClause_231 g0 g_ ∧ en_get 0 l_ = some (.ref 231) ∧ en_get 1 l_ = some (.int x13732) ∧ en_get 2 l_ = some (.int v14976) ∧ en_get 3 l_ = some (.int x15282) ∧ (0 ≤ x15282.toInt ∧ x15282.toInt ≤ 8) ∧ (Fr [] [237] g14944 g_) ∧ (∀ i : Int, 0 ≤ i → i < v14976.toInt → eA g_ 237 i = eA g14944 237 i)) ?_ (8 - 0) ⟨0, by first | rfl | omega, hI14945, hF14949, (w_p1 (by decide) (Or.inr rfl) (w_p1 (by decide) (Or.inr rfl) e13740)), (w_p1 (by decide) (Or.inr rfl) (w_p1 (by decide) (Or.inr rfl) e13741)), (w_p1 (by decide) (Or.inr rfl) (w_e1 _ _ _)), (w_e1 _ _ _), by decide, Fr.rf, (fun i i0 i1 => rfl)⟩
          rintro n15287 l15286 g15283 ⟨x15282, hm15297, hI15284, hF15285, e15289, e15290, e15291, e15292, r15293, q15294, q15295⟩ ih15288
          refine At.enter rfl ?_
          refine r_iload_n e15292 ?_
          refine r_bipush 8 rfl ?_
          refine r_ics 81 rfl (fun c15298 => ?_) (fun c15298 => ?_)
          · have c15298_ : x15282.toInt ≥ 8 := en_i_ge_t c15298
            refine At.enter rfl ?_
            refine r_aload_n e15289 ?_
            refine q_getR (Sh.ref hI15284.1 kx_231 rfl) ?_
            refine r_iload_n e15291 ?_
            refine r_iload_n e15290 ?_
            refine q_iast (Sh.arr hI15284.1 ka_237) ((8 * v6.toInt)) (by omega) (by omega) ?_
            have hI15299 := HI.wA0 hI15284 ka_237 (p := 237) rfl rfl ((8 * v6.toInt)) (x13732)
            have hF15300 := Fr.wA (p := 237) (j := (8 * v6.toInt)) (v := x13732) hF15285 rfl
            refine r_aload_n e15289 ?_
            refine r_dup rfl ?_
            refine q_getI (Sh.int hI15299.1 kx_231 rfl) v6 (((gI_sW).trans ((q15294.1 231 15 (by decide)).trans ((hF14946.1 231 15 (by decide)).trans (q13745.1 231 15 (by decide))))).trans hv6) ?_
            refine r_iconst 1 rfl ?_
            refine q_iadd (v6.toInt + 1) rfl (by omega) (fun v15301 hv15301 => ?_)
            refine q_putI (Sh.int hI15299.1 kx_231 rfl) rfl ?_
            have hI15302 := HI.wI1 hI15299 kx_231 rfl (p := 231) (b := 15) (v := v15301) rfl (by dsimp only; omega)
            have hF15303 := Fr.wI (p := 231) (b := 15) (v := v15301) hF15300 rfl
            refine r_aload_n e15289 ?_
            refine q_getR (Sh.ref hI15302.1 kx_231 rfl) ?_
            refine r_iload_n e15291 ?_
            refine r_iconst 3 rfl ?_
            refine q_iadd (v14976.toInt + 3) rfl (by omega) (fun v15304 hv15304 => ?_)
            refine r_aload_n e15289 ?_
            refine q_getI (Sh.int hI15302.1 kx_231 rfl) v7 (((gI_sI_ne (by decide)).trans ((gI_sW).trans ((q15294.1 231 17 (by decide)).trans ((hF14946.1 231 17 (by decide)).trans (q13745.1 231 17 (by decide)))))).trans hv7) ?_
            refine q_iast (Sh.arr hI15302.1 ka_237) ((8 * v6.toInt + 3)) (by omega) (by omega) ?_
            have hI15305 := HI.wA0 hI15302 ka_237 (p := 237) rfl rfl ((8 * v6.toInt + 3)) (v7)
            have hF15306 := Fr.wA (p := 237) (j := (8 * v6.toInt + 3)) (v := v7) hF15303 rfl
            refine r_iload_n e15290 ?_
            refine r_iconst 2 rfl ?_
            refine r_ics 130 rfl (fun c15307 => ?_) (fun c15307 => ?_)
            · have c15307_ : x13732.toInt ≥ 2 := en_i_ge_t c15307
              refine At.enter rfl ?_
              refine r_aload_n e15289 ?_
              refine q_getR (Sh.ref hI15305.1 kx_231 rfl) ?_
              refine r_iload_n e15291 ?_
              refine r_iconst 4 rfl ?_
              refine q_iadd (v14976.toInt + 4) rfl (by omega) (fun v15308 hv15308 => ?_)
              refine r_aload_n e15289 ?_
              refine q_getI (Sh.int hI15305.1 kx_231 rfl) v7 (((gI_sW).trans ((gI_sI_ne (by decide)).trans ((gI_sW).trans ((q15294.1 231 17 (by decide)).trans ((hF14946.1 231 17 (by decide)).trans (q13745.1 231 17 (by decide))))))).trans hv7) ?_
              refine q_iast (Sh.arr hI15305.1 ka_237) ((8 * v6.toInt + 4)) (by omega) (by omega) ?_
              have hI15309 := HI.wA0 hI15305 ka_237 (p := 237) rfl rfl ((8 * v6.toInt + 4)) (v7)
              have hF15310 := Fr.wA (p := 237) (j := (8 * v6.toInt + 4)) (v := v7) hF15306 rfl
              refine r_aload_n e15289 ?_
              refine q_getR (Sh.ref hI15309.1 kx_231 rfl) ?_
              refine r_iload_n e15291 ?_
              refine r_iconst 5 rfl ?_
              refine q_iadd (v14976.toInt + 5) rfl (by omega) (fun v15311 hv15311 => ?_)
              refine r_aload_n e15289 ?_
              refine q_getI (Sh.int hI15309.1 kx_231 rfl) v7 (((gI_sW).trans ((gI_sW).trans ((gI_sI_ne (by decide)).trans ((gI_sW).trans ((q15294.1 231 17 (by decide)).trans ((hF14946.1 231 17 (by decide)).trans (q13745.1 231 17 (by decide)))))))).trans hv7) ?_
              refine q_iast (Sh.arr hI15309.1 ka_237) ((8 * v6.toInt + 5)) (by omega) (by omega) ?_
              have hI15312 := HI.wA0 hI15309 ka_237 (p := 237) rfl rfl ((8 * v6.toInt + 5)) (v7)
              have hF15313 := Fr.wA (p := 237) (j := (8 * v6.toInt + 5)) (v := v7) hF15310 rfl
              refine r_aload_n e15289 ?_
              refine q_getI (Sh.int hI15312.1 kx_231 rfl) v14963 (((gI_sW).trans ((gI_sW).trans ((gI_sW).trans ((gI_sI_ne (by decide)).trans ((gI_sW).trans (q15294.1 231 14 (by decide))))))).trans hv14963) ?_
              refine r_ifs 166 rfl (fun c15314 => ?_) (fun c15314 => ?_)
              · have c15314_ : v14963.toInt ≠ 0 := en_k_ne_t c15314
                clear c14971
                exfalso; omega
              · have c15314_ : v14963.toInt = 0 := en_k_ne_f c15314
                obtain ⟨i15315, i15316, i15317⟩ := c14971 (by omega)
                refine At.enter rfl ?_
                refine r_aload_n e15289 ?_
                refine r_ldc2 294 rfl ?_
                have x15318 := HI.eqI hI15312 (p := 231) (b := 11) ((((gI_sW).trans ((gI_sW).trans ((gI_sW).trans ((gI_sI_ne (by decide)).trans ((gI_sW).trans (q15294.1 231 11 (by decide))))))).trans hv14961))
                have zv15319 : (294 : Int64).toInt = 294 := rfl
                refine r_callV 173 rfl [.ref 231, .long 294] [] (Nat.le_of_ble_eq_true rfl) rfl (T_X11_isWord_231 _ hI15312 294 (by omega)) ?_
                rintro _ _ ⟨g15320, rfl, hI15321, hF15322, v15323, rfl, hr15324⟩
                refine At.sti ?_
                have hF15325 := Fr.tr hF15313 hF15322 rfl rfl
                have zv15326 : (294 : Int64).toInt = 294 := rfl
                have x15327 := HI.eqI hI15312 (p := 231) (b := 9) ((((gI_sW).trans ((gI_sW).trans ((gI_sW).trans ((gI_sI_ne (by decide)).trans ((gI_sW).trans (q15294.1 231 9 (by decide))))))).trans hv14957))
                have x15328 := HI.eqI hI15312 (p := 231) (b := 10) ((((gI_sW).trans ((gI_sW).trans ((gI_sW).trans ((gI_sI_ne (by decide)).trans ((gI_sW).trans (q15294.1 231 10 (by decide))))))).trans hv14959))
                have x15329 := HI.eqI hI15312 (p := 231) (b := 11) ((((gI_sW).trans ((gI_sW).trans ((gI_sW).trans ((gI_sI_ne (by decide)).trans ((gI_sW).trans (q15294.1 231 11 (by decide))))))).trans hv14961))
                have x15330 := HI.eqI hI15321 (p := 231) (b := 9) ((((hF15322.1 231 9 (by decide)).trans ((gI_sW).trans ((gI_sW).trans ((gI_sW).trans ((gI_sI_ne (by decide)).trans ((gI_sW).trans (q15294.1 231 9 (by decide)))))))).trans hv14957))
                have x15331 := HI.eqI hI15321 (p := 231) (b := 10) ((((hF15322.1 231 10 (by decide)).trans ((gI_sW).trans ((gI_sW).trans ((gI_sW).trans ((gI_sI_ne (by decide)).trans ((gI_sW).trans (q15294.1 231 10 (by decide)))))))).trans hv14959))
                have x15332 := HI.eqI hI15321 (p := 231) (b := 11) ((((hF15322.1 231 11 (by decide)).trans ((gI_sW).trans ((gI_sW).trans ((gI_sW).trans ((gI_sI_ne (by decide)).trans ((gI_sW).trans (q15294.1 231 11 (by decide)))))))).trans hv14961))
                obtain ⟨c15335, c15333, isw15334⟩ := hr15324
                have w2615336 := W26.cong c14970 hI15312 (((gI_sW).trans ((gI_sW).trans ((gI_sW).trans ((gI_sI_ne (by decide)).trans ((gI_sW).trans (q15294.1 231 9 (by decide)))))))) (((gI_sW).trans ((gI_sW).trans ((gI_sW).trans ((gI_sI_ne (by decide)).trans ((gI_sW).trans (q15294.1 231 10 (by decide)))))))) (((gI_sW).trans ((gI_sW).trans ((gI_sW).trans ((gI_sI_ne (by decide)).trans ((gI_sW).trans (q15294.1 231 11 (by decide)))))))) (((gJ_sW).trans ((gJ_sW).trans ((gJ_sW).trans ((gJ_sI_ne (by decide)).trans ((gJ_sW).trans (q15294.2.2 231 12 (by decide))))))))
                refine At.enter rfl ?_
                refine r_ifs 176 rfl (fun c15337 => ?_) (fun c15337 => ?_)
                · have c15337_ : v15323.toInt = 0 := en_k_eq_t c15337
                  refine At.enter rfl ?_
                  refine r_aload_n e15289 ?_
                  refine q_getR (Sh.ref hI15321.1 kx_231 rfl) ?_
                  refine r_iload_n e15291 ?_
                  refine r_bipush 6 rfl ?_
                  refine q_iadd (v14976.toInt + 6) rfl (by omega) (fun v15338 hv15338 => ?_)
                  refine r_aload_n e15289 ?_
                  refine q_getI (Sh.int hI15321.1 kx_231 rfl) v7 (((hF15322.1 231 17 (by decide)).trans ((gI_sW).trans ((gI_sW).trans ((gI_sW).trans ((gI_sI_ne (by decide)).trans ((gI_sW).trans ((q15294.1 231 17 (by decide)).trans ((hF14946.1 231 17 (by decide)).trans (q13745.1 231 17 (by decide)))))))))).trans hv7) ?_
                  refine q_iast (Sh.arr hI15321.1 ka_237) ((8 * v6.toInt + 6)) (by omega) (by omega) ?_
                  have hI15339 := HI.wA0 hI15321 ka_237 (p := 237) rfl rfl ((8 * v6.toInt + 6)) (v7)
                  have hF15340 := Fr.wA (p := 237) (j := (8 * v6.toInt + 6)) (v := v7) hF15325 rfl
                  refine r_vret ?_
                  have x15341 := HI.eqI hI15339 (p := 231) (b := 8) ((((gI_sW).trans ((hF15322.1 231 8 (by decide)).trans ((gI_sW).trans ((gI_sW).trans ((gI_sW).trans ((gI_sI_ne (by decide)).trans ((gI_sW).trans ((q15294.1 231 8 (by decide)).trans ((hF14946.1 231 8 (by decide)).trans (q13745.1 231 8 (by decide))))))))))).trans hv1))
                  have x15342 := HI.eqI hI15339 (p := 231) (b := 9) ((((gI_sW).trans ((hF15322.1 231 9 (by decide)).trans ((gI_sW).trans ((gI_sW).trans ((gI_sW).trans ((gI_sI_ne (by decide)).trans ((gI_sW).trans (q15294.1 231 9 (by decide))))))))).trans hv14957))
                  have x15343 := HI.eqI hI15339 (p := 231) (b := 10) ((((gI_sW).trans ((hF15322.1 231 10 (by decide)).trans ((gI_sW).trans ((gI_sW).trans ((gI_sW).trans ((gI_sI_ne (by decide)).trans ((gI_sW).trans (q15294.1 231 10 (by decide))))))))).trans hv14959))
                  have x15344 := HI.eqI hI15339 (p := 231) (b := 11) ((((gI_sW).trans ((hF15322.1 231 11 (by decide)).trans ((gI_sW).trans ((gI_sW).trans ((gI_sW).trans ((gI_sI_ne (by decide)).trans ((gI_sW).trans (q15294.1 231 11 (by decide))))))))).trans hv14961))
                  have x15345 := HI.eqI hI15339 (p := 231) (b := 14) ((((gI_sW).trans ((hF15322.1 231 14 (by decide)).trans ((gI_sW).trans ((gI_sW).trans ((gI_sW).trans ((gI_sI_ne (by decide)).trans ((gI_sW).trans (q15294.1 231 14 (by decide))))))))).trans hv14963))
                  have x15346 := HI.eqI hI15339 (p := 231) (b := 15) (((gI_sW).trans ((hF15322.1 231 15 (by decide)).trans ((gI_sW).trans ((gI_sW).trans ((gI_sW).trans (gI_sI_eq hI15299.1 kx_231 rfl _)))))))
                  have x15347 := HI.eqI hI15339 (p := 231) (b := 17) ((((gI_sW).trans ((hF15322.1 231 17 (by decide)).trans ((gI_sW).trans ((gI_sW).trans ((gI_sW).trans ((gI_sI_ne (by decide)).trans ((gI_sW).trans ((q15294.1 231 17 (by decide)).trans ((hF14946.1 231 17 (by decide)).trans (q13745.1 231 17 (by decide))))))))))).trans hv7))
                  have x15348 := HI.eqI hI0 (p := 231) (b := 8) (hv1)
                  have x15349 := HI.eqI hI0 (p := 231) (b := 9) (hv2)
                  have x15350 := HI.eqI hI0 (p := 231) (b := 10) (hv3)
                  have x15351 := HI.eqI hI0 (p := 231) (b := 11) (hv4)
                  have x15352 := HI.eqI hI0 (p := 231) (b := 14) (hv5)
                  have x15353 := HI.eqI hI0 (p := 231) (b := 15) (hv6)
                  have x15354 := HI.eqI hI0 (p := 231) (b := 17) (hv7)
                  have w2615355 := W26.cong c14970 hI15339 (((gI_sW).trans ((hF15322.1 231 9 (by decide)).trans ((gI_sW).trans ((gI_sW).trans ((gI_sW).trans ((gI_sI_ne (by decide)).trans ((gI_sW).trans (q15294.1 231 9 (by decide)))))))))) (((gI_sW).trans ((hF15322.1 231 10 (by decide)).trans ((gI_sW).trans ((gI_sW).trans ((gI_sW).trans ((gI_sI_ne (by decide)).trans ((gI_sW).trans (q15294.1 231 10 (by decide)))))))))) (((gI_sW).trans ((hF15322.1 231 11 (by decide)).trans ((gI_sW).trans ((gI_sW).trans ((gI_sW).trans ((gI_sI_ne (by decide)).trans ((gI_sW).trans (q15294.1 231 11 (by decide)))))))))) (((gJ_sW).trans ((hF15322.2.2 231 12 (by decide)).trans ((gJ_sW).trans ((gJ_sW).trans ((gJ_sW).trans ((gJ_sI_ne (by decide)).trans ((gJ_sW).trans (q15294.2.2 231 12 (by decide))))))))))
                  exact ⟨_, rfl, hI15339, hF15340, rfl, ⟨by omega, by omega, by omega, by omega, w2615355, by omega, (fun hbad => by exact ⟨by omega, CLS.step (K := (gI g0 231 15).toInt) (n1 := (gI g0 231 17).toInt) (n2 := v7.toInt) hC ⟨by omega, by omega⟩ ⟨by omega, by omega, by omega⟩ (fun i i0 i1 => ((eA_sA_ne (i := i) hI15321.1 ka_237 (by omega) (by omega) (by omega)).trans ((eA_c (hF15322.2.1 237 (by decide))).trans ((eA_sA_ne (i := i) hI15309.1 ka_237 (by omega) (by omega) (by omega)).trans ((eA_sA_ne (i := i) hI15305.1 ka_237 (by omega) (by omega) (by omega)).trans ((eA_sA_ne (i := i) hI15302.1 ka_237 (by omega) (by omega) (by omega)).trans ((eA_c gA_sI).trans ((eA_sA_ne (i := i) hI15284.1 ka_237 (by omega) (by omega) (by omega)).trans ((q15295 i i0 (by omega)).trans ((eA_c (hF14946.2.1 237 (by decide))).trans (eA_c (q13745.2.1 237 (by decide))))))))))))) (by show (eA _ 237 (8 * (gI g0 231 15).toInt + 3)).toInt = (gI g0 231 17).toInt; rw [show 8 * (gI g0 231 15).toInt + 3 = (8 * v6.toInt + 3) by omega]; exact (congrArg Int32.toInt (((eA_sA_ne hI15321.1 ka_237 (by first | decide | omega) (by first | decide | omega) (by first | decide | omega)).trans ((eA_c (hF15322.2.1 237 (by decide))).trans ((eA_sA_ne hI15309.1 ka_237 (by first | decide | omega) (by first | decide | omega) (by first | decide | omega)).trans ((eA_sA_ne hI15305.1 ka_237 (by first | decide | omega) (by first | decide | omega) (by first | decide | omega)).trans (eA_sA_eq hI15302.1 ka_237 (by first | rfl | omega) (by first | decide | omega) (by first | decide | omega)))))))).trans (by omega)) (by show (eA _ 237 (8 * (gI g0 231 15).toInt + 4)).toInt = v7.toInt; rw [show 8 * (gI g0 231 15).toInt + 4 = (8 * v6.toInt + 4) by omega]; exact (congrArg Int32.toInt (((eA_sA_ne hI15321.1 ka_237 (by first | decide | omega) (by first | decide | omega) (by first | decide | omega)).trans ((eA_c (hF15322.2.1 237 (by decide))).trans ((eA_sA_ne hI15309.1 ka_237 (by first | decide | omega) (by first | decide | omega) (by first | decide | omega)).trans (eA_sA_eq hI15305.1 ka_237 (by first | rfl | omega) (by first | decide | omega) (by first | decide | omega))))))).trans (by omega)) (by show (eA _ 237 (8 * (gI g0 231 15).toInt + 5)).toInt = v7.toInt; rw [show 8 * (gI g0 231 15).toInt + 5 = (8 * v6.toInt + 5) by omega]; exact (congrArg Int32.toInt (((eA_sA_ne hI15321.1 ka_237 (by first | decide | omega) (by first | decide | omega) (by first | decide | omega)).trans ((eA_c (hF15322.2.1 237 (by decide))).trans (eA_sA_eq hI15309.1 ka_237 (by first | rfl | omega) (by first | decide | omega) (by first | decide | omega)))))).trans (by omega)) (by show (eA _ 237 (8 * (gI g0 231 15).toInt + 6)).toInt = (gI _ 231 17).toInt; rw [show 8 * (gI g0 231 15).toInt + 6 = (8 * v6.toInt + 6) by omega]; exact (congrArg Int32.toInt ((eA_sA_eq hI15321.1 ka_237 (by first | rfl | omega) (by first | decide | omega) (by first | decide | omega)))).trans (by omega)) (show SAME g0 _ (gI g0 231 17).toInt from (SAME.c hI15339 (((gA_sA_ne (by decide)).trans ((hF15322.2.1 238 (by decide)).trans ((gA_sA_ne (by decide)).trans ((gA_sA_ne (by decide)).trans ((gA_sA_ne (by decide)).trans ((gA_sI).trans ((gA_sA_ne (by decide)).trans ((q15294.2.1 238 (by decide)).trans ((hF14946.2.1 238 (by decide)).trans (q13745.2.1 238 (by decide)))))))))))) (((gA_sA_ne (by decide)).trans ((hF15322.2.1 239 (by decide)).trans ((gA_sA_ne (by decide)).trans ((gA_sA_ne (by decide)).trans ((gA_sA_ne (by decide)).trans ((gA_sI).trans ((gA_sA_ne (by decide)).trans ((q15294.2.1 239 (by decide)).trans ((hF14946.2.1 239 (by decide)).trans (q13745.2.1 239 (by decide)))))))))))))) (WfCode.nil' (by omega) (by omega) (by omega)) (WfCode.nil' (by omega) (by omega) (by omega))⟩)⟩⟩
                · have c15337_ : v15323.toInt ≠ 0 := en_k_eq_f c15337
                  have i15356 := W26.two w2615336 isw15334 (by omega) (by decide)
                  refine At.enter rfl ?_
                  refine r_aload_n e15289 ?_
                  have x15357 := HI.eqI hI15321 (p := 231) (b := 8) ((((hF15322.1 231 8 (by decide)).trans ((gI_sW).trans ((gI_sW).trans ((gI_sW).trans ((gI_sI_ne (by decide)).trans ((gI_sW).trans ((q15294.1 231 8 (by decide)).trans ((hF14946.1 231 8 (by decide)).trans (q13745.1 231 8 (by decide)))))))))).trans hv1))
                  have x15358 := HI.eqI hI15321 (p := 231) (b := 10) ((((hF15322.1 231 10 (by decide)).trans ((gI_sW).trans ((gI_sW).trans ((gI_sW).trans ((gI_sI_ne (by decide)).trans ((gI_sW).trans (q15294.1 231 10 (by decide)))))))).trans hv14959))
                  refine r_callV 180 rfl [.ref 231] [] (Nat.le_of_ble_eq_true rfl) rfl (T_X11_next_231 _ hI15321 (by omega)) ?_
                  rintro _ _ ⟨g15359, rfl, hI15360, hF15361, rfl, hr15363⟩
                  refine At.stn ?_
                  have hF15364 := Fr.tr hF15325 hF15361 rfl rfl
                  have x15365 := HI.eqI hI15321 (p := 231) (b := 8) ((((hF15322.1 231 8 (by decide)).trans ((gI_sW).trans ((gI_sW).trans ((gI_sW).trans ((gI_sI_ne (by decide)).trans ((gI_sW).trans ((q15294.1 231 8 (by decide)).trans ((hF14946.1 231 8 (by decide)).trans (q13745.1 231 8 (by decide)))))))))).trans hv1))
                  have x15366 := HI.eqI hI15321 (p := 231) (b := 10) ((((hF15322.1 231 10 (by decide)).trans ((gI_sW).trans ((gI_sW).trans ((gI_sW).trans ((gI_sI_ne (by decide)).trans ((gI_sW).trans (q15294.1 231 10 (by decide)))))))).trans hv14959))
                  have x15367 := HI.eqI hI15360 (p := 231) (b := 8) ((((hF15361.1 231 8 (by decide)).trans ((hF15322.1 231 8 (by decide)).trans ((gI_sW).trans ((gI_sW).trans ((gI_sW).trans ((gI_sI_ne (by decide)).trans ((gI_sW).trans ((q15294.1 231 8 (by decide)).trans ((hF14946.1 231 8 (by decide)).trans (q13745.1 231 8 (by decide))))))))))).trans hv1))
                  obtain ⟨v15368, hv15368⟩ : ∃ v, gI g15359 231 9 = v := ⟨_, rfl⟩
                  have rv15368 := RgF.at hI15360.2.1 (p := 231) (b := 9) rfl
                  rw [hv15368] at rv15368
                  dsimp only at rv15368
                  have tv15368 := congrArg Int32.toInt hv15368
                  have x15369 := HI.eqI hI15360 (p := 231) (b := 9) (hv15368)
                  obtain ⟨v15370, hv15370⟩ : ∃ v, gI g15359 231 10 = v := ⟨_, rfl⟩
                  have rv15370 := RgF.at hI15360.2.1 (p := 231) (b := 10) rfl
                  rw [hv15370] at rv15370
                  dsimp only at rv15370
                  have tv15370 := congrArg Int32.toInt hv15370
                  have x15371 := HI.eqI hI15360 (p := 231) (b := 10) (hv15370)
                  obtain ⟨v15372, hv15372⟩ : ∃ v, gI g15359 231 11 = v := ⟨_, rfl⟩
                  have tv15372 := congrArg Int32.toInt hv15372
                  have x15373 := HI.eqI hI15360 (p := 231) (b := 11) (hv15372)
                  obtain ⟨c15374, c15375, c15376, c15377, c15378, c15379⟩ := hr15363
                  refine At.enter rfl ?_
                  refine r_aload_n e15289 ?_
                  refine r_iconst 1 rfl ?_
                  have x15380 := HI.eqI hI15360 (p := 231) (b := 8) ((((hF15361.1 231 8 (by decide)).trans ((hF15322.1 231 8 (by decide)).trans ((gI_sW).trans ((gI_sW).trans ((gI_sW).trans ((gI_sI_ne (by decide)).trans ((gI_sW).trans ((q15294.1 231 8 (by decide)).trans ((hF14946.1 231 8 (by decide)).trans (q13745.1 231 8 (by decide))))))))))).trans hv1))
                  have x15381 := HI.eqI hI15360 (p := 231) (b := 9) (hv15368)
                  have x15382 := HI.eqI hI15360 (p := 231) (b := 10) (hv15370)
                  have x15383 := HI.eqI hI15360 (p := 231) (b := 11) (hv15372)
                  obtain ⟨v15384, hv15384⟩ : ∃ v, gJ g15359 231 12 = v := ⟨_, rfl⟩
                  have x15385 := HI.eqJ hI15360 (b := 12) (hv15384)
                  have x15386 := HI.eqI hI15360 (p := 231) (b := 14) ((((hF15361.1 231 14 (by decide)).trans ((hF15322.1 231 14 (by decide)).trans ((gI_sW).trans ((gI_sW).trans ((gI_sW).trans ((gI_sI_ne (by decide)).trans ((gI_sW).trans (q15294.1 231 14 (by decide))))))))).trans hv14963))
                  have x15387 := HI.eqI hI15360 (p := 231) (b := 17) ((((hF15361.1 231 17 (by decide)).trans ((hF15322.1 231 17 (by decide)).trans ((gI_sW).trans ((gI_sW).trans ((gI_sW).trans ((gI_sI_ne (by decide)).trans ((gI_sW).trans ((q15294.1 231 17 (by decide)).trans ((hF14946.1 231 17 (by decide)).trans (q13745.1 231 17 (by decide))))))))))).trans hv7))
                  obtain ⟨v15388, hv15388⟩ : ∃ v, gI g0 231 23 = v := ⟨_, rfl⟩
                  have rv15388 := RgF.at hI0.2.1 (p := 231) (b := 23) rfl
                  rw [hv15388] at rv15388
                  dsimp only at rv15388
                  have tv15388 := congrArg Int32.toInt hv15388
                  have x15389 := HI.eqI hI15360 (p := 231) (b := 23) ((((hF15361.1 231 23 (by decide)).trans ((hF15322.1 231 23 (by decide)).trans ((gI_sW).trans ((gI_sW).trans ((gI_sW).trans ((gI_sI_ne (by decide)).trans ((gI_sW).trans ((q15294.1 231 23 (by decide)).trans ((hF14946.1 231 23 (by decide)).trans (q13745.1 231 23 (by decide))))))))))).trans hv15388))
                  have zv15390 : (1 : Int32).toInt = 1 := rfl
                  refine r_callV 185 rfl [.ref 231, .int 1] [] (Nat.le_of_ble_eq_true rfl) rfl (T_X11_readExpression_231 _ hI15360 1 (by decide) (by refine ⟨?_, ?_, ?_, ?_⟩ <;> omega) (by omega) (by omega) c15379) ?_
                  rintro _ _ ⟨g15391, rfl, hI15392, hF15393, rfl, hr15395⟩
                  refine At.stn ?_
                  have hF15396 := Fr.tr hF15364 hF15393 rfl rfl
                  have zv15397 : (1 : Int32).toInt = 1 := rfl
                  have x15398 := HI.eqI hI15360 (p := 231) (b := 9) (hv15368)
                  have x15399 := HI.eqI hI15360 (p := 231) (b := 17) ((((hF15361.1 231 17 (by decide)).trans ((hF15322.1 231 17 (by decide)).trans ((gI_sW).trans ((gI_sW).trans ((gI_sW).trans ((gI_sI_ne (by decide)).trans ((gI_sW).trans ((q15294.1 231 17 (by decide)).trans ((hF14946.1 231 17 (by decide)).trans (q13745.1 231 17 (by decide))))))))))).trans hv7))
                  have x15400 := HI.eqI hI15392 (p := 231) (b := 8) ((((hF15393.1 231 8 (by decide)).trans ((hF15361.1 231 8 (by decide)).trans ((hF15322.1 231 8 (by decide)).trans ((gI_sW).trans ((gI_sW).trans ((gI_sW).trans ((gI_sI_ne (by decide)).trans ((gI_sW).trans ((q15294.1 231 8 (by decide)).trans ((hF14946.1 231 8 (by decide)).trans (q13745.1 231 8 (by decide)))))))))))).trans hv1))
                  obtain ⟨v15401, hv15401⟩ : ∃ v, gI g15391 231 9 = v := ⟨_, rfl⟩
                  have rv15401 := RgF.at hI15392.2.1 (p := 231) (b := 9) rfl
                  rw [hv15401] at rv15401
                  dsimp only at rv15401
                  have tv15401 := congrArg Int32.toInt hv15401
                  have x15402 := HI.eqI hI15392 (p := 231) (b := 9) (hv15401)
                  obtain ⟨v15403, hv15403⟩ : ∃ v, gI g15391 231 10 = v := ⟨_, rfl⟩
                  have rv15403 := RgF.at hI15392.2.1 (p := 231) (b := 10) rfl
                  rw [hv15403] at rv15403
                  dsimp only at rv15403
                  have tv15403 := congrArg Int32.toInt hv15403
                  have x15404 := HI.eqI hI15392 (p := 231) (b := 10) (hv15403)
                  obtain ⟨v15405, hv15405⟩ : ∃ v, gI g15391 231 11 = v := ⟨_, rfl⟩
                  have tv15405 := congrArg Int32.toInt hv15405
                  have x15406 := HI.eqI hI15392 (p := 231) (b := 11) (hv15405)
                  obtain ⟨v15407, hv15407⟩ : ∃ v, gJ g15391 231 12 = v := ⟨_, rfl⟩
                  have x15408 := HI.eqJ hI15392 (b := 12) (hv15407)
                  obtain ⟨v15409, hv15409⟩ : ∃ v, gI g15391 231 14 = v := ⟨_, rfl⟩
                  have tv15409 := congrArg Int32.toInt hv15409
                  have x15410 := HI.eqI hI15392 (p := 231) (b := 14) (hv15409)
                  obtain ⟨v15411, hv15411⟩ : ∃ v, gI g15391 231 17 = v := ⟨_, rfl⟩
                  have rv15411 := RgF.at hI15392.2.1 (p := 231) (b := 17) rfl
                  rw [hv15411] at rv15411
                  dsimp only at rv15411
                  have tv15411 := congrArg Int32.toInt hv15411
                  have x15412 := HI.eqI hI15392 (p := 231) (b := 17) (hv15411)
                  obtain ⟨v15413, hv15413⟩ : ∃ v, gI g15391 231 23 = v := ⟨_, rfl⟩
                  have rv15413 := RgF.at hI15392.2.1 (p := 231) (b := 23) rfl
                  rw [hv15413] at rv15413
                  dsimp only at rv15413
                  have tv15413 := congrArg Int32.toInt hv15413
                  have x15414 := HI.eqI hI15392 (p := 231) (b := 23) (hv15413)
                  obtain ⟨c15415, c15416, c15417, c15418, c15419, c15420, c15421⟩ := hr15395
                  refine At.enter rfl ?_
                  refine r_aload_n e15289 ?_
                  refine q_getR (Sh.ref hI15392.1 kx_231 rfl) ?_
                  refine r_iload_n e15291 ?_
                  refine r_bipush 6 rfl ?_
                  refine q_iadd (v14976.toInt + 6) rfl (by omega) (fun v15422 hv15422 => ?_)
                  refine r_aload_n e15289 ?_
                  refine q_getI (Sh.int hI15392.1 kx_231 rfl) v15411 hv15411 ?_
                  refine q_iast (Sh.arr hI15392.1 ka_237) ((8 * v6.toInt + 6)) (by omega) (by omega) ?_
                  have hI15423 := HI.wA0 hI15392 ka_237 (p := 237) rfl rfl ((8 * v6.toInt + 6)) (v15411)
                  have hF15424 := Fr.wA (p := 237) (j := (8 * v6.toInt + 6)) (v := v15411) hF15396 rfl
                  refine r_vret ?_
                  have x15425 := HI.eqI hI15423 (p := 231) (b := 8) ((((gI_sW).trans ((hF15393.1 231 8 (by decide)).trans ((hF15361.1 231 8 (by decide)).trans ((hF15322.1 231 8 (by decide)).trans ((gI_sW).trans ((gI_sW).trans ((gI_sW).trans ((gI_sI_ne (by decide)).trans ((gI_sW).trans ((q15294.1 231 8 (by decide)).trans ((hF14946.1 231 8 (by decide)).trans (q13745.1 231 8 (by decide))))))))))))).trans hv1))
                  have x15426 := HI.eqI hI15423 (p := 231) (b := 9) (((gI_sW).trans hv15401))
                  have x15427 := HI.eqI hI15423 (p := 231) (b := 10) (((gI_sW).trans hv15403))
                  have x15428 := HI.eqI hI15423 (p := 231) (b := 11) (((gI_sW).trans hv15405))
                  have x15429 := HI.eqI hI15423 (p := 231) (b := 14) (((gI_sW).trans hv15409))
                  have x15430 := HI.eqI hI15423 (p := 231) (b := 15) (((gI_sW).trans ((hF15393.1 231 15 (by decide)).trans ((hF15361.1 231 15 (by decide)).trans ((hF15322.1 231 15 (by decide)).trans ((gI_sW).trans ((gI_sW).trans ((gI_sW).trans (gI_sI_eq hI15299.1 kx_231 rfl _)))))))))
                  have x15431 := HI.eqI hI15423 (p := 231) (b := 17) (((gI_sW).trans hv15411))
                  have x15432 := HI.eqI hI0 (p := 231) (b := 8) (hv1)
                  have x15433 := HI.eqI hI0 (p := 231) (b := 9) (hv2)
                  have x15434 := HI.eqI hI0 (p := 231) (b := 10) (hv3)
                  have x15435 := HI.eqI hI0 (p := 231) (b := 11) (hv4)
                  have x15436 := HI.eqI hI0 (p := 231) (b := 14) (hv5)
                  have x15437 := HI.eqI hI0 (p := 231) (b := 15) (hv6)
                  have x15438 := HI.eqI hI0 (p := 231) (b := 17) (hv7)
                  have w2615439 := W26.cong c15419 hI15423 ((gI_sW)) ((gI_sW)) ((gI_sW)) ((gJ_sW))
                  exact ⟨_, rfl, hI15423, hF15424, rfl, ⟨by omega, by omega, by omega, by omega, w2615439, by omega, (fun hbad => by have t0 := (c15421 (by omega)).1; have x0 := (c15421 (by omega)).2; have u0 : (gI _ 231 17).toInt ≤ (gI _ 231 17).toInt := x0.1; exact ⟨by omega, CLS.step (K := (gI g0 231 15).toInt) (n1 := (gI g0 231 17).toInt) (n2 := v7.toInt) hC ⟨by omega, by omega⟩ ⟨by omega, by omega, by omega⟩ (fun i i0 i1 => ((eA_sA_ne (i := i) hI15392.1 ka_237 (by omega) (by omega) (by omega)).trans ((eA_c (hF15393.2.1 237 (by decide))).trans ((eA_c (hF15361.2.1 237 (by decide))).trans ((eA_c (hF15322.2.1 237 (by decide))).trans ((eA_sA_ne (i := i) hI15309.1 ka_237 (by omega) (by omega) (by omega)).trans ((eA_sA_ne (i := i) hI15305.1 ka_237 (by omega) (by omega) (by omega)).trans ((eA_sA_ne (i := i) hI15302.1 ka_237 (by omega) (by omega) (by omega)).trans ((eA_c gA_sI).trans ((eA_sA_ne (i := i) hI15284.1 ka_237 (by omega) (by omega) (by omega)).trans ((q15295 i i0 (by omega)).trans ((eA_c (hF14946.2.1 237 (by decide))).trans (eA_c (q13745.2.1 237 (by decide))))))))))))))) (by show (eA _ 237 (8 * (gI g0 231 15).toInt + 3)).toInt = (gI g0 231 17).toInt; rw [show 8 * (gI g0 231 15).toInt + 3 = (8 * v6.toInt + 3) by omega]; exact (congrArg Int32.toInt (((eA_sA_ne hI15392.1 ka_237 (by first | decide | omega) (by first | decide | omega) (by first | decide | omega)).trans ((eA_c (hF15393.2.1 237 (by decide))).trans ((eA_c (hF15361.2.1 237 (by decide))).trans ((eA_c (hF15322.2.1 237 (by decide))).trans ((eA_sA_ne hI15309.1 ka_237 (by first | decide | omega) (by first | decide | omega) (by first | decide | omega)).trans ((eA_sA_ne hI15305.1 ka_237 (by first | decide | omega) (by first | decide | omega) (by first | decide | omega)).trans (eA_sA_eq hI15302.1 ka_237 (by first | rfl | omega) (by first | decide | omega) (by first | decide | omega)))))))))).trans (by omega)) (by show (eA _ 237 (8 * (gI g0 231 15).toInt + 4)).toInt = v7.toInt; rw [show 8 * (gI g0 231 15).toInt + 4 = (8 * v6.toInt + 4) by omega]; exact (congrArg Int32.toInt (((eA_sA_ne hI15392.1 ka_237 (by first | decide | omega) (by first | decide | omega) (by first | decide | omega)).trans ((eA_c (hF15393.2.1 237 (by decide))).trans ((eA_c (hF15361.2.1 237 (by decide))).trans ((eA_c (hF15322.2.1 237 (by decide))).trans ((eA_sA_ne hI15309.1 ka_237 (by first | decide | omega) (by first | decide | omega) (by first | decide | omega)).trans (eA_sA_eq hI15305.1 ka_237 (by first | rfl | omega) (by first | decide | omega) (by first | decide | omega))))))))).trans (by omega)) (by show (eA _ 237 (8 * (gI g0 231 15).toInt + 5)).toInt = v7.toInt; rw [show 8 * (gI g0 231 15).toInt + 5 = (8 * v6.toInt + 5) by omega]; exact (congrArg Int32.toInt (((eA_sA_ne hI15392.1 ka_237 (by first | decide | omega) (by first | decide | omega) (by first | decide | omega)).trans ((eA_c (hF15393.2.1 237 (by decide))).trans ((eA_c (hF15361.2.1 237 (by decide))).trans ((eA_c (hF15322.2.1 237 (by decide))).trans (eA_sA_eq hI15309.1 ka_237 (by first | rfl | omega) (by first | decide | omega) (by first | decide | omega)))))))).trans (by omega)) (by show (eA _ 237 (8 * (gI g0 231 15).toInt + 6)).toInt = (gI _ 231 17).toInt; rw [show 8 * (gI g0 231 15).toInt + 6 = (8 * v6.toInt + 6) by omega]; exact (congrArg Int32.toInt ((eA_sA_eq hI15392.1 ka_237 (by first | rfl | omega) (by first | decide | omega) (by first | decide | omega)))).trans (by omega)) (show SAME g0 _ (gI g0 231 17).toInt from (SAME.tr (SAME.tr (SAME.c hI15360 (((hF15361.2.1 238 (by decide)).trans ((hF15322.2.1 238 (by decide)).trans ((gA_sA_ne (by decide)).trans ((gA_sA_ne (by decide)).trans ((gA_sA_ne (by decide)).trans ((gA_sI).trans ((gA_sA_ne (by decide)).trans ((q15294.2.1 238 (by decide)).trans ((hF14946.2.1 238 (by decide)).trans (q13745.2.1 238 (by decide)))))))))))) (((hF15361.2.1 239 (by decide)).trans ((hF15322.2.1 239 (by decide)).trans ((gA_sA_ne (by decide)).trans ((gA_sA_ne (by decide)).trans ((gA_sA_ne (by decide)).trans ((gA_sI).trans ((gA_sA_ne (by decide)).trans ((q15294.2.1 239 (by decide)).trans ((hF14946.2.1 239 (by decide)).trans (q13745.2.1 239 (by decide))))))))))))) (EXPR.same x0) (by show _ ≤ (gI _ 231 17).toInt; omega)) (SAME.c hI15423 ((gA_sA_ne (by decide))) ((gA_sA_ne (by decide)))) (Int.le_refl _))) (WfCode.nil' (by omega) (by omega) (by omega)) (EXPR.code x0 (show SAME g15391 _ (gI g15391 231 17).toInt from (SAME.c hI15423 ((gA_sA_ne (by decide))) ((gA_sA_ne (by decide))))) (by show _ = (gI _ 231 17).toInt; omega) (by show _ = (gI _ 231 17).toInt; omega) (by show 0 ≤ (gI _ 231 17).toInt; omega))⟩)⟩⟩
            · have c15307_ : x13732.toInt < 2 := en_i_ge_f c15307
              refine At.enter rfl ?_
              refine r_aload_n e15289 ?_
              refine r_iconst 0 rfl ?_
              have x15440 := HI.eqI hI15305 (p := 231) (b := 8) ((((gI_sW).trans ((gI_sI_ne (by decide)).trans ((gI_sW).trans ((q15294.1 231 8 (by decide)).trans ((hF14946.1 231 8 (by decide)).trans (q13745.1 231 8 (by decide))))))).trans hv1))
              have x15441 := HI.eqI hI15305 (p := 231) (b := 9) ((((gI_sW).trans ((gI_sI_ne (by decide)).trans ((gI_sW).trans (q15294.1 231 9 (by decide))))).trans hv14957))
              have x15442 := HI.eqI hI15305 (p := 231) (b := 10) ((((gI_sW).trans ((gI_sI_ne (by decide)).trans ((gI_sW).trans (q15294.1 231 10 (by decide))))).trans hv14959))
              have x15443 := HI.eqI hI15305 (p := 231) (b := 11) ((((gI_sW).trans ((gI_sI_ne (by decide)).trans ((gI_sW).trans (q15294.1 231 11 (by decide))))).trans hv14961))
              obtain ⟨v15444, hv15444⟩ : ∃ v, gJ g14944 231 12 = v := ⟨_, rfl⟩
              have x15445 := HI.eqJ hI15305 (b := 12) ((((gJ_sW).trans ((gJ_sI_ne (by decide)).trans ((gJ_sW).trans (q15294.2.2 231 12 (by decide))))).trans hv15444))
              have x15446 := HI.eqI hI15305 (p := 231) (b := 14) ((((gI_sW).trans ((gI_sI_ne (by decide)).trans ((gI_sW).trans (q15294.1 231 14 (by decide))))).trans hv14963))
              have x15447 := HI.eqI hI15305 (p := 231) (b := 17) ((((gI_sW).trans ((gI_sI_ne (by decide)).trans ((gI_sW).trans ((q15294.1 231 17 (by decide)).trans ((hF14946.1 231 17 (by decide)).trans (q13745.1 231 17 (by decide))))))).trans hv7))
              obtain ⟨v15448, hv15448⟩ : ∃ v, gI g0 231 23 = v := ⟨_, rfl⟩
              have rv15448 := RgF.at hI0.2.1 (p := 231) (b := 23) rfl
              rw [hv15448] at rv15448
              dsimp only at rv15448
              have tv15448 := congrArg Int32.toInt hv15448
              have x15449 := HI.eqI hI15305 (p := 231) (b := 23) ((((gI_sW).trans ((gI_sI_ne (by decide)).trans ((gI_sW).trans ((q15294.1 231 23 (by decide)).trans ((hF14946.1 231 23 (by decide)).trans (q13745.1 231 23 (by decide))))))).trans hv15448))
              have w2615450 := W26.cong c14970 hI15305 (((gI_sW).trans ((gI_sI_ne (by decide)).trans ((gI_sW).trans (q15294.1 231 9 (by decide)))))) (((gI_sW).trans ((gI_sI_ne (by decide)).trans ((gI_sW).trans (q15294.1 231 10 (by decide)))))) (((gI_sW).trans ((gI_sI_ne (by decide)).trans ((gI_sW).trans (q15294.1 231 11 (by decide)))))) (((gJ_sW).trans ((gJ_sI_ne (by decide)).trans ((gJ_sW).trans (q15294.2.2 231 12 (by decide))))))
              have zv15451 : (0 : Int32).toInt = 0 := rfl
              refine r_callV 135 rfl [.ref 231, .int 0] [] (Nat.le_of_ble_eq_true rfl) rfl (T_X11_readExpression_231 _ hI15305 0 (by decide) (by refine ⟨?_, ?_, ?_, ?_⟩ <;> omega) (by omega) (by omega) w2615450) ?_
              rintro _ _ ⟨g15452, rfl, hI15453, hF15454, rfl, hr15456⟩
              refine At.stn ?_
              have hF15457 := Fr.tr hF15306 hF15454 rfl rfl
              have zv15458 : (0 : Int32).toInt = 0 := rfl
              have x15459 := HI.eqI hI15305 (p := 231) (b := 9) ((((gI_sW).trans ((gI_sI_ne (by decide)).trans ((gI_sW).trans (q15294.1 231 9 (by decide))))).trans hv14957))
              have x15460 := HI.eqI hI15305 (p := 231) (b := 17) ((((gI_sW).trans ((gI_sI_ne (by decide)).trans ((gI_sW).trans ((q15294.1 231 17 (by decide)).trans ((hF14946.1 231 17 (by decide)).trans (q13745.1 231 17 (by decide))))))).trans hv7))
              have x15461 := HI.eqI hI15453 (p := 231) (b := 8) ((((hF15454.1 231 8 (by decide)).trans ((gI_sW).trans ((gI_sI_ne (by decide)).trans ((gI_sW).trans ((q15294.1 231 8 (by decide)).trans ((hF14946.1 231 8 (by decide)).trans (q13745.1 231 8 (by decide)))))))).trans hv1))
              obtain ⟨v15462, hv15462⟩ : ∃ v, gI g15452 231 9 = v := ⟨_, rfl⟩
              have rv15462 := RgF.at hI15453.2.1 (p := 231) (b := 9) rfl
              rw [hv15462] at rv15462
              dsimp only at rv15462
              have tv15462 := congrArg Int32.toInt hv15462
              have x15463 := HI.eqI hI15453 (p := 231) (b := 9) (hv15462)
              obtain ⟨v15464, hv15464⟩ : ∃ v, gI g15452 231 10 = v := ⟨_, rfl⟩
              have rv15464 := RgF.at hI15453.2.1 (p := 231) (b := 10) rfl
              rw [hv15464] at rv15464
              dsimp only at rv15464
              have tv15464 := congrArg Int32.toInt hv15464
              have x15465 := HI.eqI hI15453 (p := 231) (b := 10) (hv15464)
              obtain ⟨v15466, hv15466⟩ : ∃ v, gI g15452 231 11 = v := ⟨_, rfl⟩
              have tv15466 := congrArg Int32.toInt hv15466
              have x15467 := HI.eqI hI15453 (p := 231) (b := 11) (hv15466)
              obtain ⟨v15468, hv15468⟩ : ∃ v, gJ g15452 231 12 = v := ⟨_, rfl⟩
              have x15469 := HI.eqJ hI15453 (b := 12) (hv15468)
              obtain ⟨v15470, hv15470⟩ : ∃ v, gI g15452 231 14 = v := ⟨_, rfl⟩
              have tv15470 := congrArg Int32.toInt hv15470
              have x15471 := HI.eqI hI15453 (p := 231) (b := 14) (hv15470)
              obtain ⟨v15472, hv15472⟩ : ∃ v, gI g15452 231 17 = v := ⟨_, rfl⟩
              have rv15472 := RgF.at hI15453.2.1 (p := 231) (b := 17) rfl
              rw [hv15472] at rv15472
              dsimp only at rv15472
              have tv15472 := congrArg Int32.toInt hv15472
              have x15473 := HI.eqI hI15453 (p := 231) (b := 17) (hv15472)
              obtain ⟨v15474, hv15474⟩ : ∃ v, gI g15452 231 23 = v := ⟨_, rfl⟩
              have rv15474 := RgF.at hI15453.2.1 (p := 231) (b := 23) rfl
              rw [hv15474] at rv15474
              dsimp only at rv15474
              have tv15474 := congrArg Int32.toInt hv15474
              have x15475 := HI.eqI hI15453 (p := 231) (b := 23) (hv15474)
              obtain ⟨c15476, c15477, c15478, c15479, c15480, c15481, c15482⟩ := hr15456
              refine At.enter rfl ?_
              refine r_aload_n e15289 ?_
              refine q_getR (Sh.ref hI15453.1 kx_231 rfl) ?_
              refine r_iload_n e15291 ?_
              refine r_iconst 4 rfl ?_
              refine q_iadd (v14976.toInt + 4) rfl (by omega) (fun v15483 hv15483 => ?_)
              refine r_aload_n e15289 ?_
              refine q_getI (Sh.int hI15453.1 kx_231 rfl) v15472 hv15472 ?_
              refine q_iast (Sh.arr hI15453.1 ka_237) ((8 * v6.toInt + 4)) (by omega) (by omega) ?_
              have hI15484 := HI.wA0 hI15453 ka_237 (p := 237) rfl rfl ((8 * v6.toInt + 4)) (v15472)
              have hF15485 := Fr.wA (p := 237) (j := (8 * v6.toInt + 4)) (v := v15472) hF15457 rfl
              refine r_aload_n e15289 ?_
              refine q_getR (Sh.ref hI15484.1 kx_231 rfl) ?_
              refine r_iload_n e15291 ?_
              refine r_iconst 5 rfl ?_
              refine q_iadd (v14976.toInt + 5) rfl (by omega) (fun v15486 hv15486 => ?_)
              refine r_aload_n e15289 ?_
              refine q_getI (Sh.int hI15484.1 kx_231 rfl) v15472 ((gI_sW).trans hv15472) ?_
              refine q_iast (Sh.arr hI15484.1 ka_237) ((8 * v6.toInt + 5)) (by omega) (by omega) ?_
              have hI15487 := HI.wA0 hI15484 ka_237 (p := 237) rfl rfl ((8 * v6.toInt + 5)) (v15472)
              have hF15488 := Fr.wA (p := 237) (j := (8 * v6.toInt + 5)) (v := v15472) hF15485 rfl
              refine r_aload_n e15289 ?_
              refine q_getI (Sh.int hI15487.1 kx_231 rfl) v15470 (((gI_sW).trans (gI_sW)).trans hv15470) ?_
              refine r_ifs 166 rfl (fun c15489 => ?_) (fun c15489 => ?_)
              · have c15489_ : v15470.toInt ≠ 0 := en_k_ne_t c15489
                refine At.enter rfl ?_
                refine r_aload_n e15289 ?_
                refine q_getR (Sh.ref hI15487.1 kx_231 rfl) ?_
                refine r_iload_n e15291 ?_
                refine r_bipush 6 rfl ?_
                refine q_iadd (v14976.toInt + 6) rfl (by omega) (fun v15490 hv15490 => ?_)
                refine r_aload_n e15289 ?_
                refine q_getI (Sh.int hI15487.1 kx_231 rfl) v15472 (((gI_sW).trans (gI_sW)).trans hv15472) ?_
                refine q_iast (Sh.arr hI15487.1 ka_237) ((8 * v6.toInt + 6)) (by omega) (by omega) ?_
                have hI15491 := HI.wA0 hI15487 ka_237 (p := 237) rfl rfl ((8 * v6.toInt + 6)) (v15472)
                have hF15492 := Fr.wA (p := 237) (j := (8 * v6.toInt + 6)) (v := v15472) hF15488 rfl
                refine r_vret ?_
                have x15493 := HI.eqI hI15491 (p := 231) (b := 8) ((((gI_sW).trans ((gI_sW).trans ((gI_sW).trans ((hF15454.1 231 8 (by decide)).trans ((gI_sW).trans ((gI_sI_ne (by decide)).trans ((gI_sW).trans ((q15294.1 231 8 (by decide)).trans ((hF14946.1 231 8 (by decide)).trans (q13745.1 231 8 (by decide))))))))))).trans hv1))
                have x15494 := HI.eqI hI15491 (p := 231) (b := 9) ((((gI_sW).trans ((gI_sW).trans (gI_sW))).trans hv15462))
                have x15495 := HI.eqI hI15491 (p := 231) (b := 10) ((((gI_sW).trans ((gI_sW).trans (gI_sW))).trans hv15464))
                have x15496 := HI.eqI hI15491 (p := 231) (b := 11) ((((gI_sW).trans ((gI_sW).trans (gI_sW))).trans hv15466))
                have x15497 := HI.eqI hI15491 (p := 231) (b := 14) ((((gI_sW).trans ((gI_sW).trans (gI_sW))).trans hv15470))
                have x15498 := HI.eqI hI15491 (p := 231) (b := 15) (((gI_sW).trans ((gI_sW).trans ((gI_sW).trans ((hF15454.1 231 15 (by decide)).trans ((gI_sW).trans (gI_sI_eq hI15299.1 kx_231 rfl _)))))))
                have x15499 := HI.eqI hI15491 (p := 231) (b := 17) ((((gI_sW).trans ((gI_sW).trans (gI_sW))).trans hv15472))
                have x15500 := HI.eqI hI0 (p := 231) (b := 8) (hv1)
                have x15501 := HI.eqI hI0 (p := 231) (b := 9) (hv2)
                have x15502 := HI.eqI hI0 (p := 231) (b := 10) (hv3)
                have x15503 := HI.eqI hI0 (p := 231) (b := 11) (hv4)
                have x15504 := HI.eqI hI0 (p := 231) (b := 14) (hv5)
                have x15505 := HI.eqI hI0 (p := 231) (b := 15) (hv6)
                have x15506 := HI.eqI hI0 (p := 231) (b := 17) (hv7)
                have w2615507 := W26.cong c15480 hI15491 (((gI_sW).trans ((gI_sW).trans (gI_sW)))) (((gI_sW).trans ((gI_sW).trans (gI_sW)))) (((gI_sW).trans ((gI_sW).trans (gI_sW)))) (((gJ_sW).trans ((gJ_sW).trans (gJ_sW))))
                exact ⟨_, rfl, hI15491, hF15492, rfl, ⟨by omega, by omega, by omega, by omega, w2615507, by omega, (fun hbad => by have t0 := (c15482 (by omega)).1; have x0 := (c15482 (by omega)).2; have u0 : (gI _ 231 17).toInt ≤ (gI _ 231 17).toInt := x0.1; exact ⟨by omega, CLS.step (K := (gI g0 231 15).toInt) (n1 := (gI g0 231 17).toInt) (n2 := v15472.toInt) hC ⟨by omega, by omega⟩ ⟨by omega, by omega, by omega⟩ (fun i i0 i1 => ((eA_sA_ne (i := i) hI15487.1 ka_237 (by omega) (by omega) (by omega)).trans ((eA_sA_ne (i := i) hI15484.1 ka_237 (by omega) (by omega) (by omega)).trans ((eA_sA_ne (i := i) hI15453.1 ka_237 (by omega) (by omega) (by omega)).trans ((eA_c (hF15454.2.1 237 (by decide))).trans ((eA_sA_ne (i := i) hI15302.1 ka_237 (by omega) (by omega) (by omega)).trans ((eA_c gA_sI).trans ((eA_sA_ne (i := i) hI15284.1 ka_237 (by omega) (by omega) (by omega)).trans ((q15295 i i0 (by omega)).trans ((eA_c (hF14946.2.1 237 (by decide))).trans (eA_c (q13745.2.1 237 (by decide))))))))))))) (by show (eA _ 237 (8 * (gI g0 231 15).toInt + 3)).toInt = (gI g0 231 17).toInt; rw [show 8 * (gI g0 231 15).toInt + 3 = (8 * v6.toInt + 3) by omega]; exact (congrArg Int32.toInt (((eA_sA_ne hI15487.1 ka_237 (by first | decide | omega) (by first | decide | omega) (by first | decide | omega)).trans ((eA_sA_ne hI15484.1 ka_237 (by first | decide | omega) (by first | decide | omega) (by first | decide | omega)).trans ((eA_sA_ne hI15453.1 ka_237 (by first | decide | omega) (by first | decide | omega) (by first | decide | omega)).trans ((eA_c (hF15454.2.1 237 (by decide))).trans (eA_sA_eq hI15302.1 ka_237 (by first | rfl | omega) (by first | decide | omega) (by first | decide | omega)))))))).trans (by omega)) (by show (eA _ 237 (8 * (gI g0 231 15).toInt + 4)).toInt = v15472.toInt; rw [show 8 * (gI g0 231 15).toInt + 4 = (8 * v6.toInt + 4) by omega]; exact (congrArg Int32.toInt (((eA_sA_ne hI15487.1 ka_237 (by first | decide | omega) (by first | decide | omega) (by first | decide | omega)).trans ((eA_sA_ne hI15484.1 ka_237 (by first | decide | omega) (by first | decide | omega) (by first | decide | omega)).trans (eA_sA_eq hI15453.1 ka_237 (by first | rfl | omega) (by first | decide | omega) (by first | decide | omega)))))).trans (by omega)) (by show (eA _ 237 (8 * (gI g0 231 15).toInt + 5)).toInt = v15472.toInt; rw [show 8 * (gI g0 231 15).toInt + 5 = (8 * v6.toInt + 5) by omega]; exact (congrArg Int32.toInt (((eA_sA_ne hI15487.1 ka_237 (by first | decide | omega) (by first | decide | omega) (by first | decide | omega)).trans (eA_sA_eq hI15484.1 ka_237 (by first | rfl | omega) (by first | decide | omega) (by first | decide | omega))))).trans (by omega)) (by show (eA _ 237 (8 * (gI g0 231 15).toInt + 6)).toInt = (gI _ 231 17).toInt; rw [show 8 * (gI g0 231 15).toInt + 6 = (8 * v6.toInt + 6) by omega]; exact (congrArg Int32.toInt ((eA_sA_eq hI15487.1 ka_237 (by first | rfl | omega) (by first | decide | omega) (by first | decide | omega)))).trans (by omega)) (show SAME g0 _ (gI g0 231 17).toInt from (SAME.tr (SAME.tr (SAME.c hI15305 (((gA_sA_ne (by decide)).trans ((gA_sI).trans ((gA_sA_ne (by decide)).trans ((q15294.2.1 238 (by decide)).trans ((hF14946.2.1 238 (by decide)).trans (q13745.2.1 238 (by decide)))))))) (((gA_sA_ne (by decide)).trans ((gA_sI).trans ((gA_sA_ne (by decide)).trans ((q15294.2.1 239 (by decide)).trans ((hF14946.2.1 239 (by decide)).trans (q13745.2.1 239 (by decide))))))))) (EXPR.same x0) (by show _ ≤ (gI _ 231 17).toInt; omega)) (SAME.c hI15491 (((gA_sA_ne (by decide)).trans ((gA_sA_ne (by decide)).trans (gA_sA_ne (by decide))))) (((gA_sA_ne (by decide)).trans ((gA_sA_ne (by decide)).trans (gA_sA_ne (by decide)))))) (Int.le_refl _))) (EXPR.code x0 (show SAME g15452 _ (gI g15452 231 17).toInt from (SAME.c hI15491 (((gA_sA_ne (by decide)).trans ((gA_sA_ne (by decide)).trans (gA_sA_ne (by decide))))) (((gA_sA_ne (by decide)).trans ((gA_sA_ne (by decide)).trans (gA_sA_ne (by decide))))))) (by show _ = (gI _ 231 17).toInt; omega) (by show _ = (gI _ 231 17).toInt; omega) (by show 0 ≤ (gI _ 231 17).toInt; omega)) (WfCode.nil' (by omega) (by omega) (by omega))⟩)⟩⟩
              · have c15489_ : v15470.toInt = 0 := en_k_ne_f c15489
                refine At.enter rfl ?_
                refine r_aload_n e15289 ?_
                refine r_ldc2 294 rfl ?_
                have x15508 := HI.eqI hI15487 (p := 231) (b := 11) ((((gI_sW).trans (gI_sW)).trans hv15466))
                have zv15509 : (294 : Int64).toInt = 294 := rfl
                refine r_callV 173 rfl [.ref 231, .long 294] [] (Nat.le_of_ble_eq_true rfl) rfl (T_X11_isWord_231 _ hI15487 294 (by omega)) ?_
                rintro _ _ ⟨g15510, rfl, hI15511, hF15512, v15513, rfl, hr15514⟩
                refine At.sti ?_
                have hF15515 := Fr.tr hF15488 hF15512 rfl rfl
                have zv15516 : (294 : Int64).toInt = 294 := rfl
                have x15517 := HI.eqI hI15487 (p := 231) (b := 9) ((((gI_sW).trans (gI_sW)).trans hv15462))
                have x15518 := HI.eqI hI15487 (p := 231) (b := 10) ((((gI_sW).trans (gI_sW)).trans hv15464))
                have x15519 := HI.eqI hI15487 (p := 231) (b := 11) ((((gI_sW).trans (gI_sW)).trans hv15466))
                have x15520 := HI.eqI hI15511 (p := 231) (b := 9) ((((hF15512.1 231 9 (by decide)).trans ((gI_sW).trans (gI_sW))).trans hv15462))
                have x15521 := HI.eqI hI15511 (p := 231) (b := 10) ((((hF15512.1 231 10 (by decide)).trans ((gI_sW).trans (gI_sW))).trans hv15464))
                have x15522 := HI.eqI hI15511 (p := 231) (b := 11) ((((hF15512.1 231 11 (by decide)).trans ((gI_sW).trans (gI_sW))).trans hv15466))
                obtain ⟨c15525, c15523, isw15524⟩ := hr15514
                have w2615526 := W26.cong c15480 hI15487 (((gI_sW).trans (gI_sW))) (((gI_sW).trans (gI_sW))) (((gI_sW).trans (gI_sW))) (((gJ_sW).trans (gJ_sW)))
                refine At.enter rfl ?_
                refine r_ifs 176 rfl (fun c15527 => ?_) (fun c15527 => ?_)
                · have c15527_ : v15513.toInt = 0 := en_k_eq_t c15527
                  refine At.enter rfl ?_
                  refine r_aload_n e15289 ?_
                  refine q_getR (Sh.ref hI15511.1 kx_231 rfl) ?_
                  refine r_iload_n e15291 ?_
                  refine r_bipush 6 rfl ?_
                  refine q_iadd (v14976.toInt + 6) rfl (by omega) (fun v15528 hv15528 => ?_)
                  refine r_aload_n e15289 ?_
                  refine q_getI (Sh.int hI15511.1 kx_231 rfl) v15472 (((hF15512.1 231 17 (by decide)).trans ((gI_sW).trans (gI_sW))).trans hv15472) ?_
                  refine q_iast (Sh.arr hI15511.1 ka_237) ((8 * v6.toInt + 6)) (by omega) (by omega) ?_
                  have hI15529 := HI.wA0 hI15511 ka_237 (p := 237) rfl rfl ((8 * v6.toInt + 6)) (v15472)
                  have hF15530 := Fr.wA (p := 237) (j := (8 * v6.toInt + 6)) (v := v15472) hF15515 rfl
                  refine r_vret ?_
                  have x15531 := HI.eqI hI15529 (p := 231) (b := 8) ((((gI_sW).trans ((hF15512.1 231 8 (by decide)).trans ((gI_sW).trans ((gI_sW).trans ((hF15454.1 231 8 (by decide)).trans ((gI_sW).trans ((gI_sI_ne (by decide)).trans ((gI_sW).trans ((q15294.1 231 8 (by decide)).trans ((hF14946.1 231 8 (by decide)).trans (q13745.1 231 8 (by decide)))))))))))).trans hv1))
                  have x15532 := HI.eqI hI15529 (p := 231) (b := 9) ((((gI_sW).trans ((hF15512.1 231 9 (by decide)).trans ((gI_sW).trans (gI_sW)))).trans hv15462))
                  have x15533 := HI.eqI hI15529 (p := 231) (b := 10) ((((gI_sW).trans ((hF15512.1 231 10 (by decide)).trans ((gI_sW).trans (gI_sW)))).trans hv15464))
                  have x15534 := HI.eqI hI15529 (p := 231) (b := 11) ((((gI_sW).trans ((hF15512.1 231 11 (by decide)).trans ((gI_sW).trans (gI_sW)))).trans hv15466))
                  have x15535 := HI.eqI hI15529 (p := 231) (b := 14) ((((gI_sW).trans ((hF15512.1 231 14 (by decide)).trans ((gI_sW).trans (gI_sW)))).trans hv15470))
                  have x15536 := HI.eqI hI15529 (p := 231) (b := 15) (((gI_sW).trans ((hF15512.1 231 15 (by decide)).trans ((gI_sW).trans ((gI_sW).trans ((hF15454.1 231 15 (by decide)).trans ((gI_sW).trans (gI_sI_eq hI15299.1 kx_231 rfl _))))))))
                  have x15537 := HI.eqI hI15529 (p := 231) (b := 17) ((((gI_sW).trans ((hF15512.1 231 17 (by decide)).trans ((gI_sW).trans (gI_sW)))).trans hv15472))
                  have x15538 := HI.eqI hI0 (p := 231) (b := 8) (hv1)
                  have x15539 := HI.eqI hI0 (p := 231) (b := 9) (hv2)
                  have x15540 := HI.eqI hI0 (p := 231) (b := 10) (hv3)
                  have x15541 := HI.eqI hI0 (p := 231) (b := 11) (hv4)
                  have x15542 := HI.eqI hI0 (p := 231) (b := 14) (hv5)
                  have x15543 := HI.eqI hI0 (p := 231) (b := 15) (hv6)
                  have x15544 := HI.eqI hI0 (p := 231) (b := 17) (hv7)
                  have w2615545 := W26.cong c15480 hI15529 (((gI_sW).trans ((hF15512.1 231 9 (by decide)).trans ((gI_sW).trans (gI_sW))))) (((gI_sW).trans ((hF15512.1 231 10 (by decide)).trans ((gI_sW).trans (gI_sW))))) (((gI_sW).trans ((hF15512.1 231 11 (by decide)).trans ((gI_sW).trans (gI_sW))))) (((gJ_sW).trans ((hF15512.2.2 231 12 (by decide)).trans ((gJ_sW).trans (gJ_sW)))))
                  exact ⟨_, rfl, hI15529, hF15530, rfl, ⟨by omega, by omega, by omega, by omega, w2615545, by omega, (fun hbad => by have t0 := (c15482 (by omega)).1; have x0 := (c15482 (by omega)).2; have u0 : (gI _ 231 17).toInt ≤ (gI _ 231 17).toInt := x0.1; exact ⟨by omega, CLS.step (K := (gI g0 231 15).toInt) (n1 := (gI g0 231 17).toInt) (n2 := v15472.toInt) hC ⟨by omega, by omega⟩ ⟨by omega, by omega, by omega⟩ (fun i i0 i1 => ((eA_sA_ne (i := i) hI15511.1 ka_237 (by omega) (by omega) (by omega)).trans ((eA_c (hF15512.2.1 237 (by decide))).trans ((eA_sA_ne (i := i) hI15484.1 ka_237 (by omega) (by omega) (by omega)).trans ((eA_sA_ne (i := i) hI15453.1 ka_237 (by omega) (by omega) (by omega)).trans ((eA_c (hF15454.2.1 237 (by decide))).trans ((eA_sA_ne (i := i) hI15302.1 ka_237 (by omega) (by omega) (by omega)).trans ((eA_c gA_sI).trans ((eA_sA_ne (i := i) hI15284.1 ka_237 (by omega) (by omega) (by omega)).trans ((q15295 i i0 (by omega)).trans ((eA_c (hF14946.2.1 237 (by decide))).trans (eA_c (q13745.2.1 237 (by decide)))))))))))))) (by show (eA _ 237 (8 * (gI g0 231 15).toInt + 3)).toInt = (gI g0 231 17).toInt; rw [show 8 * (gI g0 231 15).toInt + 3 = (8 * v6.toInt + 3) by omega]; exact (congrArg Int32.toInt (((eA_sA_ne hI15511.1 ka_237 (by first | decide | omega) (by first | decide | omega) (by first | decide | omega)).trans ((eA_c (hF15512.2.1 237 (by decide))).trans ((eA_sA_ne hI15484.1 ka_237 (by first | decide | omega) (by first | decide | omega) (by first | decide | omega)).trans ((eA_sA_ne hI15453.1 ka_237 (by first | decide | omega) (by first | decide | omega) (by first | decide | omega)).trans ((eA_c (hF15454.2.1 237 (by decide))).trans (eA_sA_eq hI15302.1 ka_237 (by first | rfl | omega) (by first | decide | omega) (by first | decide | omega))))))))).trans (by omega)) (by show (eA _ 237 (8 * (gI g0 231 15).toInt + 4)).toInt = v15472.toInt; rw [show 8 * (gI g0 231 15).toInt + 4 = (8 * v6.toInt + 4) by omega]; exact (congrArg Int32.toInt (((eA_sA_ne hI15511.1 ka_237 (by first | decide | omega) (by first | decide | omega) (by first | decide | omega)).trans ((eA_c (hF15512.2.1 237 (by decide))).trans ((eA_sA_ne hI15484.1 ka_237 (by first | decide | omega) (by first | decide | omega) (by first | decide | omega)).trans (eA_sA_eq hI15453.1 ka_237 (by first | rfl | omega) (by first | decide | omega) (by first | decide | omega))))))).trans (by omega)) (by show (eA _ 237 (8 * (gI g0 231 15).toInt + 5)).toInt = v15472.toInt; rw [show 8 * (gI g0 231 15).toInt + 5 = (8 * v6.toInt + 5) by omega]; exact (congrArg Int32.toInt (((eA_sA_ne hI15511.1 ka_237 (by first | decide | omega) (by first | decide | omega) (by first | decide | omega)).trans ((eA_c (hF15512.2.1 237 (by decide))).trans (eA_sA_eq hI15484.1 ka_237 (by first | rfl | omega) (by first | decide | omega) (by first | decide | omega)))))).trans (by omega)) (by show (eA _ 237 (8 * (gI g0 231 15).toInt + 6)).toInt = (gI _ 231 17).toInt; rw [show 8 * (gI g0 231 15).toInt + 6 = (8 * v6.toInt + 6) by omega]; exact (congrArg Int32.toInt ((eA_sA_eq hI15511.1 ka_237 (by first | rfl | omega) (by first | decide | omega) (by first | decide | omega)))).trans (by omega)) (show SAME g0 _ (gI g0 231 17).toInt from (SAME.tr (SAME.tr (SAME.c hI15305 (((gA_sA_ne (by decide)).trans ((gA_sI).trans ((gA_sA_ne (by decide)).trans ((q15294.2.1 238 (by decide)).trans ((hF14946.2.1 238 (by decide)).trans (q13745.2.1 238 (by decide)))))))) (((gA_sA_ne (by decide)).trans ((gA_sI).trans ((gA_sA_ne (by decide)).trans ((q15294.2.1 239 (by decide)).trans ((hF14946.2.1 239 (by decide)).trans (q13745.2.1 239 (by decide))))))))) (EXPR.same x0) (by show _ ≤ (gI _ 231 17).toInt; omega)) (SAME.c hI15529 (((gA_sA_ne (by decide)).trans ((hF15512.2.1 238 (by decide)).trans ((gA_sA_ne (by decide)).trans (gA_sA_ne (by decide)))))) (((gA_sA_ne (by decide)).trans ((hF15512.2.1 239 (by decide)).trans ((gA_sA_ne (by decide)).trans (gA_sA_ne (by decide))))))) (Int.le_refl _))) (EXPR.code x0 (show SAME g15452 _ (gI g15452 231 17).toInt from (SAME.c hI15529 (((gA_sA_ne (by decide)).trans ((hF15512.2.1 238 (by decide)).trans ((gA_sA_ne (by decide)).trans (gA_sA_ne (by decide)))))) (((gA_sA_ne (by decide)).trans ((hF15512.2.1 239 (by decide)).trans ((gA_sA_ne (by decide)).trans (gA_sA_ne (by decide)))))))) (by show _ = (gI _ 231 17).toInt; omega) (by show _ = (gI _ 231 17).toInt; omega) (by show 0 ≤ (gI _ 231 17).toInt; omega)) (WfCode.nil' (by omega) (by omega) (by omega))⟩)⟩⟩
                · have c15527_ : v15513.toInt ≠ 0 := en_k_eq_f c15527
                  have i15546 := W26.two w2615526 isw15524 (by omega) (by decide)
                  refine At.enter rfl ?_
                  refine r_aload_n e15289 ?_
                  have x15547 := HI.eqI hI15511 (p := 231) (b := 8) ((((hF15512.1 231 8 (by decide)).trans ((gI_sW).trans ((gI_sW).trans ((hF15454.1 231 8 (by decide)).trans ((gI_sW).trans ((gI_sI_ne (by decide)).trans ((gI_sW).trans ((q15294.1 231 8 (by decide)).trans ((hF14946.1 231 8 (by decide)).trans (q13745.1 231 8 (by decide))))))))))).trans hv1))
                  have x15548 := HI.eqI hI15511 (p := 231) (b := 10) ((((hF15512.1 231 10 (by decide)).trans ((gI_sW).trans (gI_sW))).trans hv15464))
                  refine r_callV 180 rfl [.ref 231] [] (Nat.le_of_ble_eq_true rfl) rfl (T_X11_next_231 _ hI15511 (by omega)) ?_
                  rintro _ _ ⟨g15549, rfl, hI15550, hF15551, rfl, hr15553⟩
                  refine At.stn ?_
                  have hF15554 := Fr.tr hF15515 hF15551 rfl rfl
                  have x15555 := HI.eqI hI15511 (p := 231) (b := 8) ((((hF15512.1 231 8 (by decide)).trans ((gI_sW).trans ((gI_sW).trans ((hF15454.1 231 8 (by decide)).trans ((gI_sW).trans ((gI_sI_ne (by decide)).trans ((gI_sW).trans ((q15294.1 231 8 (by decide)).trans ((hF14946.1 231 8 (by decide)).trans (q13745.1 231 8 (by decide))))))))))).trans hv1))
                  have x15556 := HI.eqI hI15511 (p := 231) (b := 10) ((((hF15512.1 231 10 (by decide)).trans ((gI_sW).trans (gI_sW))).trans hv15464))
                  have x15557 := HI.eqI hI15550 (p := 231) (b := 8) ((((hF15551.1 231 8 (by decide)).trans ((hF15512.1 231 8 (by decide)).trans ((gI_sW).trans ((gI_sW).trans ((hF15454.1 231 8 (by decide)).trans ((gI_sW).trans ((gI_sI_ne (by decide)).trans ((gI_sW).trans ((q15294.1 231 8 (by decide)).trans ((hF14946.1 231 8 (by decide)).trans (q13745.1 231 8 (by decide)))))))))))).trans hv1))
                  obtain ⟨v15558, hv15558⟩ : ∃ v, gI g15549 231 9 = v := ⟨_, rfl⟩
                  have rv15558 := RgF.at hI15550.2.1 (p := 231) (b := 9) rfl
                  rw [hv15558] at rv15558
                  dsimp only at rv15558
                  have tv15558 := congrArg Int32.toInt hv15558
                  have x15559 := HI.eqI hI15550 (p := 231) (b := 9) (hv15558)
                  obtain ⟨v15560, hv15560⟩ : ∃ v, gI g15549 231 10 = v := ⟨_, rfl⟩
                  have rv15560 := RgF.at hI15550.2.1 (p := 231) (b := 10) rfl
                  rw [hv15560] at rv15560
                  dsimp only at rv15560
                  have tv15560 := congrArg Int32.toInt hv15560
                  have x15561 := HI.eqI hI15550 (p := 231) (b := 10) (hv15560)
                  obtain ⟨v15562, hv15562⟩ : ∃ v, gI g15549 231 11 = v := ⟨_, rfl⟩
                  have tv15562 := congrArg Int32.toInt hv15562
                  have x15563 := HI.eqI hI15550 (p := 231) (b := 11) (hv15562)
                  obtain ⟨c15564, c15565, c15566, c15567, c15568, c15569⟩ := hr15553
                  refine At.enter rfl ?_
                  refine r_aload_n e15289 ?_
                  refine r_iconst 1 rfl ?_
                  have x15570 := HI.eqI hI15550 (p := 231) (b := 8) ((((hF15551.1 231 8 (by decide)).trans ((hF15512.1 231 8 (by decide)).trans ((gI_sW).trans ((gI_sW).trans ((hF15454.1 231 8 (by decide)).trans ((gI_sW).trans ((gI_sI_ne (by decide)).trans ((gI_sW).trans ((q15294.1 231 8 (by decide)).trans ((hF14946.1 231 8 (by decide)).trans (q13745.1 231 8 (by decide)))))))))))).trans hv1))
                  have x15571 := HI.eqI hI15550 (p := 231) (b := 9) (hv15558)
                  have x15572 := HI.eqI hI15550 (p := 231) (b := 10) (hv15560)
                  have x15573 := HI.eqI hI15550 (p := 231) (b := 11) (hv15562)
                  obtain ⟨v15574, hv15574⟩ : ∃ v, gJ g15549 231 12 = v := ⟨_, rfl⟩
                  have x15575 := HI.eqJ hI15550 (b := 12) (hv15574)
                  have x15576 := HI.eqI hI15550 (p := 231) (b := 14) ((((hF15551.1 231 14 (by decide)).trans ((hF15512.1 231 14 (by decide)).trans ((gI_sW).trans (gI_sW)))).trans hv15470))
                  have x15577 := HI.eqI hI15550 (p := 231) (b := 17) ((((hF15551.1 231 17 (by decide)).trans ((hF15512.1 231 17 (by decide)).trans ((gI_sW).trans (gI_sW)))).trans hv15472))
                  have x15578 := HI.eqI hI15550 (p := 231) (b := 23) ((((hF15551.1 231 23 (by decide)).trans ((hF15512.1 231 23 (by decide)).trans ((gI_sW).trans (gI_sW)))).trans hv15474))
                  have y15579 := (c15482 (by omega)).1
                  have zv15580 : (1 : Int32).toInt = 1 := rfl
                  refine r_callV 185 rfl [.ref 231, .int 1] [] (Nat.le_of_ble_eq_true rfl) rfl (T_X11_readExpression_231 _ hI15550 1 (by decide) (by refine ⟨?_, ?_, ?_, ?_⟩ <;> omega) (by omega) (by omega) c15569) ?_
                  rintro _ _ ⟨g15581, rfl, hI15582, hF15583, rfl, hr15585⟩
                  refine At.stn ?_
                  have hF15586 := Fr.tr hF15554 hF15583 rfl rfl
                  have zv15587 : (1 : Int32).toInt = 1 := rfl
                  have x15588 := HI.eqI hI15550 (p := 231) (b := 9) (hv15558)
                  have x15589 := HI.eqI hI15550 (p := 231) (b := 17) ((((hF15551.1 231 17 (by decide)).trans ((hF15512.1 231 17 (by decide)).trans ((gI_sW).trans (gI_sW)))).trans hv15472))
                  have x15590 := HI.eqI hI15582 (p := 231) (b := 8) ((((hF15583.1 231 8 (by decide)).trans ((hF15551.1 231 8 (by decide)).trans ((hF15512.1 231 8 (by decide)).trans ((gI_sW).trans ((gI_sW).trans ((hF15454.1 231 8 (by decide)).trans ((gI_sW).trans ((gI_sI_ne (by decide)).trans ((gI_sW).trans ((q15294.1 231 8 (by decide)).trans ((hF14946.1 231 8 (by decide)).trans (q13745.1 231 8 (by decide))))))))))))).trans hv1))
                  obtain ⟨v15591, hv15591⟩ : ∃ v, gI g15581 231 9 = v := ⟨_, rfl⟩
                  have rv15591 := RgF.at hI15582.2.1 (p := 231) (b := 9) rfl
                  rw [hv15591] at rv15591
                  dsimp only at rv15591
                  have tv15591 := congrArg Int32.toInt hv15591
                  have x15592 := HI.eqI hI15582 (p := 231) (b := 9) (hv15591)
                  obtain ⟨v15593, hv15593⟩ : ∃ v, gI g15581 231 10 = v := ⟨_, rfl⟩
                  have rv15593 := RgF.at hI15582.2.1 (p := 231) (b := 10) rfl
                  rw [hv15593] at rv15593
                  dsimp only at rv15593
                  have tv15593 := congrArg Int32.toInt hv15593
                  have x15594 := HI.eqI hI15582 (p := 231) (b := 10) (hv15593)
                  obtain ⟨v15595, hv15595⟩ : ∃ v, gI g15581 231 11 = v := ⟨_, rfl⟩
                  have tv15595 := congrArg Int32.toInt hv15595
                  have x15596 := HI.eqI hI15582 (p := 231) (b := 11) (hv15595)
                  obtain ⟨v15597, hv15597⟩ : ∃ v, gJ g15581 231 12 = v := ⟨_, rfl⟩
                  have x15598 := HI.eqJ hI15582 (b := 12) (hv15597)
                  obtain ⟨v15599, hv15599⟩ : ∃ v, gI g15581 231 14 = v := ⟨_, rfl⟩
                  have tv15599 := congrArg Int32.toInt hv15599
                  have x15600 := HI.eqI hI15582 (p := 231) (b := 14) (hv15599)
                  obtain ⟨v15601, hv15601⟩ : ∃ v, gI g15581 231 17 = v := ⟨_, rfl⟩
                  have rv15601 := RgF.at hI15582.2.1 (p := 231) (b := 17) rfl
                  rw [hv15601] at rv15601
                  dsimp only at rv15601
                  have tv15601 := congrArg Int32.toInt hv15601
                  have x15602 := HI.eqI hI15582 (p := 231) (b := 17) (hv15601)
                  obtain ⟨v15603, hv15603⟩ : ∃ v, gI g15581 231 23 = v := ⟨_, rfl⟩
                  have rv15603 := RgF.at hI15582.2.1 (p := 231) (b := 23) rfl
                  rw [hv15603] at rv15603
                  dsimp only at rv15603
                  have tv15603 := congrArg Int32.toInt hv15603
                  have x15604 := HI.eqI hI15582 (p := 231) (b := 23) (hv15603)
                  obtain ⟨c15605, c15606, c15607, c15608, c15609, c15610, c15611⟩ := hr15585
                  refine At.enter rfl ?_
                  refine r_aload_n e15289 ?_
                  refine q_getR (Sh.ref hI15582.1 kx_231 rfl) ?_
                  refine r_iload_n e15291 ?_
                  refine r_bipush 6 rfl ?_
                  refine q_iadd (v14976.toInt + 6) rfl (by omega) (fun v15612 hv15612 => ?_)
                  refine r_aload_n e15289 ?_
                  refine q_getI (Sh.int hI15582.1 kx_231 rfl) v15601 hv15601 ?_
                  refine q_iast (Sh.arr hI15582.1 ka_237) ((8 * v6.toInt + 6)) (by omega) (by omega) ?_
                  have hI15613 := HI.wA0 hI15582 ka_237 (p := 237) rfl rfl ((8 * v6.toInt + 6)) (v15601)
                  have hF15614 := Fr.wA (p := 237) (j := (8 * v6.toInt + 6)) (v := v15601) hF15586 rfl
                  refine r_vret ?_
                  have x15615 := HI.eqI hI15613 (p := 231) (b := 8) ((((gI_sW).trans ((hF15583.1 231 8 (by decide)).trans ((hF15551.1 231 8 (by decide)).trans ((hF15512.1 231 8 (by decide)).trans ((gI_sW).trans ((gI_sW).trans ((hF15454.1 231 8 (by decide)).trans ((gI_sW).trans ((gI_sI_ne (by decide)).trans ((gI_sW).trans ((q15294.1 231 8 (by decide)).trans ((hF14946.1 231 8 (by decide)).trans (q13745.1 231 8 (by decide)))))))))))))).trans hv1))
                  have x15616 := HI.eqI hI15613 (p := 231) (b := 9) (((gI_sW).trans hv15591))
                  have x15617 := HI.eqI hI15613 (p := 231) (b := 10) (((gI_sW).trans hv15593))
                  have x15618 := HI.eqI hI15613 (p := 231) (b := 11) (((gI_sW).trans hv15595))
                  have x15619 := HI.eqI hI15613 (p := 231) (b := 14) (((gI_sW).trans hv15599))
                  have x15620 := HI.eqI hI15613 (p := 231) (b := 15) (((gI_sW).trans ((hF15583.1 231 15 (by decide)).trans ((hF15551.1 231 15 (by decide)).trans ((hF15512.1 231 15 (by decide)).trans ((gI_sW).trans ((gI_sW).trans ((hF15454.1 231 15 (by decide)).trans ((gI_sW).trans (gI_sI_eq hI15299.1 kx_231 rfl _))))))))))
                  have x15621 := HI.eqI hI15613 (p := 231) (b := 17) (((gI_sW).trans hv15601))
                  have x15622 := HI.eqI hI0 (p := 231) (b := 8) (hv1)
                  have x15623 := HI.eqI hI0 (p := 231) (b := 9) (hv2)
                  have x15624 := HI.eqI hI0 (p := 231) (b := 10) (hv3)
                  have x15625 := HI.eqI hI0 (p := 231) (b := 11) (hv4)
                  have x15626 := HI.eqI hI0 (p := 231) (b := 14) (hv5)
                  have x15627 := HI.eqI hI0 (p := 231) (b := 15) (hv6)
                  have x15628 := HI.eqI hI0 (p := 231) (b := 17) (hv7)
                  have w2615629 := W26.cong c15609 hI15613 ((gI_sW)) ((gI_sW)) ((gI_sW)) ((gJ_sW))
                  exact ⟨_, rfl, hI15613, hF15614, rfl, ⟨by omega, by omega, by omega, by omega, w2615629, by omega, (fun hbad => by have t0 := (c15482 (by omega)).1; have x0 := (c15482 (by omega)).2; have u0 : (gI _ 231 17).toInt ≤ (gI _ 231 17).toInt := x0.1; have t1 := (c15611 (by omega)).1; have x1 := (c15611 (by omega)).2; have u1 : (gI _ 231 17).toInt ≤ (gI _ 231 17).toInt := x1.1; exact ⟨by omega, CLS.step (K := (gI g0 231 15).toInt) (n1 := (gI g0 231 17).toInt) (n2 := v15472.toInt) hC ⟨by omega, by omega⟩ ⟨by omega, by omega, by omega⟩ (fun i i0 i1 => ((eA_sA_ne (i := i) hI15582.1 ka_237 (by omega) (by omega) (by omega)).trans ((eA_c (hF15583.2.1 237 (by decide))).trans ((eA_c (hF15551.2.1 237 (by decide))).trans ((eA_c (hF15512.2.1 237 (by decide))).trans ((eA_sA_ne (i := i) hI15484.1 ka_237 (by omega) (by omega) (by omega)).trans ((eA_sA_ne (i := i) hI15453.1 ka_237 (by omega) (by omega) (by omega)).trans ((eA_c (hF15454.2.1 237 (by decide))).trans ((eA_sA_ne (i := i) hI15302.1 ka_237 (by omega) (by omega) (by omega)).trans ((eA_c gA_sI).trans ((eA_sA_ne (i := i) hI15284.1 ka_237 (by omega) (by omega) (by omega)).trans ((q15295 i i0 (by omega)).trans ((eA_c (hF14946.2.1 237 (by decide))).trans (eA_c (q13745.2.1 237 (by decide)))))))))))))))) (by show (eA _ 237 (8 * (gI g0 231 15).toInt + 3)).toInt = (gI g0 231 17).toInt; rw [show 8 * (gI g0 231 15).toInt + 3 = (8 * v6.toInt + 3) by omega]; exact (congrArg Int32.toInt (((eA_sA_ne hI15582.1 ka_237 (by first | decide | omega) (by first | decide | omega) (by first | decide | omega)).trans ((eA_c (hF15583.2.1 237 (by decide))).trans ((eA_c (hF15551.2.1 237 (by decide))).trans ((eA_c (hF15512.2.1 237 (by decide))).trans ((eA_sA_ne hI15484.1 ka_237 (by first | decide | omega) (by first | decide | omega) (by first | decide | omega)).trans ((eA_sA_ne hI15453.1 ka_237 (by first | decide | omega) (by first | decide | omega) (by first | decide | omega)).trans ((eA_c (hF15454.2.1 237 (by decide))).trans (eA_sA_eq hI15302.1 ka_237 (by first | rfl | omega) (by first | decide | omega) (by first | decide | omega))))))))))).trans (by omega)) (by show (eA _ 237 (8 * (gI g0 231 15).toInt + 4)).toInt = v15472.toInt; rw [show 8 * (gI g0 231 15).toInt + 4 = (8 * v6.toInt + 4) by omega]; exact (congrArg Int32.toInt (((eA_sA_ne hI15582.1 ka_237 (by first | decide | omega) (by first | decide | omega) (by first | decide | omega)).trans ((eA_c (hF15583.2.1 237 (by decide))).trans ((eA_c (hF15551.2.1 237 (by decide))).trans ((eA_c (hF15512.2.1 237 (by decide))).trans ((eA_sA_ne hI15484.1 ka_237 (by first | decide | omega) (by first | decide | omega) (by first | decide | omega)).trans (eA_sA_eq hI15453.1 ka_237 (by first | rfl | omega) (by first | decide | omega) (by first | decide | omega))))))))).trans (by omega)) (by show (eA _ 237 (8 * (gI g0 231 15).toInt + 5)).toInt = v15472.toInt; rw [show 8 * (gI g0 231 15).toInt + 5 = (8 * v6.toInt + 5) by omega]; exact (congrArg Int32.toInt (((eA_sA_ne hI15582.1 ka_237 (by first | decide | omega) (by first | decide | omega) (by first | decide | omega)).trans ((eA_c (hF15583.2.1 237 (by decide))).trans ((eA_c (hF15551.2.1 237 (by decide))).trans ((eA_c (hF15512.2.1 237 (by decide))).trans (eA_sA_eq hI15484.1 ka_237 (by first | rfl | omega) (by first | decide | omega) (by first | decide | omega)))))))).trans (by omega)) (by show (eA _ 237 (8 * (gI g0 231 15).toInt + 6)).toInt = (gI _ 231 17).toInt; rw [show 8 * (gI g0 231 15).toInt + 6 = (8 * v6.toInt + 6) by omega]; exact (congrArg Int32.toInt ((eA_sA_eq hI15582.1 ka_237 (by first | rfl | omega) (by first | decide | omega) (by first | decide | omega)))).trans (by omega)) (show SAME g0 _ (gI g0 231 17).toInt from (SAME.tr (SAME.tr (SAME.tr (SAME.tr (SAME.c hI15305 (((gA_sA_ne (by decide)).trans ((gA_sI).trans ((gA_sA_ne (by decide)).trans ((q15294.2.1 238 (by decide)).trans ((hF14946.2.1 238 (by decide)).trans (q13745.2.1 238 (by decide)))))))) (((gA_sA_ne (by decide)).trans ((gA_sI).trans ((gA_sA_ne (by decide)).trans ((q15294.2.1 239 (by decide)).trans ((hF14946.2.1 239 (by decide)).trans (q13745.2.1 239 (by decide))))))))) (EXPR.same x0) (by show _ ≤ (gI _ 231 17).toInt; omega)) (SAME.c hI15550 (((hF15551.2.1 238 (by decide)).trans ((hF15512.2.1 238 (by decide)).trans ((gA_sA_ne (by decide)).trans (gA_sA_ne (by decide)))))) (((hF15551.2.1 239 (by decide)).trans ((hF15512.2.1 239 (by decide)).trans ((gA_sA_ne (by decide)).trans (gA_sA_ne (by decide))))))) (by omega)) (EXPR.same x1) (by show _ ≤ (gI _ 231 17).toInt; omega)) (SAME.c hI15613 ((gA_sA_ne (by decide))) ((gA_sA_ne (by decide)))) (Int.le_refl _))) (EXPR.code x0 (show SAME g15452 _ (gI g15452 231 17).toInt from (SAME.tr (SAME.tr (SAME.c hI15550 (((hF15551.2.1 238 (by decide)).trans ((hF15512.2.1 238 (by decide)).trans ((gA_sA_ne (by decide)).trans (gA_sA_ne (by decide)))))) (((hF15551.2.1 239 (by decide)).trans ((hF15512.2.1 239 (by decide)).trans ((gA_sA_ne (by decide)).trans (gA_sA_ne (by decide))))))) (EXPR.same x1) (by show _ ≤ (gI _ 231 17).toInt; omega)) (SAME.c hI15613 ((gA_sA_ne (by decide))) ((gA_sA_ne (by decide)))) (Int.le_refl _))) (by show _ = (gI _ 231 17).toInt; omega) (by show _ = (gI _ 231 17).toInt; omega) (by show 0 ≤ (gI _ 231 17).toInt; omega)) (EXPR.code x1 (show SAME g15581 _ (gI g15581 231 17).toInt from (SAME.c hI15613 ((gA_sA_ne (by decide))) ((gA_sA_ne (by decide))))) (by show _ = (gI _ 231 17).toInt; omega) (by show _ = (gI _ 231 17).toInt; omega) (by show 0 ≤ (gI _ 231 17).toInt; omega))⟩)⟩⟩
          · have c15298_ : x15282.toInt < 8 := en_i_ge_f c15298
            refine At.enter rfl ?_
            refine r_aload_n e15289 ?_
            refine q_getR (Sh.ref hI15284.1 kx_231 rfl) ?_
            refine r_iload_n e15291 ?_
            refine r_iload_n e15292 ?_
            refine q_iadd (v14976.toInt + x15282.toInt) rfl (by omega) (fun v15630 hv15630 => ?_)
            refine r_iconst 0 rfl ?_
            refine q_iast (Sh.arr hI15284.1 ka_237) ((8 * v6.toInt + x15282.toInt)) (by omega) (by omega) ?_
            have hI15631 := HI.wA0 hI15284 ka_237 (p := 237) rfl rfl ((8 * v6.toInt + x15282.toInt)) (0)
            have hF15632 := Fr.wA (p := 237) (j := (8 * v6.toInt + x15282.toInt)) (v := 0) hF15285 rfl
            refine q_iinc e15292 (x15282.toInt + 1) rfl (by omega) (fun v15633 hv15633 => ?_)
            refine r_goto ?_
            exact ih15288 (8 - v15633.toInt) _ _ ⟨v15633, by first | rfl | omega, hI15631, hF15632, (w_p1 (by decide) (Or.inr rfl) e15289), (w_p1 (by decide) (Or.inr rfl) e15290), (w_p1 (by decide) (Or.inr rfl) e15291), (w_e1 _ _ _), by omega, (Fr.wA (p := 237) q15294 rfl), (fun i i0 i1 => (eA_sA_ne (i := i) hI15284.1 ka_237 (by omega) (by omega) (by omega)).trans (q15295 i i0 i1))⟩ ⟨by omega, by omega⟩
        · have c14972_ : v14963.toInt ≠ 0 := en_k_eq_f c14972
          clear c14971
          refine At.enter rfl ?_
          refine r_vret ?_
          have x15634 := HI.eqI hI14945 (p := 231) (b := 8) ((((hF14946.1 231 8 (by decide)).trans (q13745.1 231 8 (by decide))).trans hv1))
          have x15635 := HI.eqI hI14945 (p := 231) (b := 9) (hv14957)
          have x15636 := HI.eqI hI14945 (p := 231) (b := 10) (hv14959)
          have x15637 := HI.eqI hI14945 (p := 231) (b := 11) (hv14961)
          have x15638 := HI.eqI hI14945 (p := 231) (b := 14) (hv14963)
          have x15639 := HI.eqI hI14945 (p := 231) (b := 15) ((((hF14946.1 231 15 (by decide)).trans (q13745.1 231 15 (by decide))).trans hv6))
          have x15640 := HI.eqI hI14945 (p := 231) (b := 17) ((((hF14946.1 231 17 (by decide)).trans (q13745.1 231 17 (by decide))).trans hv7))
          have x15641 := HI.eqI hI0 (p := 231) (b := 8) (hv1)
          have x15642 := HI.eqI hI0 (p := 231) (b := 9) (hv2)
          have x15643 := HI.eqI hI0 (p := 231) (b := 10) (hv3)
          have x15644 := HI.eqI hI0 (p := 231) (b := 11) (hv4)
          have x15645 := HI.eqI hI0 (p := 231) (b := 14) (hv5)
          have x15646 := HI.eqI hI0 (p := 231) (b := 15) (hv6)
          have x15647 := HI.eqI hI0 (p := 231) (b := 17) (hv7)
          exact ⟨_, rfl, hI14945, hF14949, rfl, ⟨by omega, by omega, by omega, by omega, c14970, by omega, (fun hbad => False.elim (by omega))⟩⟩
  · have c13749_ : x13733.toInt < 3 := en_i_ge_f c13749
    refine At.enter rfl ?_
    refine r_aload_n e13740 ?_
    refine r_aload_n e13740 ?_
    refine q_getR (Sh.ref hI13735.1 kx_231 rfl) ?_
    refine r_iload_n e13742 ?_
    refine q_lald (Sh.lar hI13735.1 ka_243) (x13733.toInt) rfl (by omega) (fun v15648 => ?_)
    have x15649 := HI.eqI hI13735 (p := 231) (b := 11) (((q13745.1 231 11 (by decide)).trans hv4))
    refine r_callV 19 rfl [.ref 231, .long v15648] [] (Nat.le_of_ble_eq_true rfl) rfl (T_X11_isWord_231 _ hI13735 v15648 (by omega)) ?_
    rintro _ _ ⟨g15650, rfl, hI15651, hF15652, v15653, rfl, hr15654⟩
    refine At.sti ?_
    have hF15655 := Fr.tr hF13736 hF15652 rfl rfl
    have x15656 := HI.eqI hI13735 (p := 231) (b := 9) (((q13745.1 231 9 (by decide)).trans hv2))
    have x15657 := HI.eqI hI13735 (p := 231) (b := 10) (((q13745.1 231 10 (by decide)).trans hv3))
    have x15658 := HI.eqI hI13735 (p := 231) (b := 11) (((q13745.1 231 11 (by decide)).trans hv4))
    have x15659 := HI.eqI hI15651 (p := 231) (b := 9) ((((hF15652.1 231 9 (by decide)).trans (q13745.1 231 9 (by decide))).trans hv2))
    have x15660 := HI.eqI hI15651 (p := 231) (b := 10) ((((hF15652.1 231 10 (by decide)).trans (q13745.1 231 10 (by decide))).trans hv3))
    have x15661 := HI.eqI hI15651 (p := 231) (b := 11) ((((hF15652.1 231 11 (by decide)).trans (q13745.1 231 11 (by decide))).trans hv4))
    obtain ⟨c15664, c15662, isw15663⟩ := hr15654
    refine At.enter rfl ?_
    refine r_ifs 22 rfl (fun c15665 => ?_) (fun c15665 => ?_)
    · have c15665_ : v15653.toInt = 0 := en_k_eq_t c15665
      refine At.enter rfl ?_
      refine r_iload_n e13741 ?_
      refine Ar.fall 27 rfl ?_
      refine At.enter rfl ?_
      refine r_istore_n _ rfl ?_
      refine q_iinc (w_p1 (by decide) (Or.inr rfl) e13742) (x13733.toInt + 1) rfl (by omega) (fun v15666 hv15666 => ?_)
      refine r_goto ?_
      exact ih13739 (3 - v15666.toInt) _ _ ⟨x13732, v15666, by first | rfl | omega, hI15651, hF15655, (w_p1 (by decide) (Or.inr rfl) (w_p1 (by decide) (Or.inr rfl) e13740)), (w_p1 (by decide) (Or.inr rfl) (w_e1 _ _ _)), (w_e1 _ _ _), by omega, by omega, (Fr.tr q13745 hF15652 rfl rfl)⟩ ⟨by omega, by omega⟩
    · have c15665_ : v15653.toInt ≠ 0 := en_k_eq_f c15665
      refine At.enter rfl ?_
      refine r_iload_n e13742 ?_
      refine r_goto ?_
      refine At.enter rfl ?_
      refine r_istore_n _ rfl ?_
      refine q_iinc (w_p1 (by decide) (Or.inr rfl) e13742) (x13733.toInt + 1) rfl (by omega) (fun v15667 hv15667 => ?_)
      refine r_goto ?_
      exact ih13739 (3 - v15667.toInt) _ _ ⟨x13733, v15667, by first | rfl | omega, hI15651, hF15655, (w_p1 (by decide) (Or.inr rfl) (w_p1 (by decide) (Or.inr rfl) e13740)), (w_p1 (by decide) (Or.inr rfl) (w_e1 _ _ _)), (w_e1 _ _ _), by omega, by omega, (Fr.tr q13745 hF15652 rfl rfl)⟩ ⟨by omega, by omega⟩
