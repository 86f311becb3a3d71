def F_X11_readClause_231 : List (Nat × Nat) := [(231, 9), (231, 10), (231, 11), (231, 12), (231, 13), (231, 14), (231, 15), (231, 17), (231, 20), (231, 23), (231, 24)]
def A_X11_readClause_231 : List Nat := [237, 238, 239, 240, 241]
set_option maxRecDepth 100000 in
set_option maxHeartbeats 4000000 in
theorem T_X11_readClause_231 (d : Nat) {N : Nat} {g0 : List en_E} (hI0 : HI g0) (h1 : ((gI g0 231 9).toInt ≤ (gI g0 231 10).toInt ∧ (gI g0 231 10).toInt ≤ (gI g0 231 8).toInt ∧ 0 ≤ (gI g0 231 11).toInt ∧ (gI g0 231 11).toInt ≤ 3 * ((gI g0 231 10).toInt - (gI g0 231 9).toInt))) (h2 : (gI g0 231 14).toInt = 0) (h3 : (gI g0 231 17).toInt ≤ (gI g0 231 9).toInt) (hW : W26 g0) (hC : CLS g0 (gI g0 231 15).toInt (gI g0 231 17).toInt) (hK : TKM g0) : Ev (d + 8) 209 [.ref 231] (g0, N) (fun w h' => ∃ g', h' = (g', N) ∧ HI g' ∧ Fr F_X11_readClause_231 A_X11_readClause_231 g0 g' ∧ w = none ∧ ((gI g' 231 9).toInt ≤ (gI g' 231 10).toInt ∧ (gI g' 231 10).toInt ≤ (gI g' 231 8).toInt ∧ 0 ≤ (gI g' 231 11).toInt ∧ (gI g' 231 11).toInt ≤ 3 * ((gI g' 231 10).toInt - (gI g' 231 9).toInt) ∧ W26 g' ∧ (gI g0 231 9).toInt ≤ (gI g' 231 9).toInt ∧ CLZ g' ∧ (TKM g' ∧ CPM g0 g' ∧ CPG g0 g'))) := by
  have hF0 : Fr F_X11_readClause_231 A_X11_readClause_231 g0 g0 := Fr.rf
  obtain ⟨v1, hv1⟩ : ∃ v, gI g0 231 8 = v := ⟨_, rfl⟩
  have rv1 := RgF.at hI0.2.1 (p := 231) (b := 8) rfl
  rw [hv1] at rv1
  dsimp only at rv1
  have tv1 := congrArg Int32.toInt hv1
  obtain ⟨v2, hv2⟩ : ∃ v, gI g0 231 9 = v := ⟨_, rfl⟩
  have rv2 := RgF.at hI0.2.1 (p := 231) (b := 9) rfl
  rw [hv2] at rv2
  dsimp only at rv2
  have tv2 := congrArg Int32.toInt hv2
  obtain ⟨v3, hv3⟩ : ∃ v, gI g0 231 10 = v := ⟨_, rfl⟩
  have rv3 := RgF.at hI0.2.1 (p := 231) (b := 10) rfl
  rw [hv3] at rv3
  dsimp only at rv3
  have tv3 := congrArg Int32.toInt hv3
  obtain ⟨v4, hv4⟩ : ∃ v, gI g0 231 11 = v := ⟨_, rfl⟩
  have tv4 := congrArg Int32.toInt hv4
  obtain ⟨v5, hv5⟩ : ∃ v, gI g0 231 14 = v := ⟨_, rfl⟩
  have tv5 := congrArg Int32.toInt hv5
  obtain ⟨v6, hv6⟩ : ∃ v, gI g0 231 15 = v := ⟨_, rfl⟩
  have rv6 := RgF.at hI0.2.1 (p := 231) (b := 15) rfl
  rw [hv6] at rv6
  dsimp only at rv6
  have tv6 := congrArg Int32.toInt hv6
  obtain ⟨v7, hv7⟩ : ∃ v, gI g0 231 17 = v := ⟨_, rfl⟩
  have rv7 := RgF.at hI0.2.1 (p := 231) (b := 17) rfl
  rw [hv7] at rv7
  dsimp only at rv7
  have tv7 := congrArg Int32.toInt hv7
  refine Ev.mk rfl rfl ⟨Nat.le_of_ble_eq_true rfl, Or.inr (q_rc hI0.1 kx_231 rfl)⟩ ?_
  show At _ none _ _ (0, [(0, .ref 231)], [], (_, _)) _
  refine At.enter rfl ?_
  refine r_iconst (-1) rfl ?_
  refine r_istore_n ([(1, .int (-1)), (0, .ref 231)]) rfl ?_
  refine r_iconst 0 rfl ?_
  refine r_istore_n ([(2, .int 0), (1, .int (-1)), (0, .ref 231)]) rfl ?_
  refine Ar.fall 4 rfl ?_
  have z_15377 : ((-1) : Int32).toInt = (-1) := rfl
  have z_15378 : (0 : Int32).toInt = 0 := rfl
  refine w_loopI (fun n_ l_ g_ => ∃ x15362 : Int32, ∃ x15363 : Int32, n_ = 3 - x15363.toInt ∧ HI g_ ∧ Fr F_X11_readClause_231 A_X11_readClause_231 g0 g_ ∧ en_get 0 l_ = some (.ref 231) ∧ en_get 1 l_ = some (.int x15362) ∧ en_get 2 l_ = some (.int x15363) ∧ ((-1) ≤ x15362.toInt ∧ x15362.toInt ≤ 2) ∧ (0 ≤ x15363.toInt ∧ x15363.toInt ≤ 3) ∧ (Fr [] [] g0 g_) ∧ (HEI (CDM g0) x15363.toInt x15362.toInt)) ?_ (3 - 0) ⟨(-1), 0, by first | rfl | omega, hI0, hF0, rfl, rfl, rfl, by decide, by decide, Fr.rf, (HEI.z (by first | rfl | omega) (by first | rfl | omega))⟩
  rintro n15368 l15367 g15364 ⟨x15362, x15363, hm15379, hI15365, hF15366, e15370, e15371, e15372, r15373, r15374, q15375, q15376⟩ ih15369
  refine At.enter rfl ?_
  refine r_iload_n e15372 ?_
  refine r_iconst 3 rfl ?_
  refine r_ics 9 rfl (fun c15380 => ?_) (fun c15380 => ?_)
  · have c15380_ : x15363.toInt ≥ 3 := en_i_ge_t c15380
    refine At.enter rfl ?_
    refine r_aload_n e15370 ?_
    refine r_iload_n e15371 ?_
    refine r_iconst (-1) rfl ?_
    refine r_ics 40 rfl (fun c15381 => ?_) (fun c15381 => ?_)
    · have c15381_ : x15362.toInt = (-1) := en_i_eq_t c15381
      refine At.enter rfl ?_
      refine r_iconst 0 rfl ?_
      refine Ar.fall 54 rfl ?_
      refine At.enter rfl ?_
      have x15382 := HI.eqI hI15365 (p := 231) (b := 8) (((q15375.1 231 8 (by decide)).trans hv1))
      have x15383 := HI.eqI hI15365 (p := 231) (b := 9) (((q15375.1 231 9 (by decide)).trans hv2))
      have x15384 := HI.eqI hI15365 (p := 231) (b := 10) (((q15375.1 231 10 (by decide)).trans hv3))
      have x15385 := HI.eqI hI15365 (p := 231) (b := 11) (((q15375.1 231 11 (by decide)).trans hv4))
      have w2615386 := W26.cong hW hI15365 ((q15375.1 231 9 (by decide))) ((q15375.1 231 10 (by decide))) ((q15375.1 231 11 (by decide))) ((q15375.2.2 231 12 (by decide)))
      refine r_callV 57 rfl [.ref 231, .int 0] [] (Nat.le_of_ble_eq_true rfl) rfl (T_X11_must_231 _ hI15365 0 (by decide) (by refine ⟨?_, ?_, ?_, ?_⟩ <;> omega) w2615386 (TKM.c hK ((q15375.2.1 236 (by decide))) ((q15375.1 231 8 (by decide))) ((q15375.1 231 9 (by decide))) ((q15375.1 231 10 (by decide))) ((q15375.1 231 11 (by decide))) ((q15375.2.2 231 12 (by decide))))) ?_
      rintro _ _ ⟨g15388, rfl, hI15389, hF15390, rfl, hr15392⟩
      refine At.stn ?_
      have hF15393 := Fr.tr hF15366 hF15390 rfl rfl
      have x15399 := HI.eqI hI15365 (p := 231) (b := 14) (((q15375.1 231 14 (by decide)).trans hv5))
      have x15400 := HI.eqI hI15389 (p := 231) (b := 8) ((((hF15390.1 231 8 (by decide)).trans (q15375.1 231 8 (by decide))).trans hv1))
      obtain ⟨v15401, hv15401⟩ : ∃ v, gI g15388 231 9 = v := ⟨_, rfl⟩
      have rv15401 := RgF.at hI15389.2.1 (p := 231) (b := 9) rfl
      rw [hv15401] at rv15401
      dsimp only at rv15401
      have tv15401 := congrArg Int32.toInt hv15401
      have x15402 := HI.eqI hI15389 (p := 231) (b := 9) (hv15401)
      obtain ⟨v15403, hv15403⟩ : ∃ v, gI g15388 231 10 = v := ⟨_, rfl⟩
      have rv15403 := RgF.at hI15389.2.1 (p := 231) (b := 10) rfl
      rw [hv15403] at rv15403
      dsimp only at rv15403
      have tv15403 := congrArg Int32.toInt hv15403
      have x15404 := HI.eqI hI15389 (p := 231) (b := 10) (hv15403)
      obtain ⟨v15405, hv15405⟩ : ∃ v, gI g15388 231 11 = v := ⟨_, rfl⟩
      have tv15405 := congrArg Int32.toInt hv15405
      have x15406 := HI.eqI hI15389 (p := 231) (b := 11) (hv15405)
      obtain ⟨v15407, hv15407⟩ : ∃ v, gI g15388 231 14 = v := ⟨_, rfl⟩
      have tv15407 := congrArg Int32.toInt hv15407
      have x15408 := HI.eqI hI15389 (p := 231) (b := 14) (hv15407)
      obtain ⟨c15409, c15410, c15411, c15412, c15413, c15414, c15415, c15416⟩ := hr15392
      obtain ⟨v15417, hv15417⟩ : ∃ v, gI g0 231 13 = v := ⟨_, rfl⟩
      have tv15417 := congrArg Int32.toInt hv15417
      have x15418 := HI.eqI hI15365 (p := 231) (b := 13) (((q15375.1 231 13 (by decide)).trans hv15417))
      obtain ⟨v15420, hv15420⟩ : ∃ v, gI g15388 231 13 = v := ⟨_, rfl⟩
      have tv15420 := congrArg Int32.toInt hv15420
      have x15421 := HI.eqI hI15389 (p := 231) (b := 13) (hv15420)
      unfold MUSTP at c15416
      rw [TM.c ((q15375.2.1 236 (by decide))), nM.c ((q15375.1 231 8 (by decide))), pI.c (b := 14) ((q15375.1 231 14 (by decide))), pI.c (b := 13) ((q15375.1 231 13 (by decide))), pI.c (b := 10) ((q15375.1 231 10 (by decide))), pI.c (b := 9) ((q15375.1 231 9 (by decide)))] at c15416
      have mu15422 : MUSTP g0 g15388 0 := c15416
      clear c15416
      have hK15423 := mu15422.1
      refine At.enter rfl ?_
      refine r_aload_n e15370 ?_
      refine q_getI (Sh.int hI15389.1 kx_231 rfl) v15407 hv15407 ?_
      refine r_ifs 64 rfl (fun c15424 => ?_) (fun c15424 => ?_)
      · have c15424_ : v15407.toInt = 0 := en_k_eq_t c15424
        obtain ⟨i15425, i15426, i15427⟩ := c15415 (by omega)
        obtain ⟨i15428, i15429⟩ := MUSTP.z mu15422 (by omega) (by omega)
        refine At.enter rfl ?_
        refine r_bipush 8 rfl ?_
        refine r_aload_n e15370 ?_
        refine q_getI (Sh.int hI15389.1 kx_231 rfl) v6 (((hF15390.1 231 15 (by decide)).trans (q15375.1 231 15 (by decide))).trans hv6) ?_
        refine q_imul (8 * v6.toInt) rfl (by omega) (fun v15430 hv15430 => ?_)
        refine r_istore_n _ rfl ?_
        refine r_iconst 0 rfl ?_
        refine r_istore_n _ rfl ?_
        refine Ar.fall 75 rfl ?_
        refine w_loopI (fun n_ l_ g_ => ∃ x15651 : Int32, n_ = 8 - x15651.toInt ∧ HI g_ ∧ Fr F_X11_readClause_231 A_X11_readClause_231 g0 g_ ∧ en_get 0 l_ = some (.ref 231) ∧ en_get 1 l_ = some (.int x15362) ∧ en_get 2 l_ = some (.int v15430) ∧ en_get 3 l_ = some (.int x15651) ∧ (0 ≤ x15651.toInt ∧ x15651.toInt ≤ 8) ∧ (Fr [] [237] g15388 g_) ∧ (∀ i : Int, 0 ≤ i → i < v15430.toInt → eA g_ 237 i = eA g15388 237 i)) ?_ (8 - 0) ⟨0, by first | rfl | omega, hI15389, hF15393, (w_p1 (by decide) (Or.inr rfl) (w_p1 (by decide) (Or.inr rfl) e15370)), (w_p1 (by decide) (Or.inr rfl) (w_p1 (by decide) (Or.inr rfl) e15371)), (w_p1 (by decide) (Or.inr rfl) (w_e1 _ _ _)), (w_e1 _ _ _), by decide, Fr.rf, (fun i i0 i1 => rfl)⟩
        rintro n15656 l15655 g15652 ⟨x15651, hm15666, hI15653, hF15654, e15658, e15659, e15660, e15661, r15662, q15663, q15664⟩ ih15657
        refine At.enter rfl ?_
        refine r_iload_n e15661 ?_
        refine r_bipush 8 rfl ?_
        refine r_ics 81 rfl (fun c15667 => ?_) (fun c15667 => ?_)
        · have c15667_ : x15651.toInt ≥ 8 := en_i_ge_t c15667
          refine At.enter rfl ?_
          refine r_aload_n e15658 ?_
          refine q_getR (Sh.ref hI15653.1 kx_231 rfl) ?_
          refine r_iload_n e15660 ?_
          refine r_iload_n e15659 ?_
          refine q_iast (Sh.arr hI15653.1 ka_237) ((8 * v6.toInt)) (by omega) (by omega) ?_
          have hI15668 := HI.wA0 hI15653 ka_237 (p := 237) rfl rfl ((8 * v6.toInt)) (x15362)
          have hF15669 := Fr.wA (p := 237) (j := (8 * v6.toInt)) (v := x15362) hF15654 rfl
          refine r_aload_n e15658 ?_
          refine r_dup rfl ?_
          refine q_getI (Sh.int hI15668.1 kx_231 rfl) v6 (((gI_sW).trans ((q15663.1 231 15 (by decide)).trans ((hF15390.1 231 15 (by decide)).trans (q15375.1 231 15 (by decide))))).trans hv6) ?_
          refine r_iconst 1 rfl ?_
          refine q_iadd (v6.toInt + 1) rfl (by omega) (fun v15670 hv15670 => ?_)
          refine q_putI (Sh.int hI15668.1 kx_231 rfl) rfl ?_
          have hI15671 := HI.wI1 hI15668 kx_231 rfl (p := 231) (b := 15) (v := v15670) rfl (by dsimp only; omega)
          have hF15672 := Fr.wI (p := 231) (b := 15) (v := v15670) hF15669 rfl
          refine r_aload_n e15658 ?_
          refine q_getR (Sh.ref hI15671.1 kx_231 rfl) ?_
          refine r_iload_n e15660 ?_
          refine r_iconst 3 rfl ?_
          refine q_iadd (v15430.toInt + 3) rfl (by omega) (fun v15673 hv15673 => ?_)
          refine r_aload_n e15658 ?_
          refine q_getI (Sh.int hI15671.1 kx_231 rfl) v7 (((gI_sI_ne (by decide)).trans ((gI_sW).trans ((q15663.1 231 17 (by decide)).trans ((hF15390.1 231 17 (by decide)).trans (q15375.1 231 17 (by decide)))))).trans hv7) ?_
          refine q_iast (Sh.arr hI15671.1 ka_237) ((8 * v6.toInt + 3)) (by omega) (by omega) ?_
          have hI15674 := HI.wA0 hI15671 ka_237 (p := 237) rfl rfl ((8 * v6.toInt + 3)) (v7)
          have hF15675 := Fr.wA (p := 237) (j := (8 * v6.toInt + 3)) (v := v7) hF15672 rfl
          refine r_iload_n e15659 ?_
          refine r_iconst 2 rfl ?_
          refine r_ics 130 rfl (fun c15676 => ?_) (fun c15676 => ?_)
          · have c15676_ : x15362.toInt ≥ 2 := en_i_ge_t c15676
            exfalso; omega
          · have c15676_ : x15362.toInt < 2 := en_i_ge_f c15676
            refine At.enter rfl ?_
            refine r_aload_n e15658 ?_
            refine r_iconst 0 rfl ?_
            have x15677 := HI.eqI hI15674 (p := 231) (b := 8) ((((gI_sW).trans ((gI_sI_ne (by decide)).trans ((gI_sW).trans ((q15663.1 231 8 (by decide)).trans ((hF15390.1 231 8 (by decide)).trans (q15375.1 231 8 (by decide))))))).trans hv1))
            have x15678 := HI.eqI hI15674 (p := 231) (b := 9) ((((gI_sW).trans ((gI_sI_ne (by decide)).trans ((gI_sW).trans (q15663.1 231 9 (by decide))))).trans hv15401))
            have x15679 := HI.eqI hI15674 (p := 231) (b := 10) ((((gI_sW).trans ((gI_sI_ne (by decide)).trans ((gI_sW).trans (q15663.1 231 10 (by decide))))).trans hv15403))
            have x15680 := HI.eqI hI15674 (p := 231) (b := 11) ((((gI_sW).trans ((gI_sI_ne (by decide)).trans ((gI_sW).trans (q15663.1 231 11 (by decide))))).trans hv15405))
            obtain ⟨v15681, hv15681⟩ : ∃ v, gJ g15388 231 12 = v := ⟨_, rfl⟩
            have x15682 := HI.eqJ hI15674 (b := 12) ((((gJ_sW).trans ((gJ_sI_ne (by decide)).trans ((gJ_sW).trans (q15663.2.2 231 12 (by decide))))).trans hv15681))
            have x15683 := HI.eqI hI15674 (p := 231) (b := 14) ((((gI_sW).trans ((gI_sI_ne (by decide)).trans ((gI_sW).trans (q15663.1 231 14 (by decide))))).trans hv15407))
            have x15684 := HI.eqI hI15674 (p := 231) (b := 17) ((((gI_sW).trans ((gI_sI_ne (by decide)).trans ((gI_sW).trans ((q15663.1 231 17 (by decide)).trans ((hF15390.1 231 17 (by decide)).trans (q15375.1 231 17 (by decide))))))).trans hv7))
            obtain ⟨v15685, hv15685⟩ : ∃ v, gI g0 231 23 = v := ⟨_, rfl⟩
            have rv15685 := RgF.at hI0.2.1 (p := 231) (b := 23) rfl
            rw [hv15685] at rv15685
            dsimp only at rv15685
            have tv15685 := congrArg Int32.toInt hv15685
            have x15686 := HI.eqI hI15674 (p := 231) (b := 23) ((((gI_sW).trans ((gI_sI_ne (by decide)).trans ((gI_sW).trans ((q15663.1 231 23 (by decide)).trans ((hF15390.1 231 23 (by decide)).trans (q15375.1 231 23 (by decide))))))).trans hv15685))
            have w2615687 := W26.cong c15414 hI15674 (((gI_sW).trans ((gI_sI_ne (by decide)).trans ((gI_sW).trans (q15663.1 231 9 (by decide)))))) (((gI_sW).trans ((gI_sI_ne (by decide)).trans ((gI_sW).trans (q15663.1 231 10 (by decide)))))) (((gI_sW).trans ((gI_sI_ne (by decide)).trans ((gI_sW).trans (q15663.1 231 11 (by decide)))))) (((gJ_sW).trans ((gJ_sI_ne (by decide)).trans ((gJ_sW).trans (q15663.2.2 231 12 (by decide))))))
            refine r_callV 135 rfl [.ref 231, .int 0] [] (Nat.le_of_ble_eq_true rfl) rfl (T_X11_readExpression_231 _ hI15674 0 (by decide) (by refine ⟨?_, ?_, ?_, ?_⟩ <;> omega) (by omega) (by omega) w2615687 (TKM.c hK15423 (((gA_sA_ne (by decide)).trans ((gA_sI).trans ((gA_sA_ne (by decide)).trans (q15663.2.1 236 (by decide)))))) (((gI_sW).trans ((gI_sI_ne (by decide)).trans ((gI_sW).trans (q15663.1 231 8 (by decide)))))) (((gI_sW).trans ((gI_sI_ne (by decide)).trans ((gI_sW).trans (q15663.1 231 9 (by decide)))))) (((gI_sW).trans ((gI_sI_ne (by decide)).trans ((gI_sW).trans (q15663.1 231 10 (by decide)))))) (((gI_sW).trans ((gI_sI_ne (by decide)).trans ((gI_sW).trans (q15663.1 231 11 (by decide)))))) (((gJ_sW).trans ((gJ_sI_ne (by decide)).trans ((gJ_sW).trans (q15663.2.2 231 12 (by decide)))))))) ?_
            rintro _ _ ⟨g15689, rfl, hI15690, hF15691, rfl, hr15693⟩
            refine At.stn ?_
            have hF15694 := Fr.tr hF15675 hF15691 rfl rfl
            have x15698 := HI.eqI hI15690 (p := 231) (b := 8) ((((hF15691.1 231 8 (by decide)).trans ((gI_sW).trans ((gI_sI_ne (by decide)).trans ((gI_sW).trans ((q15663.1 231 8 (by decide)).trans ((hF15390.1 231 8 (by decide)).trans (q15375.1 231 8 (by decide)))))))).trans hv1))
            obtain ⟨v15699, hv15699⟩ : ∃ v, gI g15689 231 9 = v := ⟨_, rfl⟩
            have rv15699 := RgF.at hI15690.2.1 (p := 231) (b := 9) rfl
            rw [hv15699] at rv15699
            dsimp only at rv15699
            have tv15699 := congrArg Int32.toInt hv15699
            have x15700 := HI.eqI hI15690 (p := 231) (b := 9) (hv15699)
            obtain ⟨v15701, hv15701⟩ : ∃ v, gI g15689 231 10 = v := ⟨_, rfl⟩
            have rv15701 := RgF.at hI15690.2.1 (p := 231) (b := 10) rfl
            rw [hv15701] at rv15701
            dsimp only at rv15701
            have tv15701 := congrArg Int32.toInt hv15701
            have x15702 := HI.eqI hI15690 (p := 231) (b := 10) (hv15701)
            obtain ⟨v15703, hv15703⟩ : ∃ v, gI g15689 231 11 = v := ⟨_, rfl⟩
            have tv15703 := congrArg Int32.toInt hv15703
            have x15704 := HI.eqI hI15690 (p := 231) (b := 11) (hv15703)
            obtain ⟨v15705, hv15705⟩ : ∃ v, gJ g15689 231 12 = v := ⟨_, rfl⟩
            have x15706 := HI.eqJ hI15690 (b := 12) (hv15705)
            obtain ⟨v15707, hv15707⟩ : ∃ v, gI g15689 231 14 = v := ⟨_, rfl⟩
            have tv15707 := congrArg Int32.toInt hv15707
            have x15708 := HI.eqI hI15690 (p := 231) (b := 14) (hv15707)
            obtain ⟨v15709, hv15709⟩ : ∃ v, gI g15689 231 17 = v := ⟨_, rfl⟩
            have rv15709 := RgF.at hI15690.2.1 (p := 231) (b := 17) rfl
            rw [hv15709] at rv15709
            dsimp only at rv15709
            have tv15709 := congrArg Int32.toInt hv15709
            have x15710 := HI.eqI hI15690 (p := 231) (b := 17) (hv15709)
            obtain ⟨v15711, hv15711⟩ : ∃ v, gI g15689 231 23 = v := ⟨_, rfl⟩
            have rv15711 := RgF.at hI15690.2.1 (p := 231) (b := 23) rfl
            rw [hv15711] at rv15711
            dsimp only at rv15711
            have tv15711 := congrArg Int32.toInt hv15711
            have x15712 := HI.eqI hI15690 (p := 231) (b := 23) (hv15711)
            obtain ⟨c15713, c15714, c15715, c15716, c15717, c15718, c15719, c15720⟩ := hr15693
            have hK15721 := c15720.1
            obtain ⟨v15722, hv15722⟩ : ∃ v, gI g15689 231 13 = v := ⟨_, rfl⟩
            have tv15722 := congrArg Int32.toInt hv15722
            have x15723 := HI.eqI hI15690 (p := 231) (b := 13) (hv15722)
            refine At.enter rfl ?_
            refine r_aload_n e15658 ?_
            refine q_getR (Sh.ref hI15690.1 kx_231 rfl) ?_
            refine r_iload_n e15660 ?_
            refine r_iconst 4 rfl ?_
            refine q_iadd (v15430.toInt + 4) rfl (by omega) (fun v15725 hv15725 => ?_)
            refine r_aload_n e15658 ?_
            refine q_getI (Sh.int hI15690.1 kx_231 rfl) v15709 hv15709 ?_
            refine q_iast (Sh.arr hI15690.1 ka_237) ((8 * v6.toInt + 4)) (by omega) (by omega) ?_
            have hI15726 := HI.wA0 hI15690 ka_237 (p := 237) rfl rfl ((8 * v6.toInt + 4)) (v15709)
            have hF15727 := Fr.wA (p := 237) (j := (8 * v6.toInt + 4)) (v := v15709) hF15694 rfl
            refine r_aload_n e15658 ?_
            refine q_getR (Sh.ref hI15726.1 kx_231 rfl) ?_
            refine r_iload_n e15660 ?_
            refine r_iconst 5 rfl ?_
            refine q_iadd (v15430.toInt + 5) rfl (by omega) (fun v15728 hv15728 => ?_)
            refine r_aload_n e15658 ?_
            refine q_getI (Sh.int hI15726.1 kx_231 rfl) v15709 ((gI_sW).trans hv15709) ?_
            refine q_iast (Sh.arr hI15726.1 ka_237) ((8 * v6.toInt + 5)) (by omega) (by omega) ?_
            have hI15729 := HI.wA0 hI15726 ka_237 (p := 237) rfl rfl ((8 * v6.toInt + 5)) (v15709)
            have hF15730 := Fr.wA (p := 237) (j := (8 * v6.toInt + 5)) (v := v15709) hF15727 rfl
            refine r_aload_n e15658 ?_
            refine q_getI (Sh.int hI15729.1 kx_231 rfl) v15707 (((gI_sW).trans (gI_sW)).trans hv15707) ?_
            refine r_ifs 166 rfl (fun c15731 => ?_) (fun c15731 => ?_)
            · have c15731_ : v15707.toInt ≠ 0 := en_k_ne_t c15731
              refine At.enter rfl ?_
              refine r_aload_n e15658 ?_
              refine q_getR (Sh.ref hI15729.1 kx_231 rfl) ?_
              refine r_iload_n e15660 ?_
              refine r_bipush 6 rfl ?_
              refine q_iadd (v15430.toInt + 6) rfl (by omega) (fun v15732 hv15732 => ?_)
              refine r_aload_n e15658 ?_
              refine q_getI (Sh.int hI15729.1 kx_231 rfl) v15709 (((gI_sW).trans (gI_sW)).trans hv15709) ?_
              refine q_iast (Sh.arr hI15729.1 ka_237) ((8 * v6.toInt + 6)) (by omega) (by omega) ?_
              have hI15733 := HI.wA0 hI15729 ka_237 (p := 237) rfl rfl ((8 * v6.toInt + 6)) (v15709)
              have hF15734 := Fr.wA (p := 237) (j := (8 * v6.toInt + 6)) (v := v15709) hF15730 rfl
              refine r_vret ?_
              have x15735 := HI.eqI hI15733 (p := 231) (b := 8) ((((gI_sW).trans ((gI_sW).trans ((gI_sW).trans ((hF15691.1 231 8 (by decide)).trans ((gI_sW).trans ((gI_sI_ne (by decide)).trans ((gI_sW).trans ((q15663.1 231 8 (by decide)).trans ((hF15390.1 231 8 (by decide)).trans (q15375.1 231 8 (by decide))))))))))).trans hv1))
              have x15736 := HI.eqI hI15733 (p := 231) (b := 9) ((((gI_sW).trans ((gI_sW).trans (gI_sW))).trans hv15699))
              have x15737 := HI.eqI hI15733 (p := 231) (b := 10) ((((gI_sW).trans ((gI_sW).trans (gI_sW))).trans hv15701))
              have x15738 := HI.eqI hI15733 (p := 231) (b := 11) ((((gI_sW).trans ((gI_sW).trans (gI_sW))).trans hv15703))
              have x15739 := HI.eqI hI15733 (p := 231) (b := 14) ((((gI_sW).trans ((gI_sW).trans (gI_sW))).trans hv15707))
              have x15740 := HI.eqI hI15733 (p := 231) (b := 15) (((gI_sW).trans ((gI_sW).trans ((gI_sW).trans ((hF15691.1 231 15 (by decide)).trans ((gI_sW).trans (gI_sI_eq hI15668.1 kx_231 rfl _)))))))
              have x15741 := HI.eqI hI15733 (p := 231) (b := 17) ((((gI_sW).trans ((gI_sW).trans (gI_sW))).trans hv15709))
              have x15742 := HI.eqI hI0 (p := 231) (b := 8) (hv1)
              have x15743 := HI.eqI hI0 (p := 231) (b := 9) (hv2)
              have x15744 := HI.eqI hI0 (p := 231) (b := 10) (hv3)
              have x15745 := HI.eqI hI0 (p := 231) (b := 11) (hv4)
              have x15746 := HI.eqI hI0 (p := 231) (b := 14) (hv5)
              have x15747 := HI.eqI hI0 (p := 231) (b := 15) (hv6)
              have x15748 := HI.eqI hI0 (p := 231) (b := 17) (hv7)
              have w2615749 := W26.cong c15717 hI15733 (((gI_sW).trans ((gI_sW).trans (gI_sW)))) (((gI_sW).trans ((gI_sW).trans (gI_sW)))) (((gI_sW).trans ((gI_sW).trans (gI_sW)))) (((gJ_sW).trans ((gJ_sW).trans (gJ_sW))))
              have x15751 := HI.eqI hI15733 (p := 231) (b := 13) ((((gI_sW).trans ((gI_sW).trans (gI_sW))).trans hv15722))
              obtain ⟨v15754, hv15754⟩ : ∃ v, gI g15689 231 20 = v := ⟨_, rfl⟩
              have tv15754 := congrArg Int32.toInt hv15754
              have x15755 := HI.eqI hI15733 (p := 231) (b := 20) ((((gI_sW).trans ((gI_sW).trans (gI_sW))).trans hv15754))
              have x15757 := HI.eqI hI0 (p := 231) (b := 13) (hv15417)
              obtain ⟨v15760, hv15760⟩ : ∃ v, gI g0 231 20 = v := ⟨_, rfl⟩
              have tv15760 := congrArg Int32.toInt hv15760
              have x15761 := HI.eqI hI0 (p := 231) (b := 20) (hv15760)
              have hh := q15376
              unfold HEI at hh
              have x15762 := HI.eqI hI15674 (p := 231) (b := 13) ((((gI_sW).trans ((gI_sI_ne (by decide)).trans ((gI_sW).trans (q15663.1 231 13 (by decide))))).trans hv15420))
              have x15763 := HI.eqI hI15674 (p := 231) (b := 15) (((gI_sW).trans (gI_sI_eq hI15668.1 kx_231 rfl _)))
              have x15764 := HI.eqI hI15674 (p := 231) (b := 20) ((((gI_sW).trans ((gI_sI_ne (by decide)).trans ((gI_sW).trans ((q15663.1 231 20 (by decide)).trans ((hF15390.1 231 20 (by decide)).trans (q15375.1 231 20 (by decide))))))).trans hv15760))
              have y15769 : (gI g15388 231 13).toInt = (gI g0 231 13).toInt := (mu15422.2.1 (show (gI g0 231 14).toInt = 0 from by omega) (by omega)).2.1
              exact ⟨_, rfl, hI15733, hF15734, rfl, ⟨by omega, by omega, by omega, by omega, w2615749, by omega, (fun hbad => by have t0 := (c15719 (by omega)).1; have x0 := (c15719 (by omega)).2; have u0 : (gI _ 231 17).toInt ≤ (gI _ 231 17).toInt := x0.1; exact ⟨by omega, CLS.step (K := (gI g0 231 15).toInt) (n1 := (gI g0 231 17).toInt) (n2 := v15709.toInt) hC ⟨by omega, by omega⟩ ⟨by omega, by omega, by omega⟩ (fun i i0 i1 => ((eA_sA_ne (i := i) hI15729.1 ka_237 (by omega) (by omega) (by omega)).trans ((eA_sA_ne (i := i) hI15726.1 ka_237 (by omega) (by omega) (by omega)).trans ((eA_sA_ne (i := i) hI15690.1 ka_237 (by omega) (by omega) (by omega)).trans ((eA_c (hF15691.2.1 237 (by decide))).trans ((eA_sA_ne (i := i) hI15671.1 ka_237 (by omega) (by omega) (by omega)).trans ((eA_c gA_sI).trans ((eA_sA_ne (i := i) hI15653.1 ka_237 (by omega) (by omega) (by omega)).trans ((q15664 i i0 (by omega)).trans ((eA_c (hF15390.2.1 237 (by decide))).trans (eA_c (q15375.2.1 237 (by decide))))))))))))) (by show (eA _ 237 (8 * (gI g0 231 15).toInt + 3)).toInt = (gI g0 231 17).toInt; rw [show 8 * (gI g0 231 15).toInt + 3 = (8 * v6.toInt + 3) by omega]; exact (congrArg Int32.toInt (((eA_sA_ne hI15729.1 ka_237 (by first | decide | omega) (by first | decide | omega) (by first | decide | omega)).trans ((eA_sA_ne hI15726.1 ka_237 (by first | decide | omega) (by first | decide | omega) (by first | decide | omega)).trans ((eA_sA_ne hI15690.1 ka_237 (by first | decide | omega) (by first | decide | omega) (by first | decide | omega)).trans ((eA_c (hF15691.2.1 237 (by decide))).trans (eA_sA_eq hI15671.1 ka_237 (by first | rfl | omega) (by first | decide | omega) (by first | decide | omega)))))))).trans (by omega)) (by show (eA _ 237 (8 * (gI g0 231 15).toInt + 4)).toInt = v15709.toInt; rw [show 8 * (gI g0 231 15).toInt + 4 = (8 * v6.toInt + 4) by omega]; exact (congrArg Int32.toInt (((eA_sA_ne hI15729.1 ka_237 (by first | decide | omega) (by first | decide | omega) (by first | decide | omega)).trans ((eA_sA_ne hI15726.1 ka_237 (by first | decide | omega) (by first | decide | omega) (by first | decide | omega)).trans (eA_sA_eq hI15690.1 ka_237 (by first | rfl | omega) (by first | decide | omega) (by first | decide | omega)))))).trans (by omega)) (by show (eA _ 237 (8 * (gI g0 231 15).toInt + 5)).toInt = v15709.toInt; rw [show 8 * (gI g0 231 15).toInt + 5 = (8 * v6.toInt + 5) by omega]; exact (congrArg Int32.toInt (((eA_sA_ne hI15729.1 ka_237 (by first | decide | omega) (by first | decide | omega) (by first | decide | omega)).trans (eA_sA_eq hI15726.1 ka_237 (by first | rfl | omega) (by first | decide | omega) (by first | decide | omega))))).trans (by omega)) (by show (eA _ 237 (8 * (gI g0 231 15).toInt + 6)).toInt = (gI _ 231 17).toInt; rw [show 8 * (gI g0 231 15).toInt + 6 = (8 * v6.toInt + 6) by omega]; exact (congrArg Int32.toInt ((eA_sA_eq hI15729.1 ka_237 (by first | rfl | omega) (by first | decide | omega) (by first | decide | omega)))).trans (by omega)) (show SAME g0 _ (gI g0 231 17).toInt from (SAME.tr (SAME.tr (SAME.c hI15674 (((gA_sA_ne (by decide)).trans ((gA_sI).trans ((gA_sA_ne (by decide)).trans ((q15663.2.1 238 (by decide)).trans ((hF15390.2.1 238 (by decide)).trans (q15375.2.1 238 (by decide)))))))) (((gA_sA_ne (by decide)).trans ((gA_sI).trans ((gA_sA_ne (by decide)).trans ((q15663.2.1 239 (by decide)).trans ((hF15390.2.1 239 (by decide)).trans (q15375.2.1 239 (by decide))))))))) (EXPR.same x0) (by show _ ≤ (gI _ 231 17).toInt; omega)) (SAME.c hI15733 (((gA_sA_ne (by decide)).trans ((gA_sA_ne (by decide)).trans (gA_sA_ne (by decide))))) (((gA_sA_ne (by decide)).trans ((gA_sA_ne (by decide)).trans (gA_sA_ne (by decide)))))) (Int.le_refl _))) (EXPR.code x0 (show SAME g15689 _ (gI g15689 231 17).toInt from (SAME.c hI15733 (((gA_sA_ne (by decide)).trans ((gA_sA_ne (by decide)).trans (gA_sA_ne (by decide))))) (((gA_sA_ne (by decide)).trans ((gA_sA_ne (by decide)).trans (gA_sA_ne (by decide))))))) (by show _ = (gI _ 231 17).toInt; omega) (by show _ = (gI _ 231 17).toInt; omega) (by show 0 ≤ (gI _ 231 17).toInt; omega)) (WfCode.nil' (by omega) (by omega) (by omega))⟩), (TKM.c hK15721 (((gA_sA_ne (by decide)).trans ((gA_sA_ne (by decide)).trans (gA_sA_ne (by decide))))) (((gI_sW).trans ((gI_sW).trans (gI_sW)))) (((gI_sW).trans ((gI_sW).trans (gI_sW)))) (((gI_sW).trans ((gI_sW).trans (gI_sW)))) (((gI_sW).trans ((gI_sW).trans (gI_sW)))) (((gJ_sW).trans ((gJ_sW).trans (gJ_sW))))), (fun c0 h => by have h1 := CLM.headH hI15674 h (show (gI g0 231 14).toInt = 0 from by omega) (by rw [(pI.ci hI15674 (((gI_sW).trans ((gI_sI_ne (by decide)).trans ((gI_sW).trans (q15663.1 231 9 (by decide)))))))]; exact (MUSTP.tok hK mu15422 (show (gI g0 231 14).toInt = 0 from by omega) (by omega))) (by omega) (show (gI g0 231 15).toInt < 12 from by omega) (pI.ci hI15674 (((gI_sW).trans ((gI_sI_ne (by decide)).trans ((gI_sW).trans ((q15663.1 231 20 (by decide)).trans ((hF15390.1 231 20 (by decide)).trans (q15375.1 231 20 (by decide))))))))) (show (gI _ 231 15).toInt = (gI g0 231 15).toInt + 1 from by omega) (show (gI _ 231 13).toInt = (gI g0 231 13).toInt from by omega); have h2 := CLM.sum (c15720.2.1 3 (Or.inl ⟨rfl, rfl⟩)) (TM.c (((gA_sA_ne (by decide)).trans ((gA_sI).trans ((gA_sA_ne (by decide)).trans ((q15663.2.1 236 (by decide)).trans ((hF15390.2.1 236 (by decide)).trans (q15375.2.1 236 (by decide))))))))) (nM.c (((gI_sW).trans ((gI_sI_ne (by decide)).trans ((gI_sW).trans ((q15663.1 231 8 (by decide)).trans ((hF15390.1 231 8 (by decide)).trans (q15375.1 231 8 (by decide))))))))) h1; have h3 := CLM.noif h2 (TKM.someC hK15721 (((hF15691.2.1 236 (by decide)).trans ((gA_sA_ne (by decide)).trans ((gA_sI).trans ((gA_sA_ne (by decide)).trans ((q15663.2.1 236 (by decide)).trans ((hF15390.2.1 236 (by decide)).trans (q15375.2.1 236 (by decide))))))))) (((hF15691.1 231 8 (by decide)).trans ((gI_sW).trans ((gI_sI_ne (by decide)).trans ((gI_sW).trans ((q15663.1 231 8 (by decide)).trans ((hF15390.1 231 8 (by decide)).trans (q15375.1 231 8 (by decide)))))))))).choose_spec (fun z => by have z2 : (gI g15689 231 14).toInt = 0 := z; omega); exact CLM.eqv h3 (pI.ci hI15733 (((gI_sW).trans ((gI_sW).trans (gI_sW))))) (pI.ci hI15733 (((gI_sW).trans ((gI_sW).trans (gI_sW))))) (pI.ci hI15733 (((gI_sW).trans ((gI_sW).trans (gI_sW))))) (pI.ci hI15733 (((gI_sW).trans ((gI_sW).trans (gI_sW))))) (pI.ci hI15733 (((gI_sW).trans ((gI_sW).trans (gI_sW)))))), (fun h14 => ⟨fun n45 => N45_sH n45 (show (gI _ 231 15).toInt = (gI g0 231 15).toInt + 1 from by omega) (fun i i0 i1 => ((eA_sA_ne (i := i) hI15729.1 ka_237 (by omega) (by omega) (by omega)).trans ((eA_sA_ne (i := i) hI15726.1 ka_237 (by omega) (by omega) (by omega)).trans ((eA_sA_ne (i := i) hI15690.1 ka_237 (by omega) (by omega) (by omega)).trans ((eA_c (hF15691.2.1 237 (by decide))).trans ((eA_sA_ne (i := i) hI15671.1 ka_237 (by omega) (by omega) (by omega)).trans ((eA_c gA_sI).trans ((eA_sA_ne (i := i) hI15653.1 ka_237 (by omega) (by omega) (by omega)).trans ((q15664 i i0 (by omega)).trans ((eA_c (hF15390.2.1 237 (by decide))).trans (eA_c (q15375.2.1 237 (by decide))))))))))))) (by show (eA _ 237 (8 * (gI g0 231 15).toInt + 4)).toInt = (gI g15689 231 17).toInt; rw [show 8 * (gI g0 231 15).toInt + 4 = (8 * v6.toInt + 4) by omega]; exact (congrArg Int32.toInt (((eA_sA_ne hI15729.1 ka_237 (by first | decide | omega) (by first | decide | omega) (by first | decide | omega)).trans ((eA_sA_ne hI15726.1 ka_237 (by first | decide | omega) (by first | decide | omega) (by first | decide | omega)).trans (eA_sA_eq hI15690.1 ka_237 (by first | rfl | omega) (by first | decide | omega) (by first | decide | omega)))))).trans (by omega)) (by show (eA _ 237 (8 * (gI g0 231 15).toInt + 5)).toInt = (gI g15689 231 17).toInt; rw [show 8 * (gI g0 231 15).toInt + 5 = (8 * v6.toInt + 5) by omega]; exact (congrArg Int32.toInt (((eA_sA_ne hI15729.1 ka_237 (by first | decide | omega) (by first | decide | omega) (by first | decide | omega)).trans (eA_sA_eq hI15726.1 ka_237 (by first | rfl | omega) (by first | decide | omega) (by first | decide | omega))))).trans (by omega)), fun c0 h => by have hz : (gI _ 231 14).toInt = 0 := h14; have h1 := RGM_headH hI15674 h (TOK_at hI15674 (MUSTP.tok hK mu15422 (show (gI g0 231 14).toInt = 0 from by omega) (by omega)) (pI.c (((gI_sW).trans ((gI_sI_ne (by decide)).trans ((gI_sW).trans (q15663.1 231 9 (by decide)))))))) (by omega) (SMG_mk (((gA_sA_ne (by decide)).trans ((gA_sI).trans ((gA_sA_ne (by decide)).trans ((q15663.2.1 238 (by decide)).trans ((hF15390.2.1 238 (by decide)).trans (q15375.2.1 238 (by decide)))))))) (((gA_sA_ne (by decide)).trans ((gA_sI).trans ((gA_sA_ne (by decide)).trans ((q15663.2.1 239 (by decide)).trans ((hF15390.2.1 239 (by decide)).trans (q15375.2.1 239 (by decide)))))))) (((gI_sW).trans ((gI_sI_ne (by decide)).trans ((gI_sW).trans ((q15663.1 231 17 (by decide)).trans ((hF15390.1 231 17 (by decide)).trans (q15375.1 231 17 (by decide))))))))); have h2 := XPG_sum c15720.2.2 (show (gI g15689 231 14).toInt = 0 from by omega) (TM.c (((gA_sA_ne (by decide)).trans ((gA_sI).trans ((gA_sA_ne (by decide)).trans ((q15663.2.1 236 (by decide)).trans ((hF15390.2.1 236 (by decide)).trans (q15375.2.1 236 (by decide))))))))) (nM.c (((gI_sW).trans ((gI_sI_ne (by decide)).trans ((gI_sW).trans ((q15663.1 231 8 (by decide)).trans ((hF15390.1 231 8 (by decide)).trans (q15375.1 231 8 (by decide))))))))) h1; have h3 := RGM_noif h2 (TKM.someC hK15721 (((hF15691.2.1 236 (by decide)).trans ((gA_sA_ne (by decide)).trans ((gA_sI).trans ((gA_sA_ne (by decide)).trans ((q15663.2.1 236 (by decide)).trans ((hF15390.2.1 236 (by decide)).trans (q15375.2.1 236 (by decide))))))))) (((hF15691.1 231 8 (by decide)).trans ((gI_sW).trans ((gI_sI_ne (by decide)).trans ((gI_sW).trans ((q15663.1 231 8 (by decide)).trans ((hF15390.1 231 8 (by decide)).trans (q15375.1 231 8 (by decide)))))))))).choose_spec (by omega); have h7 := RGM_eqH hI15733 h3 (SMG_mk (((gA_sA_ne (by decide)).trans ((gA_sA_ne (by decide)).trans (gA_sA_ne (by decide))))) (((gA_sA_ne (by decide)).trans ((gA_sA_ne (by decide)).trans (gA_sA_ne (by decide))))) (((gI_sW).trans ((gI_sW).trans (gI_sW))))) (pI.c (((gI_sW).trans ((gI_sW).trans (gI_sW))))); rw [KLG_sH hI15733 (show 0 ≤ (gI g0 231 15).toInt from by omega) (show (gI _ 231 15).toInt = (gI g0 231 15).toInt + 1 from by omega) (fun i i0 i1 => ((eA_sA_ne (i := i) hI15729.1 ka_237 (by omega) (by omega) (by omega)).trans ((eA_sA_ne (i := i) hI15726.1 ka_237 (by omega) (by omega) (by omega)).trans ((eA_sA_ne (i := i) hI15690.1 ka_237 (by omega) (by omega) (by omega)).trans ((eA_c (hF15691.2.1 237 (by decide))).trans ((eA_sA_ne (i := i) hI15671.1 ka_237 (by omega) (by omega) (by omega)).trans ((eA_c gA_sI).trans ((eA_sA_ne (i := i) hI15653.1 ka_237 (by omega) (by omega) (by omega)).trans ((q15664 i i0 (by omega)).trans ((eA_c (hF15390.2.1 237 (by decide))).trans (eA_c (q15375.2.1 237 (by decide))))))))))))) (by show (eA _ 237 (8 * (gI g0 231 15).toInt)).toInt = CDM g0 - 11; rw [show 8 * (gI g0 231 15).toInt = (8 * v6.toInt) by omega]; exact (congrArg Int32.toInt (((eA_sA_ne hI15729.1 ka_237 (by first | decide | omega) (by first | decide | omega) (by first | decide | omega)).trans ((eA_sA_ne hI15726.1 ka_237 (by first | decide | omega) (by first | decide | omega) (by first | decide | omega)).trans ((eA_sA_ne hI15690.1 ka_237 (by first | decide | omega) (by first | decide | omega) (by first | decide | omega)).trans ((eA_c (hF15691.2.1 237 (by decide))).trans ((eA_sA_ne hI15671.1 ka_237 (by first | decide | omega) (by first | decide | omega) (by first | decide | omega)).trans ((eA_c gA_sI).trans (eA_sA_eq hI15653.1 ka_237 (by first | rfl | omega) (by first | decide | omega) (by first | decide | omega)))))))))).trans (by omega)) (by show (eA _ 237 (8 * (gI g0 231 15).toInt + 3)).toInt = (gI g0 231 17).toInt; rw [show 8 * (gI g0 231 15).toInt + 3 = (8 * v6.toInt + 3) by omega]; exact (congrArg Int32.toInt (((eA_sA_ne hI15729.1 ka_237 (by first | decide | omega) (by first | decide | omega) (by first | decide | omega)).trans ((eA_sA_ne hI15726.1 ka_237 (by first | decide | omega) (by first | decide | omega) (by first | decide | omega)).trans ((eA_sA_ne hI15690.1 ka_237 (by first | decide | omega) (by first | decide | omega) (by first | decide | omega)).trans ((eA_c (hF15691.2.1 237 (by decide))).trans (eA_sA_eq hI15671.1 ka_237 (by first | rfl | omega) (by first | decide | omega) (by first | decide | omega)))))))).trans (by omega)) (by show (eA _ 237 (8 * (gI g0 231 15).toInt + 4)).toInt = (gI g15689 231 17).toInt; rw [show 8 * (gI g0 231 15).toInt + 4 = (8 * v6.toInt + 4) by omega]; exact (congrArg Int32.toInt (((eA_sA_ne hI15729.1 ka_237 (by first | decide | omega) (by first | decide | omega) (by first | decide | omega)).trans ((eA_sA_ne hI15726.1 ka_237 (by first | decide | omega) (by first | decide | omega) (by first | decide | omega)).trans (eA_sA_eq hI15690.1 ka_237 (by first | rfl | omega) (by first | decide | omega) (by first | decide | omega)))))).trans (by omega)) (by show (eA _ 237 (8 * (gI g0 231 15).toInt + 6)).toInt = (gI g15689 231 17).toInt; rw [show 8 * (gI g0 231 15).toInt + 6 = (8 * v6.toInt + 6) by omega]; exact (congrArg Int32.toInt ((eA_sA_eq hI15729.1 ka_237 (by first | rfl | omega) (by first | decide | omega) (by first | decide | omega)))).trans (by omega))]; exact h7⟩)⟩⟩
            · have c15731_ : v15707.toInt = 0 := en_k_ne_f c15731
              refine At.enter rfl ?_
              refine r_aload_n e15658 ?_
              refine r_ldc2 294 rfl ?_
              have x15775 := HI.eqI hI15729 (p := 231) (b := 11) ((((gI_sW).trans (gI_sW)).trans hv15703))
              have zv15776 : (294 : Int64).toInt = 294 := rfl
              refine r_callV 173 rfl [.ref 231, .long 294] [] (Nat.le_of_ble_eq_true rfl) rfl (T_X11_isWord_231 _ hI15729 294 (by omega)) ?_
              rintro _ _ ⟨g15777, rfl, hI15778, hF15779, v15780, rfl, hr15781⟩
              refine At.sti ?_
              have hF15782 := Fr.tr hF15730 hF15779 rfl rfl
              have x15784 := HI.eqI hI15729 (p := 231) (b := 9) ((((gI_sW).trans (gI_sW)).trans hv15699))
              have x15785 := HI.eqI hI15729 (p := 231) (b := 10) ((((gI_sW).trans (gI_sW)).trans hv15701))
              have x15787 := HI.eqI hI15778 (p := 231) (b := 9) ((((hF15779.1 231 9 (by decide)).trans ((gI_sW).trans (gI_sW))).trans hv15699))
              have x15788 := HI.eqI hI15778 (p := 231) (b := 10) ((((hF15779.1 231 10 (by decide)).trans ((gI_sW).trans (gI_sW))).trans hv15701))
              have x15789 := HI.eqI hI15778 (p := 231) (b := 11) ((((hF15779.1 231 11 (by decide)).trans ((gI_sW).trans (gI_sW))).trans hv15703))
              obtain ⟨c15793, c15790, isw15791, ib15792⟩ := hr15781
              have w2615794 := W26.cong c15717 hI15729 (((gI_sW).trans (gI_sW))) (((gI_sW).trans (gI_sW))) (((gI_sW).trans (gI_sW))) (((gJ_sW).trans (gJ_sW)))
              have hb15795 : BL (CDM g15689 = 10) v15780.toInt := by have z := ISM.word (c := 10) ib15792 (TKM.c hK15721 (((gA_sA_ne (by decide)).trans (gA_sA_ne (by decide)))) (((gI_sW).trans (gI_sW))) (((gI_sW).trans (gI_sW))) (((gI_sW).trans (gI_sW))) (((gI_sW).trans (gI_sW))) (((gJ_sW).trans (gJ_sW)))) (isWC_d (by omega)) (by decide +kernel) (by decide); rw [CDM.c (((gA_sA_ne (by decide)).trans (gA_sA_ne (by decide)))) (((gI_sW).trans (gI_sW))) (((gI_sW).trans (gI_sW))) (((gI_sW).trans (gI_sW)))] at z; exact z
              refine At.enter rfl ?_
              refine r_ifs 176 rfl (fun c15796 => ?_) (fun c15796 => ?_)
              · have c15796_ : v15780.toInt = 0 := en_k_eq_t c15796
                have i15797 := BL.no hb15795 (by omega)
                refine At.enter rfl ?_
                refine r_aload_n e15658 ?_
                refine q_getR (Sh.ref hI15778.1 kx_231 rfl) ?_
                refine r_iload_n e15660 ?_
                refine r_bipush 6 rfl ?_
                refine q_iadd (v15430.toInt + 6) rfl (by omega) (fun v15798 hv15798 => ?_)
                refine r_aload_n e15658 ?_
                refine q_getI (Sh.int hI15778.1 kx_231 rfl) v15709 (((hF15779.1 231 17 (by decide)).trans ((gI_sW).trans (gI_sW))).trans hv15709) ?_
                refine q_iast (Sh.arr hI15778.1 ka_237) ((8 * v6.toInt + 6)) (by omega) (by omega) ?_
                have hI15799 := HI.wA0 hI15778 ka_237 (p := 237) rfl rfl ((8 * v6.toInt + 6)) (v15709)
                have hF15800 := Fr.wA (p := 237) (j := (8 * v6.toInt + 6)) (v := v15709) hF15782 rfl
                refine r_vret ?_
                have x15801 := HI.eqI hI15799 (p := 231) (b := 8) ((((gI_sW).trans ((hF15779.1 231 8 (by decide)).trans ((gI_sW).trans ((gI_sW).trans ((hF15691.1 231 8 (by decide)).trans ((gI_sW).trans ((gI_sI_ne (by decide)).trans ((gI_sW).trans ((q15663.1 231 8 (by decide)).trans ((hF15390.1 231 8 (by decide)).trans (q15375.1 231 8 (by decide)))))))))))).trans hv1))
                have x15802 := HI.eqI hI15799 (p := 231) (b := 9) ((((gI_sW).trans ((hF15779.1 231 9 (by decide)).trans ((gI_sW).trans (gI_sW)))).trans hv15699))
                have x15803 := HI.eqI hI15799 (p := 231) (b := 10) ((((gI_sW).trans ((hF15779.1 231 10 (by decide)).trans ((gI_sW).trans (gI_sW)))).trans hv15701))
                have x15804 := HI.eqI hI15799 (p := 231) (b := 11) ((((gI_sW).trans ((hF15779.1 231 11 (by decide)).trans ((gI_sW).trans (gI_sW)))).trans hv15703))
                have x15805 := HI.eqI hI15799 (p := 231) (b := 14) ((((gI_sW).trans ((hF15779.1 231 14 (by decide)).trans ((gI_sW).trans (gI_sW)))).trans hv15707))
                have x15806 := HI.eqI hI15799 (p := 231) (b := 15) (((gI_sW).trans ((hF15779.1 231 15 (by decide)).trans ((gI_sW).trans ((gI_sW).trans ((hF15691.1 231 15 (by decide)).trans ((gI_sW).trans (gI_sI_eq hI15668.1 kx_231 rfl _))))))))
                have x15807 := HI.eqI hI15799 (p := 231) (b := 17) ((((gI_sW).trans ((hF15779.1 231 17 (by decide)).trans ((gI_sW).trans (gI_sW)))).trans hv15709))
                have x15808 := HI.eqI hI0 (p := 231) (b := 8) (hv1)
                have x15809 := HI.eqI hI0 (p := 231) (b := 9) (hv2)
                have x15810 := HI.eqI hI0 (p := 231) (b := 10) (hv3)
                have x15811 := HI.eqI hI0 (p := 231) (b := 11) (hv4)
                have x15812 := HI.eqI hI0 (p := 231) (b := 14) (hv5)
                have x15813 := HI.eqI hI0 (p := 231) (b := 15) (hv6)
                have x15814 := HI.eqI hI0 (p := 231) (b := 17) (hv7)
                have w2615815 := W26.cong c15717 hI15799 (((gI_sW).trans ((hF15779.1 231 9 (by decide)).trans ((gI_sW).trans (gI_sW))))) (((gI_sW).trans ((hF15779.1 231 10 (by decide)).trans ((gI_sW).trans (gI_sW))))) (((gI_sW).trans ((hF15779.1 231 11 (by decide)).trans ((gI_sW).trans (gI_sW))))) (((gJ_sW).trans ((hF15779.2.2 231 12 (by decide)).trans ((gJ_sW).trans (gJ_sW)))))
                have x15817 := HI.eqI hI15799 (p := 231) (b := 13) ((((gI_sW).trans ((hF15779.1 231 13 (by decide)).trans ((gI_sW).trans (gI_sW)))).trans hv15722))
                obtain ⟨v15820, hv15820⟩ : ∃ v, gI g15689 231 20 = v := ⟨_, rfl⟩
                have tv15820 := congrArg Int32.toInt hv15820
                have x15821 := HI.eqI hI15799 (p := 231) (b := 20) ((((gI_sW).trans ((hF15779.1 231 20 (by decide)).trans ((gI_sW).trans (gI_sW)))).trans hv15820))
                have x15823 := HI.eqI hI0 (p := 231) (b := 13) (hv15417)
                obtain ⟨v15826, hv15826⟩ : ∃ v, gI g0 231 20 = v := ⟨_, rfl⟩
                have tv15826 := congrArg Int32.toInt hv15826
                have x15827 := HI.eqI hI0 (p := 231) (b := 20) (hv15826)
                have hh := q15376
                unfold HEI at hh
                have x15828 := HI.eqI hI15674 (p := 231) (b := 13) ((((gI_sW).trans ((gI_sI_ne (by decide)).trans ((gI_sW).trans (q15663.1 231 13 (by decide))))).trans hv15420))
                have x15829 := HI.eqI hI15674 (p := 231) (b := 15) (((gI_sW).trans (gI_sI_eq hI15668.1 kx_231 rfl _)))
                have x15830 := HI.eqI hI15674 (p := 231) (b := 20) ((((gI_sW).trans ((gI_sI_ne (by decide)).trans ((gI_sW).trans ((q15663.1 231 20 (by decide)).trans ((hF15390.1 231 20 (by decide)).trans (q15375.1 231 20 (by decide))))))).trans hv15826))
                have y15835 : (gI g15388 231 13).toInt = (gI g0 231 13).toInt := (mu15422.2.1 (show (gI g0 231 14).toInt = 0 from by omega) (by omega)).2.1
                exact ⟨_, rfl, hI15799, hF15800, rfl, ⟨by omega, by omega, by omega, by omega, w2615815, by omega, (fun hbad => by have t0 := (c15719 (by omega)).1; have x0 := (c15719 (by omega)).2; have u0 : (gI _ 231 17).toInt ≤ (gI _ 231 17).toInt := x0.1; exact ⟨by omega, CLS.step (K := (gI g0 231 15).toInt) (n1 := (gI g0 231 17).toInt) (n2 := v15709.toInt) hC ⟨by omega, by omega⟩ ⟨by omega, by omega, by omega⟩ (fun i i0 i1 => ((eA_sA_ne (i := i) hI15778.1 ka_237 (by omega) (by omega) (by omega)).trans ((eA_c (hF15779.2.1 237 (by decide))).trans ((eA_sA_ne (i := i) hI15726.1 ka_237 (by omega) (by omega) (by omega)).trans ((eA_sA_ne (i := i) hI15690.1 ka_237 (by omega) (by omega) (by omega)).trans ((eA_c (hF15691.2.1 237 (by decide))).trans ((eA_sA_ne (i := i) hI15671.1 ka_237 (by omega) (by omega) (by omega)).trans ((eA_c gA_sI).trans ((eA_sA_ne (i := i) hI15653.1 ka_237 (by omega) (by omega) (by omega)).trans ((q15664 i i0 (by omega)).trans ((eA_c (hF15390.2.1 237 (by decide))).trans (eA_c (q15375.2.1 237 (by decide)))))))))))))) (by show (eA _ 237 (8 * (gI g0 231 15).toInt + 3)).toInt = (gI g0 231 17).toInt; rw [show 8 * (gI g0 231 15).toInt + 3 = (8 * v6.toInt + 3) by omega]; exact (congrArg Int32.toInt (((eA_sA_ne hI15778.1 ka_237 (by first | decide | omega) (by first | decide | omega) (by first | decide | omega)).trans ((eA_c (hF15779.2.1 237 (by decide))).trans ((eA_sA_ne hI15726.1 ka_237 (by first | decide | omega) (by first | decide | omega) (by first | decide | omega)).trans ((eA_sA_ne hI15690.1 ka_237 (by first | decide | omega) (by first | decide | omega) (by first | decide | omega)).trans ((eA_c (hF15691.2.1 237 (by decide))).trans (eA_sA_eq hI15671.1 ka_237 (by first | rfl | omega) (by first | decide | omega) (by first | decide | omega))))))))).trans (by omega)) (by show (eA _ 237 (8 * (gI g0 231 15).toInt + 4)).toInt = v15709.toInt; rw [show 8 * (gI g0 231 15).toInt + 4 = (8 * v6.toInt + 4) by omega]; exact (congrArg Int32.toInt (((eA_sA_ne hI15778.1 ka_237 (by first | decide | omega) (by first | decide | omega) (by first | decide | omega)).trans ((eA_c (hF15779.2.1 237 (by decide))).trans ((eA_sA_ne hI15726.1 ka_237 (by first | decide | omega) (by first | decide | omega) (by first | decide | omega)).trans (eA_sA_eq hI15690.1 ka_237 (by first | rfl | omega) (by first | decide | omega) (by first | decide | omega))))))).trans (by omega)) (by show (eA _ 237 (8 * (gI g0 231 15).toInt + 5)).toInt = v15709.toInt; rw [show 8 * (gI g0 231 15).toInt + 5 = (8 * v6.toInt + 5) by omega]; exact (congrArg Int32.toInt (((eA_sA_ne hI15778.1 ka_237 (by first | decide | omega) (by first | decide | omega) (by first | decide | omega)).trans ((eA_c (hF15779.2.1 237 (by decide))).trans (eA_sA_eq hI15726.1 ka_237 (by first | rfl | omega) (by first | decide | omega) (by first | decide | omega)))))).trans (by omega)) (by show (eA _ 237 (8 * (gI g0 231 15).toInt + 6)).toInt = (gI _ 231 17).toInt; rw [show 8 * (gI g0 231 15).toInt + 6 = (8 * v6.toInt + 6) by omega]; exact (congrArg Int32.toInt ((eA_sA_eq hI15778.1 ka_237 (by first | rfl | omega) (by first | decide | omega) (by first | decide | omega)))).trans (by omega)) (show SAME g0 _ (gI g0 231 17).toInt from (SAME.tr (SAME.tr (SAME.c hI15674 (((gA_sA_ne (by decide)).trans ((gA_sI).trans ((gA_sA_ne (by decide)).trans ((q15663.2.1 238 (by decide)).trans ((hF15390.2.1 238 (by decide)).trans (q15375.2.1 238 (by decide)))))))) (((gA_sA_ne (by decide)).trans ((gA_sI).trans ((gA_sA_ne (by decide)).trans ((q15663.2.1 239 (by decide)).trans ((hF15390.2.1 239 (by decide)).trans (q15375.2.1 239 (by decide))))))))) (EXPR.same x0) (by show _ ≤ (gI _ 231 17).toInt; omega)) (SAME.c hI15799 (((gA_sA_ne (by decide)).trans ((hF15779.2.1 238 (by decide)).trans ((gA_sA_ne (by decide)).trans (gA_sA_ne (by decide)))))) (((gA_sA_ne (by decide)).trans ((hF15779.2.1 239 (by decide)).trans ((gA_sA_ne (by decide)).trans (gA_sA_ne (by decide))))))) (Int.le_refl _))) (EXPR.code x0 (show SAME g15689 _ (gI g15689 231 17).toInt from (SAME.c hI15799 (((gA_sA_ne (by decide)).trans ((hF15779.2.1 238 (by decide)).trans ((gA_sA_ne (by decide)).trans (gA_sA_ne (by decide)))))) (((gA_sA_ne (by decide)).trans ((hF15779.2.1 239 (by decide)).trans ((gA_sA_ne (by decide)).trans (gA_sA_ne (by decide)))))))) (by show _ = (gI _ 231 17).toInt; omega) (by show _ = (gI _ 231 17).toInt; omega) (by show 0 ≤ (gI _ 231 17).toInt; omega)) (WfCode.nil' (by omega) (by omega) (by omega))⟩), (TKM.c hK15721 (((gA_sA_ne (by decide)).trans ((hF15779.2.1 236 (by decide)).trans ((gA_sA_ne (by decide)).trans (gA_sA_ne (by decide)))))) (((gI_sW).trans ((hF15779.1 231 8 (by decide)).trans ((gI_sW).trans (gI_sW))))) (((gI_sW).trans ((hF15779.1 231 9 (by decide)).trans ((gI_sW).trans (gI_sW))))) (((gI_sW).trans ((hF15779.1 231 10 (by decide)).trans ((gI_sW).trans (gI_sW))))) (((gI_sW).trans ((hF15779.1 231 11 (by decide)).trans ((gI_sW).trans (gI_sW))))) (((gJ_sW).trans ((hF15779.2.2 231 12 (by decide)).trans ((gJ_sW).trans (gJ_sW)))))), (fun c0 h => by have h1 := CLM.headH hI15674 h (show (gI g0 231 14).toInt = 0 from by omega) (by rw [(pI.ci hI15674 (((gI_sW).trans ((gI_sI_ne (by decide)).trans ((gI_sW).trans (q15663.1 231 9 (by decide)))))))]; exact (MUSTP.tok hK mu15422 (show (gI g0 231 14).toInt = 0 from by omega) (by omega))) (by omega) (show (gI g0 231 15).toInt < 12 from by omega) (pI.ci hI15674 (((gI_sW).trans ((gI_sI_ne (by decide)).trans ((gI_sW).trans ((q15663.1 231 20 (by decide)).trans ((hF15390.1 231 20 (by decide)).trans (q15375.1 231 20 (by decide))))))))) (show (gI _ 231 15).toInt = (gI g0 231 15).toInt + 1 from by omega) (show (gI _ 231 13).toInt = (gI g0 231 13).toInt from by omega); have h2 := CLM.sum (c15720.2.1 3 (Or.inl ⟨rfl, rfl⟩)) (TM.c (((gA_sA_ne (by decide)).trans ((gA_sI).trans ((gA_sA_ne (by decide)).trans ((q15663.2.1 236 (by decide)).trans ((hF15390.2.1 236 (by decide)).trans (q15375.2.1 236 (by decide))))))))) (nM.c (((gI_sW).trans ((gI_sI_ne (by decide)).trans ((gI_sW).trans ((q15663.1 231 8 (by decide)).trans ((hF15390.1 231 8 (by decide)).trans (q15375.1 231 8 (by decide))))))))) h1; have h3 := CLM.noif h2 (TKM.someC hK15721 (((hF15691.2.1 236 (by decide)).trans ((gA_sA_ne (by decide)).trans ((gA_sI).trans ((gA_sA_ne (by decide)).trans ((q15663.2.1 236 (by decide)).trans ((hF15390.2.1 236 (by decide)).trans (q15375.2.1 236 (by decide))))))))) (((hF15691.1 231 8 (by decide)).trans ((gI_sW).trans ((gI_sI_ne (by decide)).trans ((gI_sW).trans ((q15663.1 231 8 (by decide)).trans ((hF15390.1 231 8 (by decide)).trans (q15375.1 231 8 (by decide)))))))))).choose_spec (fun z => by have z2 : (gI g15689 231 14).toInt = 0 := z; omega); exact CLM.eqv h3 (pI.ci hI15799 (((gI_sW).trans ((hF15779.1 231 9 (by decide)).trans ((gI_sW).trans (gI_sW)))))) (pI.ci hI15799 (((gI_sW).trans ((hF15779.1 231 13 (by decide)).trans ((gI_sW).trans (gI_sW)))))) (pI.ci hI15799 (((gI_sW).trans ((hF15779.1 231 14 (by decide)).trans ((gI_sW).trans (gI_sW)))))) (pI.ci hI15799 (((gI_sW).trans ((hF15779.1 231 15 (by decide)).trans ((gI_sW).trans (gI_sW)))))) (pI.ci hI15799 (((gI_sW).trans ((hF15779.1 231 20 (by decide)).trans ((gI_sW).trans (gI_sW))))))), (fun h14 => ⟨fun n45 => N45_sH n45 (show (gI _ 231 15).toInt = (gI g0 231 15).toInt + 1 from by omega) (fun i i0 i1 => ((eA_sA_ne (i := i) hI15778.1 ka_237 (by omega) (by omega) (by omega)).trans ((eA_c (hF15779.2.1 237 (by decide))).trans ((eA_sA_ne (i := i) hI15726.1 ka_237 (by omega) (by omega) (by omega)).trans ((eA_sA_ne (i := i) hI15690.1 ka_237 (by omega) (by omega) (by omega)).trans ((eA_c (hF15691.2.1 237 (by decide))).trans ((eA_sA_ne (i := i) hI15671.1 ka_237 (by omega) (by omega) (by omega)).trans ((eA_c gA_sI).trans ((eA_sA_ne (i := i) hI15653.1 ka_237 (by omega) (by omega) (by omega)).trans ((q15664 i i0 (by omega)).trans ((eA_c (hF15390.2.1 237 (by decide))).trans (eA_c (q15375.2.1 237 (by decide)))))))))))))) (by show (eA _ 237 (8 * (gI g0 231 15).toInt + 4)).toInt = (gI g15689 231 17).toInt; rw [show 8 * (gI g0 231 15).toInt + 4 = (8 * v6.toInt + 4) by omega]; exact (congrArg Int32.toInt (((eA_sA_ne hI15778.1 ka_237 (by first | decide | omega) (by first | decide | omega) (by first | decide | omega)).trans ((eA_c (hF15779.2.1 237 (by decide))).trans ((eA_sA_ne hI15726.1 ka_237 (by first | decide | omega) (by first | decide | omega) (by first | decide | omega)).trans (eA_sA_eq hI15690.1 ka_237 (by first | rfl | omega) (by first | decide | omega) (by first | decide | omega))))))).trans (by omega)) (by show (eA _ 237 (8 * (gI g0 231 15).toInt + 5)).toInt = (gI g15689 231 17).toInt; rw [show 8 * (gI g0 231 15).toInt + 5 = (8 * v6.toInt + 5) by omega]; exact (congrArg Int32.toInt (((eA_sA_ne hI15778.1 ka_237 (by first | decide | omega) (by first | decide | omega) (by first | decide | omega)).trans ((eA_c (hF15779.2.1 237 (by decide))).trans (eA_sA_eq hI15726.1 ka_237 (by first | rfl | omega) (by first | decide | omega) (by first | decide | omega)))))).trans (by omega)), fun c0 h => by have hz : (gI _ 231 14).toInt = 0 := h14; have h1 := RGM_headH hI15674 h (TOK_at hI15674 (MUSTP.tok hK mu15422 (show (gI g0 231 14).toInt = 0 from by omega) (by omega)) (pI.c (((gI_sW).trans ((gI_sI_ne (by decide)).trans ((gI_sW).trans (q15663.1 231 9 (by decide)))))))) (by omega) (SMG_mk (((gA_sA_ne (by decide)).trans ((gA_sI).trans ((gA_sA_ne (by decide)).trans ((q15663.2.1 238 (by decide)).trans ((hF15390.2.1 238 (by decide)).trans (q15375.2.1 238 (by decide)))))))) (((gA_sA_ne (by decide)).trans ((gA_sI).trans ((gA_sA_ne (by decide)).trans ((q15663.2.1 239 (by decide)).trans ((hF15390.2.1 239 (by decide)).trans (q15375.2.1 239 (by decide)))))))) (((gI_sW).trans ((gI_sI_ne (by decide)).trans ((gI_sW).trans ((q15663.1 231 17 (by decide)).trans ((hF15390.1 231 17 (by decide)).trans (q15375.1 231 17 (by decide))))))))); have h2 := XPG_sum c15720.2.2 (show (gI g15689 231 14).toInt = 0 from by omega) (TM.c (((gA_sA_ne (by decide)).trans ((gA_sI).trans ((gA_sA_ne (by decide)).trans ((q15663.2.1 236 (by decide)).trans ((hF15390.2.1 236 (by decide)).trans (q15375.2.1 236 (by decide))))))))) (nM.c (((gI_sW).trans ((gI_sI_ne (by decide)).trans ((gI_sW).trans ((q15663.1 231 8 (by decide)).trans ((hF15390.1 231 8 (by decide)).trans (q15375.1 231 8 (by decide))))))))) h1; have h3 := RGM_noif h2 (TKM.someC hK15721 (((hF15691.2.1 236 (by decide)).trans ((gA_sA_ne (by decide)).trans ((gA_sI).trans ((gA_sA_ne (by decide)).trans ((q15663.2.1 236 (by decide)).trans ((hF15390.2.1 236 (by decide)).trans (q15375.2.1 236 (by decide))))))))) (((hF15691.1 231 8 (by decide)).trans ((gI_sW).trans ((gI_sI_ne (by decide)).trans ((gI_sW).trans ((q15663.1 231 8 (by decide)).trans ((hF15390.1 231 8 (by decide)).trans (q15375.1 231 8 (by decide)))))))))).choose_spec (by omega); have h7 := RGM_eqH hI15799 h3 (SMG_mk (((gA_sA_ne (by decide)).trans ((hF15779.2.1 238 (by decide)).trans ((gA_sA_ne (by decide)).trans (gA_sA_ne (by decide)))))) (((gA_sA_ne (by decide)).trans ((hF15779.2.1 239 (by decide)).trans ((gA_sA_ne (by decide)).trans (gA_sA_ne (by decide)))))) (((gI_sW).trans ((hF15779.1 231 17 (by decide)).trans ((gI_sW).trans (gI_sW)))))) (pI.c (((gI_sW).trans ((hF15779.1 231 9 (by decide)).trans ((gI_sW).trans (gI_sW)))))); rw [KLG_sH hI15799 (show 0 ≤ (gI g0 231 15).toInt from by omega) (show (gI _ 231 15).toInt = (gI g0 231 15).toInt + 1 from by omega) (fun i i0 i1 => ((eA_sA_ne (i := i) hI15778.1 ka_237 (by omega) (by omega) (by omega)).trans ((eA_c (hF15779.2.1 237 (by decide))).trans ((eA_sA_ne (i := i) hI15726.1 ka_237 (by omega) (by omega) (by omega)).trans ((eA_sA_ne (i := i) hI15690.1 ka_237 (by omega) (by omega) (by omega)).trans ((eA_c (hF15691.2.1 237 (by decide))).trans ((eA_sA_ne (i := i) hI15671.1 ka_237 (by omega) (by omega) (by omega)).trans ((eA_c gA_sI).trans ((eA_sA_ne (i := i) hI15653.1 ka_237 (by omega) (by omega) (by omega)).trans ((q15664 i i0 (by omega)).trans ((eA_c (hF15390.2.1 237 (by decide))).trans (eA_c (q15375.2.1 237 (by decide)))))))))))))) (by show (eA _ 237 (8 * (gI g0 231 15).toInt)).toInt = CDM g0 - 11; rw [show 8 * (gI g0 231 15).toInt = (8 * v6.toInt) by omega]; exact (congrArg Int32.toInt (((eA_sA_ne hI15778.1 ka_237 (by first | decide | omega) (by first | decide | omega) (by first | decide | omega)).trans ((eA_c (hF15779.2.1 237 (by decide))).trans ((eA_sA_ne hI15726.1 ka_237 (by first | decide | omega) (by first | decide | omega) (by first | decide | omega)).trans ((eA_sA_ne hI15690.1 ka_237 (by first | decide | omega) (by first | decide | omega) (by first | decide | omega)).trans ((eA_c (hF15691.2.1 237 (by decide))).trans ((eA_sA_ne hI15671.1 ka_237 (by first | decide | omega) (by first | decide | omega) (by first | decide | omega)).trans ((eA_c gA_sI).trans (eA_sA_eq hI15653.1 ka_237 (by first | rfl | omega) (by first | decide | omega) (by first | decide | omega))))))))))).trans (by omega)) (by show (eA _ 237 (8 * (gI g0 231 15).toInt + 3)).toInt = (gI g0 231 17).toInt; rw [show 8 * (gI g0 231 15).toInt + 3 = (8 * v6.toInt + 3) by omega]; exact (congrArg Int32.toInt (((eA_sA_ne hI15778.1 ka_237 (by first | decide | omega) (by first | decide | omega) (by first | decide | omega)).trans ((eA_c (hF15779.2.1 237 (by decide))).trans ((eA_sA_ne hI15726.1 ka_237 (by first | decide | omega) (by first | decide | omega) (by first | decide | omega)).trans ((eA_sA_ne hI15690.1 ka_237 (by first | decide | omega) (by first | decide | omega) (by first | decide | omega)).trans ((eA_c (hF15691.2.1 237 (by decide))).trans (eA_sA_eq hI15671.1 ka_237 (by first | rfl | omega) (by first | decide | omega) (by first | decide | omega))))))))).trans (by omega)) (by show (eA _ 237 (8 * (gI g0 231 15).toInt + 4)).toInt = (gI g15689 231 17).toInt; rw [show 8 * (gI g0 231 15).toInt + 4 = (8 * v6.toInt + 4) by omega]; exact (congrArg Int32.toInt (((eA_sA_ne hI15778.1 ka_237 (by first | decide | omega) (by first | decide | omega) (by first | decide | omega)).trans ((eA_c (hF15779.2.1 237 (by decide))).trans ((eA_sA_ne hI15726.1 ka_237 (by first | decide | omega) (by first | decide | omega) (by first | decide | omega)).trans (eA_sA_eq hI15690.1 ka_237 (by first | rfl | omega) (by first | decide | omega) (by first | decide | omega))))))).trans (by omega)) (by show (eA _ 237 (8 * (gI g0 231 15).toInt + 6)).toInt = (gI g15689 231 17).toInt; rw [show 8 * (gI g0 231 15).toInt + 6 = (8 * v6.toInt + 6) by omega]; exact (congrArg Int32.toInt ((eA_sA_eq hI15778.1 ka_237 (by first | rfl | omega) (by first | decide | omega) (by first | decide | omega)))).trans (by omega))]; exact h7⟩)⟩⟩
              · have c15796_ : v15780.toInt ≠ 0 := en_k_eq_f c15796
                have i15841 := W26.two w2615794 isw15791 (by omega) (by decide)
                have i15842 := BL.yes hb15795 (by omega)
                refine At.enter rfl ?_
                refine r_aload_n e15658 ?_
                have x15843 := HI.eqI hI15778 (p := 231) (b := 8) ((((hF15779.1 231 8 (by decide)).trans ((gI_sW).trans ((gI_sW).trans ((hF15691.1 231 8 (by decide)).trans ((gI_sW).trans ((gI_sI_ne (by decide)).trans ((gI_sW).trans ((q15663.1 231 8 (by decide)).trans ((hF15390.1 231 8 (by decide)).trans (q15375.1 231 8 (by decide))))))))))).trans hv1))
                refine r_callV 180 rfl [.ref 231] [] (Nat.le_of_ble_eq_true rfl) rfl (T_X11_next_231 _ hI15778 (by omega)) ?_
                rintro _ _ ⟨g15845, rfl, hI15846, hF15847, rfl, hr15849⟩
                refine At.stn ?_
                have hF15850 := Fr.tr hF15782 hF15847 rfl rfl
                have x15853 := HI.eqI hI15846 (p := 231) (b := 8) ((((hF15847.1 231 8 (by decide)).trans ((hF15779.1 231 8 (by decide)).trans ((gI_sW).trans ((gI_sW).trans ((hF15691.1 231 8 (by decide)).trans ((gI_sW).trans ((gI_sI_ne (by decide)).trans ((gI_sW).trans ((q15663.1 231 8 (by decide)).trans ((hF15390.1 231 8 (by decide)).trans (q15375.1 231 8 (by decide)))))))))))).trans hv1))
                obtain ⟨v15854, hv15854⟩ : ∃ v, gI g15845 231 9 = v := ⟨_, rfl⟩
                have rv15854 := RgF.at hI15846.2.1 (p := 231) (b := 9) rfl
                rw [hv15854] at rv15854
                dsimp only at rv15854
                have tv15854 := congrArg Int32.toInt hv15854
                have x15855 := HI.eqI hI15846 (p := 231) (b := 9) (hv15854)
                obtain ⟨v15856, hv15856⟩ : ∃ v, gI g15845 231 10 = v := ⟨_, rfl⟩
                have rv15856 := RgF.at hI15846.2.1 (p := 231) (b := 10) rfl
                rw [hv15856] at rv15856
                dsimp only at rv15856
                have tv15856 := congrArg Int32.toInt hv15856
                have x15857 := HI.eqI hI15846 (p := 231) (b := 10) (hv15856)
                obtain ⟨v15858, hv15858⟩ : ∃ v, gI g15845 231 11 = v := ⟨_, rfl⟩
                have tv15858 := congrArg Int32.toInt hv15858
                have x15859 := HI.eqI hI15846 (p := 231) (b := 11) (hv15858)
                obtain ⟨c15860, c15861, c15862, c15863, c15864, c15865, c15866⟩ := hr15849
                have tok15867_ := c15866.2
                rw [TM.c (((hF15779.2.1 236 (by decide)).trans ((gA_sA_ne (by decide)).trans (gA_sA_ne (by decide))))), nM.c (((hF15779.1 231 8 (by decide)).trans ((gI_sW).trans (gI_sW)))), pI.c (b := 10) (((hF15779.1 231 10 (by decide)).trans ((gI_sW).trans (gI_sW))))] at tok15867_
                have tok15867 := TKM.tok hK15721 tok15867_
                rw [TM.c (((hF15691.2.1 236 (by decide)).trans ((gA_sA_ne (by decide)).trans ((gA_sI).trans ((gA_sA_ne (by decide)).trans ((q15663.2.1 236 (by decide)).trans ((hF15390.2.1 236 (by decide)).trans (q15375.2.1 236 (by decide))))))))), nM.c (((hF15691.1 231 8 (by decide)).trans ((gI_sW).trans ((gI_sI_ne (by decide)).trans ((gI_sW).trans ((q15663.1 231 8 (by decide)).trans ((hF15390.1 231 8 (by decide)).trans (q15375.1 231 8 (by decide)))))))))] at tok15867
                have hK15868 := c15866.1
                refine At.enter rfl ?_
                refine r_aload_n e15658 ?_
                refine r_iconst 1 rfl ?_
                obtain ⟨v15873, hv15873⟩ : ∃ v, gJ g15845 231 12 = v := ⟨_, rfl⟩
                have x15874 := HI.eqJ hI15846 (b := 12) (hv15873)
                have x15875 := HI.eqI hI15846 (p := 231) (b := 14) ((((hF15847.1 231 14 (by decide)).trans ((hF15779.1 231 14 (by decide)).trans ((gI_sW).trans (gI_sW)))).trans hv15707))
                have x15876 := HI.eqI hI15846 (p := 231) (b := 17) ((((hF15847.1 231 17 (by decide)).trans ((hF15779.1 231 17 (by decide)).trans ((gI_sW).trans (gI_sW)))).trans hv15709))
                have x15877 := HI.eqI hI15846 (p := 231) (b := 23) ((((hF15847.1 231 23 (by decide)).trans ((hF15779.1 231 23 (by decide)).trans ((gI_sW).trans (gI_sW)))).trans hv15711))
                have y15878 := (c15719 (by omega)).1
                have zv15879 : (1 : Int32).toInt = 1 := rfl
                refine r_callV 185 rfl [.ref 231, .int 1] [] (Nat.le_of_ble_eq_true rfl) rfl (T_X11_readExpression_231 _ hI15846 1 (by decide) (by refine ⟨?_, ?_, ?_, ?_⟩ <;> omega) (by omega) (by omega) c15865 hK15868) ?_
                rintro _ _ ⟨g15880, rfl, hI15881, hF15882, rfl, hr15884⟩
                refine At.stn ?_
                have hF15885 := Fr.tr hF15850 hF15882 rfl rfl
                have x15889 := HI.eqI hI15881 (p := 231) (b := 8) ((((hF15882.1 231 8 (by decide)).trans ((hF15847.1 231 8 (by decide)).trans ((hF15779.1 231 8 (by decide)).trans ((gI_sW).trans ((gI_sW).trans ((hF15691.1 231 8 (by decide)).trans ((gI_sW).trans ((gI_sI_ne (by decide)).trans ((gI_sW).trans ((q15663.1 231 8 (by decide)).trans ((hF15390.1 231 8 (by decide)).trans (q15375.1 231 8 (by decide))))))))))))).trans hv1))
                obtain ⟨v15890, hv15890⟩ : ∃ v, gI g15880 231 9 = v := ⟨_, rfl⟩
                have rv15890 := RgF.at hI15881.2.1 (p := 231) (b := 9) rfl
                rw [hv15890] at rv15890
                dsimp only at rv15890
                have tv15890 := congrArg Int32.toInt hv15890
                have x15891 := HI.eqI hI15881 (p := 231) (b := 9) (hv15890)
                obtain ⟨v15892, hv15892⟩ : ∃ v, gI g15880 231 10 = v := ⟨_, rfl⟩
                have rv15892 := RgF.at hI15881.2.1 (p := 231) (b := 10) rfl
                rw [hv15892] at rv15892
                dsimp only at rv15892
                have tv15892 := congrArg Int32.toInt hv15892
                have x15893 := HI.eqI hI15881 (p := 231) (b := 10) (hv15892)
                obtain ⟨v15894, hv15894⟩ : ∃ v, gI g15880 231 11 = v := ⟨_, rfl⟩
                have tv15894 := congrArg Int32.toInt hv15894
                have x15895 := HI.eqI hI15881 (p := 231) (b := 11) (hv15894)
                obtain ⟨v15896, hv15896⟩ : ∃ v, gJ g15880 231 12 = v := ⟨_, rfl⟩
                have x15897 := HI.eqJ hI15881 (b := 12) (hv15896)
                obtain ⟨v15898, hv15898⟩ : ∃ v, gI g15880 231 14 = v := ⟨_, rfl⟩
                have tv15898 := congrArg Int32.toInt hv15898
                have x15899 := HI.eqI hI15881 (p := 231) (b := 14) (hv15898)
                obtain ⟨v15900, hv15900⟩ : ∃ v, gI g15880 231 17 = v := ⟨_, rfl⟩
                have rv15900 := RgF.at hI15881.2.1 (p := 231) (b := 17) rfl
                rw [hv15900] at rv15900
                dsimp only at rv15900
                have tv15900 := congrArg Int32.toInt hv15900
                have x15901 := HI.eqI hI15881 (p := 231) (b := 17) (hv15900)
                obtain ⟨v15902, hv15902⟩ : ∃ v, gI g15880 231 23 = v := ⟨_, rfl⟩
                have rv15902 := RgF.at hI15881.2.1 (p := 231) (b := 23) rfl
                rw [hv15902] at rv15902
                dsimp only at rv15902
                have tv15902 := congrArg Int32.toInt hv15902
                have x15903 := HI.eqI hI15881 (p := 231) (b := 23) (hv15902)
                obtain ⟨c15904, c15905, c15906, c15907, c15908, c15909, c15910, c15911⟩ := hr15884
                have hK15912 := c15911.1
                obtain ⟨v15913, hv15913⟩ : ∃ v, gI g15880 231 13 = v := ⟨_, rfl⟩
                have tv15913 := congrArg Int32.toInt hv15913
                have x15914 := HI.eqI hI15881 (p := 231) (b := 13) (hv15913)
                refine At.enter rfl ?_
                refine r_aload_n e15658 ?_
                refine q_getR (Sh.ref hI15881.1 kx_231 rfl) ?_
                refine r_iload_n e15660 ?_
                refine r_bipush 6 rfl ?_
                refine q_iadd (v15430.toInt + 6) rfl (by omega) (fun v15916 hv15916 => ?_)
                refine r_aload_n e15658 ?_
                refine q_getI (Sh.int hI15881.1 kx_231 rfl) v15900 hv15900 ?_
                refine q_iast (Sh.arr hI15881.1 ka_237) ((8 * v6.toInt + 6)) (by omega) (by omega) ?_
                have hI15917 := HI.wA0 hI15881 ka_237 (p := 237) rfl rfl ((8 * v6.toInt + 6)) (v15900)
                have hF15918 := Fr.wA (p := 237) (j := (8 * v6.toInt + 6)) (v := v15900) hF15885 rfl
                refine r_vret ?_
                have x15919 := HI.eqI hI15917 (p := 231) (b := 8) ((((gI_sW).trans ((hF15882.1 231 8 (by decide)).trans ((hF15847.1 231 8 (by decide)).trans ((hF15779.1 231 8 (by decide)).trans ((gI_sW).trans ((gI_sW).trans ((hF15691.1 231 8 (by decide)).trans ((gI_sW).trans ((gI_sI_ne (by decide)).trans ((gI_sW).trans ((q15663.1 231 8 (by decide)).trans ((hF15390.1 231 8 (by decide)).trans (q15375.1 231 8 (by decide)))))))))))))).trans hv1))
                have x15920 := HI.eqI hI15917 (p := 231) (b := 9) (((gI_sW).trans hv15890))
                have x15921 := HI.eqI hI15917 (p := 231) (b := 10) (((gI_sW).trans hv15892))
                have x15922 := HI.eqI hI15917 (p := 231) (b := 11) (((gI_sW).trans hv15894))
                have x15923 := HI.eqI hI15917 (p := 231) (b := 14) (((gI_sW).trans hv15898))
                have x15924 := HI.eqI hI15917 (p := 231) (b := 15) (((gI_sW).trans ((hF15882.1 231 15 (by decide)).trans ((hF15847.1 231 15 (by decide)).trans ((hF15779.1 231 15 (by decide)).trans ((gI_sW).trans ((gI_sW).trans ((hF15691.1 231 15 (by decide)).trans ((gI_sW).trans (gI_sI_eq hI15668.1 kx_231 rfl _))))))))))
                have x15925 := HI.eqI hI15917 (p := 231) (b := 17) (((gI_sW).trans hv15900))
                have x15926 := HI.eqI hI0 (p := 231) (b := 8) (hv1)
                have x15927 := HI.eqI hI0 (p := 231) (b := 9) (hv2)
                have x15928 := HI.eqI hI0 (p := 231) (b := 10) (hv3)
                have x15929 := HI.eqI hI0 (p := 231) (b := 11) (hv4)
                have x15930 := HI.eqI hI0 (p := 231) (b := 14) (hv5)
                have x15931 := HI.eqI hI0 (p := 231) (b := 15) (hv6)
                have x15932 := HI.eqI hI0 (p := 231) (b := 17) (hv7)
                have w2615933 := W26.cong c15908 hI15917 ((gI_sW)) ((gI_sW)) ((gI_sW)) ((gJ_sW))
                have x15935 := HI.eqI hI15917 (p := 231) (b := 13) (((gI_sW).trans hv15913))
                obtain ⟨v15938, hv15938⟩ : ∃ v, gI g15880 231 20 = v := ⟨_, rfl⟩
                have tv15938 := congrArg Int32.toInt hv15938
                have x15939 := HI.eqI hI15917 (p := 231) (b := 20) (((gI_sW).trans hv15938))
                have x15941 := HI.eqI hI0 (p := 231) (b := 13) (hv15417)
                obtain ⟨v15944, hv15944⟩ : ∃ v, gI g0 231 20 = v := ⟨_, rfl⟩
                have tv15944 := congrArg Int32.toInt hv15944
                have x15945 := HI.eqI hI0 (p := 231) (b := 20) (hv15944)
                have hh := q15376
                unfold HEI at hh
                have x15946 := HI.eqI hI15674 (p := 231) (b := 13) ((((gI_sW).trans ((gI_sI_ne (by decide)).trans ((gI_sW).trans (q15663.1 231 13 (by decide))))).trans hv15420))
                have x15947 := HI.eqI hI15674 (p := 231) (b := 15) (((gI_sW).trans (gI_sI_eq hI15668.1 kx_231 rfl _)))
                have x15948 := HI.eqI hI15674 (p := 231) (b := 20) ((((gI_sW).trans ((gI_sI_ne (by decide)).trans ((gI_sW).trans ((q15663.1 231 20 (by decide)).trans ((hF15390.1 231 20 (by decide)).trans (q15375.1 231 20 (by decide))))))).trans hv15944))
                have y15953 : (gI g15388 231 13).toInt = (gI g0 231 13).toInt := (mu15422.2.1 (show (gI g0 231 14).toInt = 0 from by omega) (by omega)).2.1
                have x15955 := HI.eqI hI15778 (p := 231) (b := 14) ((((hF15779.1 231 14 (by decide)).trans ((gI_sW).trans (gI_sW))).trans hv15707))
                exact ⟨_, rfl, hI15917, hF15918, rfl, ⟨by omega, by omega, by omega, by omega, w2615933, by omega, (fun hbad => by have t0 := (c15719 (by omega)).1; have x0 := (c15719 (by omega)).2; have u0 : (gI _ 231 17).toInt ≤ (gI _ 231 17).toInt := x0.1; have t1 := (c15910 (by omega)).1; have x1 := (c15910 (by omega)).2; have u1 : (gI _ 231 17).toInt ≤ (gI _ 231 17).toInt := x1.1; exact ⟨by omega, CLS.step (K := (gI g0 231 15).toInt) (n1 := (gI g0 231 17).toInt) (n2 := v15709.toInt) hC ⟨by omega, by omega⟩ ⟨by omega, by omega, by omega⟩ (fun i i0 i1 => ((eA_sA_ne (i := i) hI15881.1 ka_237 (by omega) (by omega) (by omega)).trans ((eA_c (hF15882.2.1 237 (by decide))).trans ((eA_c (hF15847.2.1 237 (by decide))).trans ((eA_c (hF15779.2.1 237 (by decide))).trans ((eA_sA_ne (i := i) hI15726.1 ka_237 (by omega) (by omega) (by omega)).trans ((eA_sA_ne (i := i) hI15690.1 ka_237 (by omega) (by omega) (by omega)).trans ((eA_c (hF15691.2.1 237 (by decide))).trans ((eA_sA_ne (i := i) hI15671.1 ka_237 (by omega) (by omega) (by omega)).trans ((eA_c gA_sI).trans ((eA_sA_ne (i := i) hI15653.1 ka_237 (by omega) (by omega) (by omega)).trans ((q15664 i i0 (by omega)).trans ((eA_c (hF15390.2.1 237 (by decide))).trans (eA_c (q15375.2.1 237 (by decide)))))))))))))))) (by show (eA _ 237 (8 * (gI g0 231 15).toInt + 3)).toInt = (gI g0 231 17).toInt; rw [show 8 * (gI g0 231 15).toInt + 3 = (8 * v6.toInt + 3) by omega]; exact (congrArg Int32.toInt (((eA_sA_ne hI15881.1 ka_237 (by first | decide | omega) (by first | decide | omega) (by first | decide | omega)).trans ((eA_c (hF15882.2.1 237 (by decide))).trans ((eA_c (hF15847.2.1 237 (by decide))).trans ((eA_c (hF15779.2.1 237 (by decide))).trans ((eA_sA_ne hI15726.1 ka_237 (by first | decide | omega) (by first | decide | omega) (by first | decide | omega)).trans ((eA_sA_ne hI15690.1 ka_237 (by first | decide | omega) (by first | decide | omega) (by first | decide | omega)).trans ((eA_c (hF15691.2.1 237 (by decide))).trans (eA_sA_eq hI15671.1 ka_237 (by first | rfl | omega) (by first | decide | omega) (by first | decide | omega))))))))))).trans (by omega)) (by show (eA _ 237 (8 * (gI g0 231 15).toInt + 4)).toInt = v15709.toInt; rw [show 8 * (gI g0 231 15).toInt + 4 = (8 * v6.toInt + 4) by omega]; exact (congrArg Int32.toInt (((eA_sA_ne hI15881.1 ka_237 (by first | decide | omega) (by first | decide | omega) (by first | decide | omega)).trans ((eA_c (hF15882.2.1 237 (by decide))).trans ((eA_c (hF15847.2.1 237 (by decide))).trans ((eA_c (hF15779.2.1 237 (by decide))).trans ((eA_sA_ne hI15726.1 ka_237 (by first | decide | omega) (by first | decide | omega) (by first | decide | omega)).trans (eA_sA_eq hI15690.1 ka_237 (by first | rfl | omega) (by first | decide | omega) (by first | decide | omega))))))))).trans (by omega)) (by show (eA _ 237 (8 * (gI g0 231 15).toInt + 5)).toInt = v15709.toInt; rw [show 8 * (gI g0 231 15).toInt + 5 = (8 * v6.toInt + 5) by omega]; exact (congrArg Int32.toInt (((eA_sA_ne hI15881.1 ka_237 (by first | decide | omega) (by first | decide | omega) (by first | decide | omega)).trans ((eA_c (hF15882.2.1 237 (by decide))).trans ((eA_c (hF15847.2.1 237 (by decide))).trans ((eA_c (hF15779.2.1 237 (by decide))).trans (eA_sA_eq hI15726.1 ka_237 (by first | rfl | omega) (by first | decide | omega) (by first | decide | omega)))))))).trans (by omega)) (by show (eA _ 237 (8 * (gI g0 231 15).toInt + 6)).toInt = (gI _ 231 17).toInt; rw [show 8 * (gI g0 231 15).toInt + 6 = (8 * v6.toInt + 6) by omega]; exact (congrArg Int32.toInt ((eA_sA_eq hI15881.1 ka_237 (by first | rfl | omega) (by first | decide | omega) (by first | decide | omega)))).trans (by omega)) (show SAME g0 _ (gI g0 231 17).toInt from (SAME.tr (SAME.tr (SAME.tr (SAME.tr (SAME.c hI15674 (((gA_sA_ne (by decide)).trans ((gA_sI).trans ((gA_sA_ne (by decide)).trans ((q15663.2.1 238 (by decide)).trans ((hF15390.2.1 238 (by decide)).trans (q15375.2.1 238 (by decide)))))))) (((gA_sA_ne (by decide)).trans ((gA_sI).trans ((gA_sA_ne (by decide)).trans ((q15663.2.1 239 (by decide)).trans ((hF15390.2.1 239 (by decide)).trans (q15375.2.1 239 (by decide))))))))) (EXPR.same x0) (by show _ ≤ (gI _ 231 17).toInt; omega)) (SAME.c hI15846 (((hF15847.2.1 238 (by decide)).trans ((hF15779.2.1 238 (by decide)).trans ((gA_sA_ne (by decide)).trans (gA_sA_ne (by decide)))))) (((hF15847.2.1 239 (by decide)).trans ((hF15779.2.1 239 (by decide)).trans ((gA_sA_ne (by decide)).trans (gA_sA_ne (by decide))))))) (by omega)) (EXPR.same x1) (by show _ ≤ (gI _ 231 17).toInt; omega)) (SAME.c hI15917 ((gA_sA_ne (by decide))) ((gA_sA_ne (by decide)))) (Int.le_refl _))) (EXPR.code x0 (show SAME g15689 _ (gI g15689 231 17).toInt from (SAME.tr (SAME.tr (SAME.c hI15846 (((hF15847.2.1 238 (by decide)).trans ((hF15779.2.1 238 (by decide)).trans ((gA_sA_ne (by decide)).trans (gA_sA_ne (by decide)))))) (((hF15847.2.1 239 (by decide)).trans ((hF15779.2.1 239 (by decide)).trans ((gA_sA_ne (by decide)).trans (gA_sA_ne (by decide))))))) (EXPR.same x1) (by show _ ≤ (gI _ 231 17).toInt; omega)) (SAME.c hI15917 ((gA_sA_ne (by decide))) ((gA_sA_ne (by decide)))) (Int.le_refl _))) (by show _ = (gI _ 231 17).toInt; omega) (by show _ = (gI _ 231 17).toInt; omega) (by show 0 ≤ (gI _ 231 17).toInt; omega)) (EXPR.code x1 (show SAME g15880 _ (gI g15880 231 17).toInt from (SAME.c hI15917 ((gA_sA_ne (by decide))) ((gA_sA_ne (by decide))))) (by show _ = (gI _ 231 17).toInt; omega) (by show _ = (gI _ 231 17).toInt; omega) (by show 0 ≤ (gI _ 231 17).toInt; omega))⟩), (TKM.c hK15912 ((gA_sA_ne (by decide))) ((gI_sW)) ((gI_sW)) ((gI_sW)) ((gI_sW)) ((gJ_sW))), (fun c0 h => by have h1 := CLM.headH hI15674 h (show (gI g0 231 14).toInt = 0 from by omega) (by rw [(pI.ci hI15674 (((gI_sW).trans ((gI_sI_ne (by decide)).trans ((gI_sW).trans (q15663.1 231 9 (by decide)))))))]; exact (MUSTP.tok hK mu15422 (show (gI g0 231 14).toInt = 0 from by omega) (by omega))) (by omega) (show (gI g0 231 15).toInt < 12 from by omega) (pI.ci hI15674 (((gI_sW).trans ((gI_sI_ne (by decide)).trans ((gI_sW).trans ((q15663.1 231 20 (by decide)).trans ((hF15390.1 231 20 (by decide)).trans (q15375.1 231 20 (by decide))))))))) (show (gI _ 231 15).toInt = (gI g0 231 15).toInt + 1 from by omega) (show (gI _ 231 13).toInt = (gI g0 231 13).toInt from by omega); have h2 := CLM.sum (c15720.2.1 3 (Or.inl ⟨rfl, rfl⟩)) (TM.c (((gA_sA_ne (by decide)).trans ((gA_sI).trans ((gA_sA_ne (by decide)).trans ((q15663.2.1 236 (by decide)).trans ((hF15390.2.1 236 (by decide)).trans (q15375.2.1 236 (by decide))))))))) (nM.c (((gI_sW).trans ((gI_sI_ne (by decide)).trans ((gI_sW).trans ((q15663.1 231 8 (by decide)).trans ((hF15390.1 231 8 (by decide)).trans (q15375.1 231 8 (by decide))))))))) h1; have h3 := CLM.eqvH hI15778 h2 (pI.ci hI15778 (((hF15779.1 231 9 (by decide)).trans ((gI_sW).trans (gI_sW))))) (pI.ci hI15778 (((hF15779.1 231 13 (by decide)).trans ((gI_sW).trans (gI_sW))))) (pI.ci hI15778 (((hF15779.1 231 14 (by decide)).trans ((gI_sW).trans (gI_sW))))) (pI.ci hI15778 (((hF15779.1 231 15 (by decide)).trans ((gI_sW).trans (gI_sW))))) (pI.ci hI15778 (((hF15779.1 231 20 (by decide)).trans ((gI_sW).trans (gI_sW))))); have h4 := CLM.ifs (g' := g15845) h3 (show (gI _ 231 14).toInt = 0 from by omega) (by rw [(pI.ci hI15778 (((hF15779.1 231 9 (by decide)).trans ((gI_sW).trans (gI_sW)))))]; exact tok15867) (by omega) (pI.c (hF15847.1 231 20 (by decide))) (pI.c (hF15847.1 231 15 (by decide))) (pI.c (hF15847.1 231 13 (by decide))); have h5 := CLM.test (c15911.2.1 4 (Or.inr ⟨rfl, by decide⟩)) (TM.c (((hF15847.2.1 236 (by decide)).trans ((hF15779.2.1 236 (by decide)).trans ((gA_sA_ne (by decide)).trans ((gA_sA_ne (by decide)).trans ((hF15691.2.1 236 (by decide)).trans ((gA_sA_ne (by decide)).trans ((gA_sI).trans ((gA_sA_ne (by decide)).trans ((q15663.2.1 236 (by decide)).trans ((hF15390.2.1 236 (by decide)).trans (q15375.2.1 236 (by decide)))))))))))))) (nM.c (((hF15847.1 231 8 (by decide)).trans ((hF15779.1 231 8 (by decide)).trans ((gI_sW).trans ((gI_sW).trans ((hF15691.1 231 8 (by decide)).trans ((gI_sW).trans ((gI_sI_ne (by decide)).trans ((gI_sW).trans ((q15663.1 231 8 (by decide)).trans ((hF15390.1 231 8 (by decide)).trans (q15375.1 231 8 (by decide)))))))))))))) h4; exact CLM.eqv h5 (pI.ci hI15917 ((gI_sW))) (pI.ci hI15917 ((gI_sW))) (pI.ci hI15917 ((gI_sW))) (pI.ci hI15917 ((gI_sW))) (pI.ci hI15917 ((gI_sW)))), (fun h14 => ⟨fun n45 => N45_sH n45 (show (gI _ 231 15).toInt = (gI g0 231 15).toInt + 1 from by omega) (fun i i0 i1 => ((eA_sA_ne (i := i) hI15881.1 ka_237 (by omega) (by omega) (by omega)).trans ((eA_c (hF15882.2.1 237 (by decide))).trans ((eA_c (hF15847.2.1 237 (by decide))).trans ((eA_c (hF15779.2.1 237 (by decide))).trans ((eA_sA_ne (i := i) hI15726.1 ka_237 (by omega) (by omega) (by omega)).trans ((eA_sA_ne (i := i) hI15690.1 ka_237 (by omega) (by omega) (by omega)).trans ((eA_c (hF15691.2.1 237 (by decide))).trans ((eA_sA_ne (i := i) hI15671.1 ka_237 (by omega) (by omega) (by omega)).trans ((eA_c gA_sI).trans ((eA_sA_ne (i := i) hI15653.1 ka_237 (by omega) (by omega) (by omega)).trans ((q15664 i i0 (by omega)).trans ((eA_c (hF15390.2.1 237 (by decide))).trans (eA_c (q15375.2.1 237 (by decide)))))))))))))))) (by show (eA _ 237 (8 * (gI g0 231 15).toInt + 4)).toInt = (gI g15689 231 17).toInt; rw [show 8 * (gI g0 231 15).toInt + 4 = (8 * v6.toInt + 4) by omega]; exact (congrArg Int32.toInt (((eA_sA_ne hI15881.1 ka_237 (by first | decide | omega) (by first | decide | omega) (by first | decide | omega)).trans ((eA_c (hF15882.2.1 237 (by decide))).trans ((eA_c (hF15847.2.1 237 (by decide))).trans ((eA_c (hF15779.2.1 237 (by decide))).trans ((eA_sA_ne hI15726.1 ka_237 (by first | decide | omega) (by first | decide | omega) (by first | decide | omega)).trans (eA_sA_eq hI15690.1 ka_237 (by first | rfl | omega) (by first | decide | omega) (by first | decide | omega))))))))).trans (by omega)) (by show (eA _ 237 (8 * (gI g0 231 15).toInt + 5)).toInt = (gI g15689 231 17).toInt; rw [show 8 * (gI g0 231 15).toInt + 5 = (8 * v6.toInt + 5) by omega]; exact (congrArg Int32.toInt (((eA_sA_ne hI15881.1 ka_237 (by first | decide | omega) (by first | decide | omega) (by first | decide | omega)).trans ((eA_c (hF15882.2.1 237 (by decide))).trans ((eA_c (hF15847.2.1 237 (by decide))).trans ((eA_c (hF15779.2.1 237 (by decide))).trans (eA_sA_eq hI15726.1 ka_237 (by first | rfl | omega) (by first | decide | omega) (by first | decide | omega)))))))).trans (by omega)), fun c0 h => by have hz : (gI _ 231 14).toInt = 0 := h14; have h1 := RGM_headH hI15674 h (TOK_at hI15674 (MUSTP.tok hK mu15422 (show (gI g0 231 14).toInt = 0 from by omega) (by omega)) (pI.c (((gI_sW).trans ((gI_sI_ne (by decide)).trans ((gI_sW).trans (q15663.1 231 9 (by decide)))))))) (by omega) (SMG_mk (((gA_sA_ne (by decide)).trans ((gA_sI).trans ((gA_sA_ne (by decide)).trans ((q15663.2.1 238 (by decide)).trans ((hF15390.2.1 238 (by decide)).trans (q15375.2.1 238 (by decide)))))))) (((gA_sA_ne (by decide)).trans ((gA_sI).trans ((gA_sA_ne (by decide)).trans ((q15663.2.1 239 (by decide)).trans ((hF15390.2.1 239 (by decide)).trans (q15375.2.1 239 (by decide)))))))) (((gI_sW).trans ((gI_sI_ne (by decide)).trans ((gI_sW).trans ((q15663.1 231 17 (by decide)).trans ((hF15390.1 231 17 (by decide)).trans (q15375.1 231 17 (by decide))))))))); have h2 := XPG_sum c15720.2.2 (show (gI g15689 231 14).toInt = 0 from by omega) (TM.c (((gA_sA_ne (by decide)).trans ((gA_sI).trans ((gA_sA_ne (by decide)).trans ((q15663.2.1 236 (by decide)).trans ((hF15390.2.1 236 (by decide)).trans (q15375.2.1 236 (by decide))))))))) (nM.c (((gI_sW).trans ((gI_sI_ne (by decide)).trans ((gI_sW).trans ((q15663.1 231 8 (by decide)).trans ((hF15390.1 231 8 (by decide)).trans (q15375.1 231 8 (by decide))))))))) h1; have h3 := RGM_eqH hI15778 h2 (SMG_mk (((hF15779.2.1 238 (by decide)).trans ((gA_sA_ne (by decide)).trans (gA_sA_ne (by decide))))) (((hF15779.2.1 239 (by decide)).trans ((gA_sA_ne (by decide)).trans (gA_sA_ne (by decide))))) (((hF15779.1 231 17 (by decide)).trans ((gI_sW).trans (gI_sW))))) (pI.c (((hF15779.1 231 9 (by decide)).trans ((gI_sW).trans (gI_sW))))); have h4 := RGM_if (g' := g15845) h3 (TOK_fr hI15778 tok15867 (pI.c (((hF15779.1 231 9 (by decide)).trans ((gI_sW).trans (gI_sW)))))) (by omega) (SMG_mk (hF15847.2.1 238 (by decide)) (hF15847.2.1 239 (by decide)) (hF15847.1 231 17 (by decide))); have h5 := RGM_eqH hI15846 h4 SMG_rf rfl; have h6 := XPG_test c15911.2.2 rfl (show (gI g15880 231 14).toInt = 0 from by omega) (TM.c (((hF15847.2.1 236 (by decide)).trans ((hF15779.2.1 236 (by decide)).trans ((gA_sA_ne (by decide)).trans ((gA_sA_ne (by decide)).trans ((hF15691.2.1 236 (by decide)).trans ((gA_sA_ne (by decide)).trans ((gA_sI).trans ((gA_sA_ne (by decide)).trans ((q15663.2.1 236 (by decide)).trans ((hF15390.2.1 236 (by decide)).trans (q15375.2.1 236 (by decide)))))))))))))) (nM.c (((hF15847.1 231 8 (by decide)).trans ((hF15779.1 231 8 (by decide)).trans ((gI_sW).trans ((gI_sW).trans ((hF15691.1 231 8 (by decide)).trans ((gI_sW).trans ((gI_sI_ne (by decide)).trans ((gI_sW).trans ((q15663.1 231 8 (by decide)).trans ((hF15390.1 231 8 (by decide)).trans (q15375.1 231 8 (by decide)))))))))))))) h5; have h7 := RGM_eqH hI15917 h6 (SMG_mk ((gA_sA_ne (by decide))) ((gA_sA_ne (by decide))) ((gI_sW))) (pI.c ((gI_sW))); rw [KLG_sH hI15917 (show 0 ≤ (gI g0 231 15).toInt from by omega) (show (gI _ 231 15).toInt = (gI g0 231 15).toInt + 1 from by omega) (fun i i0 i1 => ((eA_sA_ne (i := i) hI15881.1 ka_237 (by omega) (by omega) (by omega)).trans ((eA_c (hF15882.2.1 237 (by decide))).trans ((eA_c (hF15847.2.1 237 (by decide))).trans ((eA_c (hF15779.2.1 237 (by decide))).trans ((eA_sA_ne (i := i) hI15726.1 ka_237 (by omega) (by omega) (by omega)).trans ((eA_sA_ne (i := i) hI15690.1 ka_237 (by omega) (by omega) (by omega)).trans ((eA_c (hF15691.2.1 237 (by decide))).trans ((eA_sA_ne (i := i) hI15671.1 ka_237 (by omega) (by omega) (by omega)).trans ((eA_c gA_sI).trans ((eA_sA_ne (i := i) hI15653.1 ka_237 (by omega) (by omega) (by omega)).trans ((q15664 i i0 (by omega)).trans ((eA_c (hF15390.2.1 237 (by decide))).trans (eA_c (q15375.2.1 237 (by decide)))))))))))))))) (by show (eA _ 237 (8 * (gI g0 231 15).toInt)).toInt = CDM g0 - 11; rw [show 8 * (gI g0 231 15).toInt = (8 * v6.toInt) by omega]; exact (congrArg Int32.toInt (((eA_sA_ne hI15881.1 ka_237 (by first | decide | omega) (by first | decide | omega) (by first | decide | omega)).trans ((eA_c (hF15882.2.1 237 (by decide))).trans ((eA_c (hF15847.2.1 237 (by decide))).trans ((eA_c (hF15779.2.1 237 (by decide))).trans ((eA_sA_ne hI15726.1 ka_237 (by first | decide | omega) (by first | decide | omega) (by first | decide | omega)).trans ((eA_sA_ne hI15690.1 ka_237 (by first | decide | omega) (by first | decide | omega) (by first | decide | omega)).trans ((eA_c (hF15691.2.1 237 (by decide))).trans ((eA_sA_ne hI15671.1 ka_237 (by first | decide | omega) (by first | decide | omega) (by first | decide | omega)).trans ((eA_c gA_sI).trans (eA_sA_eq hI15653.1 ka_237 (by first | rfl | omega) (by first | decide | omega) (by first | decide | omega))))))))))))).trans (by omega)) (by show (eA _ 237 (8 * (gI g0 231 15).toInt + 3)).toInt = (gI g0 231 17).toInt; rw [show 8 * (gI g0 231 15).toInt + 3 = (8 * v6.toInt + 3) by omega]; exact (congrArg Int32.toInt (((eA_sA_ne hI15881.1 ka_237 (by first | decide | omega) (by first | decide | omega) (by first | decide | omega)).trans ((eA_c (hF15882.2.1 237 (by decide))).trans ((eA_c (hF15847.2.1 237 (by decide))).trans ((eA_c (hF15779.2.1 237 (by decide))).trans ((eA_sA_ne hI15726.1 ka_237 (by first | decide | omega) (by first | decide | omega) (by first | decide | omega)).trans ((eA_sA_ne hI15690.1 ka_237 (by first | decide | omega) (by first | decide | omega) (by first | decide | omega)).trans ((eA_c (hF15691.2.1 237 (by decide))).trans (eA_sA_eq hI15671.1 ka_237 (by first | rfl | omega) (by first | decide | omega) (by first | decide | omega))))))))))).trans (by omega)) (by show (eA _ 237 (8 * (gI g0 231 15).toInt + 4)).toInt = (gI g15689 231 17).toInt; rw [show 8 * (gI g0 231 15).toInt + 4 = (8 * v6.toInt + 4) by omega]; exact (congrArg Int32.toInt (((eA_sA_ne hI15881.1 ka_237 (by first | decide | omega) (by first | decide | omega) (by first | decide | omega)).trans ((eA_c (hF15882.2.1 237 (by decide))).trans ((eA_c (hF15847.2.1 237 (by decide))).trans ((eA_c (hF15779.2.1 237 (by decide))).trans ((eA_sA_ne hI15726.1 ka_237 (by first | decide | omega) (by first | decide | omega) (by first | decide | omega)).trans (eA_sA_eq hI15690.1 ka_237 (by first | rfl | omega) (by first | decide | omega) (by first | decide | omega))))))))).trans (by omega)) (by show (eA _ 237 (8 * (gI g0 231 15).toInt + 6)).toInt = (gI g15880 231 17).toInt; rw [show 8 * (gI g0 231 15).toInt + 6 = (8 * v6.toInt + 6) by omega]; exact (congrArg Int32.toInt ((eA_sA_eq hI15881.1 ka_237 (by first | rfl | omega) (by first | decide | omega) (by first | decide | omega)))).trans (by omega))]; exact h7⟩)⟩⟩
        · have c15667_ : x15651.toInt < 8 := en_i_ge_f c15667
          refine At.enter rfl ?_
          refine r_aload_n e15658 ?_
          refine q_getR (Sh.ref hI15653.1 kx_231 rfl) ?_
          refine r_iload_n e15660 ?_
          refine r_iload_n e15661 ?_
          refine q_iadd (v15430.toInt + x15651.toInt) rfl (by omega) (fun v15962 hv15962 => ?_)
          refine r_iconst 0 rfl ?_
          refine q_iast (Sh.arr hI15653.1 ka_237) ((8 * v6.toInt + x15651.toInt)) (by omega) (by omega) ?_
          have hI15963 := HI.wA0 hI15653 ka_237 (p := 237) rfl rfl ((8 * v6.toInt + x15651.toInt)) (0)
          have hF15964 := Fr.wA (p := 237) (j := (8 * v6.toInt + x15651.toInt)) (v := 0) hF15654 rfl
          refine q_iinc e15661 (x15651.toInt + 1) rfl (by omega) (fun v15965 hv15965 => ?_)
          refine r_goto ?_
          exact ih15657 (8 - v15965.toInt) _ _ ⟨v15965, by first | rfl | omega, hI15963, hF15964, (w_p1 (by decide) (Or.inr rfl) e15658), (w_p1 (by decide) (Or.inr rfl) e15659), (w_p1 (by decide) (Or.inr rfl) e15660), (w_e1 _ _ _), by omega, (Fr.wA (p := 237) q15663 rfl), (fun i i0 i1 => (eA_sA_ne (i := i) hI15653.1 ka_237 (by omega) (by omega) (by omega)).trans (q15664 i i0 i1))⟩ ⟨by omega, by omega⟩
      · have c15424_ : v15407.toInt ≠ 0 := en_k_eq_f c15424
        clear c15415
        have i15966 := MUSTP.w mu15422 (by omega)
        refine At.enter rfl ?_
        refine r_vret ?_
        have x15972 := HI.eqI hI15389 (p := 231) (b := 15) ((((hF15390.1 231 15 (by decide)).trans (q15375.1 231 15 (by decide))).trans hv6))
        have x15973 := HI.eqI hI15389 (p := 231) (b := 17) ((((hF15390.1 231 17 (by decide)).trans (q15375.1 231 17 (by decide))).trans hv7))
        have x15974 := HI.eqI hI0 (p := 231) (b := 8) (hv1)
        have x15975 := HI.eqI hI0 (p := 231) (b := 9) (hv2)
        have x15976 := HI.eqI hI0 (p := 231) (b := 10) (hv3)
        have x15977 := HI.eqI hI0 (p := 231) (b := 11) (hv4)
        have x15978 := HI.eqI hI0 (p := 231) (b := 14) (hv5)
        have x15979 := HI.eqI hI0 (p := 231) (b := 15) (hv6)
        have x15980 := HI.eqI hI0 (p := 231) (b := 17) (hv7)
        obtain ⟨v15985, hv15985⟩ : ∃ v, gI g0 231 20 = v := ⟨_, rfl⟩
        have tv15985 := congrArg Int32.toInt hv15985
        have x15986 := HI.eqI hI15389 (p := 231) (b := 20) ((((hF15390.1 231 20 (by decide)).trans (q15375.1 231 20 (by decide))).trans hv15985))
        have x15988 := HI.eqI hI0 (p := 231) (b := 13) (hv15417)
        have x15991 := HI.eqI hI0 (p := 231) (b := 20) (hv15985)
        have hh := q15376
        unfold HEI at hh
        have mf15992 := mu15422.2.2.1 (show (gI g0 231 14).toInt = 0 from by omega) (by omega)
        have y15993 : (gI _ 231 14).toInt ≠ 0 := mf15992.1
        have y15994 : (gI _ 231 13).toInt = (gI g0 231 9).toInt := mf15992.2
        exact ⟨_, rfl, hI15389, hF15393, rfl, ⟨by omega, by omega, by omega, by omega, c15414, by omega, (fun hbad => False.elim (by omega)), hK15423, (fun c0 h => CLM.headF h (show (gI g0 231 14).toInt = 0 from by omega) (TKM.some hK).choose_spec (fun z => by have z1 := z.1; have z2 : (gI g0 231 15).toInt < 12 := z.2; omega) (show (gI _ 231 14).toInt ≠ 0 from by omega) (show (gI _ 231 13).toInt = (gI g0 231 9).toInt from by omega) _), (fun h14 => absurd (show (gI _ 231 14).toInt = 0 from h14) (by omega))⟩⟩
    · have c15381_ : x15362.toInt ≠ (-1) := en_i_eq_f c15381
      refine At.enter rfl ?_
      refine r_aload_n e15370 ?_
      refine q_getI (Sh.int hI15365.1 kx_231 rfl) v6 ((q15375.1 231 15 (by decide)).trans hv6) ?_
      refine r_bipush 12 rfl ?_
      refine r_ics 49 rfl (fun c15995 => ?_) (fun c15995 => ?_)
      · have c15995_ : v6.toInt ≥ 12 := en_i_ge_t c15995
        refine At.enter rfl ?_
        refine r_iconst 0 rfl ?_
        refine Ar.fall 54 rfl ?_
        refine At.enter rfl ?_
        have x15996 := HI.eqI hI15365 (p := 231) (b := 8) (((q15375.1 231 8 (by decide)).trans hv1))
        have x15997 := HI.eqI hI15365 (p := 231) (b := 9) (((q15375.1 231 9 (by decide)).trans hv2))
        have x15998 := HI.eqI hI15365 (p := 231) (b := 10) (((q15375.1 231 10 (by decide)).trans hv3))
        have x15999 := HI.eqI hI15365 (p := 231) (b := 11) (((q15375.1 231 11 (by decide)).trans hv4))
        have w2616000 := W26.cong hW hI15365 ((q15375.1 231 9 (by decide))) ((q15375.1 231 10 (by decide))) ((q15375.1 231 11 (by decide))) ((q15375.2.2 231 12 (by decide)))
        refine r_callV 57 rfl [.ref 231, .int 0] [] (Nat.le_of_ble_eq_true rfl) rfl (T_X11_must_231 _ hI15365 0 (by decide) (by refine ⟨?_, ?_, ?_, ?_⟩ <;> omega) w2616000 (TKM.c hK ((q15375.2.1 236 (by decide))) ((q15375.1 231 8 (by decide))) ((q15375.1 231 9 (by decide))) ((q15375.1 231 10 (by decide))) ((q15375.1 231 11 (by decide))) ((q15375.2.2 231 12 (by decide))))) ?_
        rintro _ _ ⟨g16002, rfl, hI16003, hF16004, rfl, hr16006⟩
        refine At.stn ?_
        have hF16007 := Fr.tr hF15366 hF16004 rfl rfl
        have x16013 := HI.eqI hI15365 (p := 231) (b := 14) (((q15375.1 231 14 (by decide)).trans hv5))
        have x16014 := HI.eqI hI16003 (p := 231) (b := 8) ((((hF16004.1 231 8 (by decide)).trans (q15375.1 231 8 (by decide))).trans hv1))
        obtain ⟨v16015, hv16015⟩ : ∃ v, gI g16002 231 9 = v := ⟨_, rfl⟩
        have rv16015 := RgF.at hI16003.2.1 (p := 231) (b := 9) rfl
        rw [hv16015] at rv16015
        dsimp only at rv16015
        have tv16015 := congrArg Int32.toInt hv16015
        have x16016 := HI.eqI hI16003 (p := 231) (b := 9) (hv16015)
        obtain ⟨v16017, hv16017⟩ : ∃ v, gI g16002 231 10 = v := ⟨_, rfl⟩
        have rv16017 := RgF.at hI16003.2.1 (p := 231) (b := 10) rfl
        rw [hv16017] at rv16017
        dsimp only at rv16017
        have tv16017 := congrArg Int32.toInt hv16017
        have x16018 := HI.eqI hI16003 (p := 231) (b := 10) (hv16017)
        obtain ⟨v16019, hv16019⟩ : ∃ v, gI g16002 231 11 = v := ⟨_, rfl⟩
        have tv16019 := congrArg Int32.toInt hv16019
        have x16020 := HI.eqI hI16003 (p := 231) (b := 11) (hv16019)
        obtain ⟨v16021, hv16021⟩ : ∃ v, gI g16002 231 14 = v := ⟨_, rfl⟩
        have tv16021 := congrArg Int32.toInt hv16021
        have x16022 := HI.eqI hI16003 (p := 231) (b := 14) (hv16021)
        obtain ⟨c16023, c16024, c16025, c16026, c16027, c16028, c16029, c16030⟩ := hr16006
        obtain ⟨v16031, hv16031⟩ : ∃ v, gI g0 231 13 = v := ⟨_, rfl⟩
        have tv16031 := congrArg Int32.toInt hv16031
        have x16032 := HI.eqI hI15365 (p := 231) (b := 13) (((q15375.1 231 13 (by decide)).trans hv16031))
        obtain ⟨v16034, hv16034⟩ : ∃ v, gI g16002 231 13 = v := ⟨_, rfl⟩
        have tv16034 := congrArg Int32.toInt hv16034
        have x16035 := HI.eqI hI16003 (p := 231) (b := 13) (hv16034)
        unfold MUSTP at c16030
        rw [TM.c ((q15375.2.1 236 (by decide))), nM.c ((q15375.1 231 8 (by decide))), pI.c (b := 14) ((q15375.1 231 14 (by decide))), pI.c (b := 13) ((q15375.1 231 13 (by decide))), pI.c (b := 10) ((q15375.1 231 10 (by decide))), pI.c (b := 9) ((q15375.1 231 9 (by decide)))] at c16030
        have mu16036 : MUSTP g0 g16002 0 := c16030
        clear c16030
        have hK16037 := mu16036.1
        refine At.enter rfl ?_
        refine r_aload_n e15370 ?_
        refine q_getI (Sh.int hI16003.1 kx_231 rfl) v16021 hv16021 ?_
        refine r_ifs 64 rfl (fun c16038 => ?_) (fun c16038 => ?_)
        · have c16038_ : v16021.toInt = 0 := en_k_eq_t c16038
          obtain ⟨i16039, i16040, i16041⟩ := c16029 (by omega)
          obtain ⟨i16042, i16043⟩ := MUSTP.z mu16036 (by omega) (by omega)
          refine At.enter rfl ?_
          refine r_bipush 8 rfl ?_
          refine r_aload_n e15370 ?_
          refine q_getI (Sh.int hI16003.1 kx_231 rfl) v6 (((hF16004.1 231 15 (by decide)).trans (q15375.1 231 15 (by decide))).trans hv6) ?_
          refine q_imul (8 * v6.toInt) rfl (by omega) (fun v16044 hv16044 => ?_)
          refine r_istore_n _ rfl ?_
          refine r_iconst 0 rfl ?_
          refine r_istore_n _ rfl ?_
          refine Ar.fall 75 rfl ?_
          refine w_loopI (fun n_ l_ g_ => ∃ x16382 : Int32, n_ = 8 - x16382.toInt ∧ HI g_ ∧ Fr F_X11_readClause_231 A_X11_readClause_231 g0 g_ ∧ en_get 0 l_ = some (.ref 231) ∧ en_get 1 l_ = some (.int x15362) ∧ en_get 2 l_ = some (.int v16044) ∧ en_get 3 l_ = some (.int x16382) ∧ (0 ≤ x16382.toInt ∧ x16382.toInt ≤ 8) ∧ (Fr [] [237] g16002 g_) ∧ (∀ i : Int, 0 ≤ i → i < v16044.toInt → eA g_ 237 i = eA g16002 237 i)) ?_ (8 - 0) ⟨0, by first | rfl | omega, hI16003, hF16007, (w_p1 (by decide) (Or.inr rfl) (w_p1 (by decide) (Or.inr rfl) e15370)), (w_p1 (by decide) (Or.inr rfl) (w_p1 (by decide) (Or.inr rfl) e15371)), (w_p1 (by decide) (Or.inr rfl) (w_e1 _ _ _)), (w_e1 _ _ _), by decide, Fr.rf, (fun i i0 i1 => rfl)⟩
          rintro n16387 l16386 g16383 ⟨x16382, hm16397, hI16384, hF16385, e16389, e16390, e16391, e16392, r16393, q16394, q16395⟩ ih16388
          refine At.enter rfl ?_
          refine r_iload_n e16392 ?_
          refine r_bipush 8 rfl ?_
          refine r_ics 81 rfl (fun c16398 => ?_) (fun c16398 => ?_)
          · have c16398_ : x16382.toInt ≥ 8 := en_i_ge_t c16398
            refine At.enter rfl ?_
            refine r_aload_n e16389 ?_
            refine q_getR (Sh.ref hI16384.1 kx_231 rfl) ?_
            refine r_iload_n e16391 ?_
            refine r_iload_n e16390 ?_
            refine q_iast (Sh.arr hI16384.1 ka_237) ((8 * v6.toInt)) (by omega) (by omega) ?_
            have hI16399 := HI.wA0 hI16384 ka_237 (p := 237) rfl rfl ((8 * v6.toInt)) (x15362)
            have hF16400 := Fr.wA (p := 237) (j := (8 * v6.toInt)) (v := x15362) hF16385 rfl
            refine r_aload_n e16389 ?_
            refine r_dup rfl ?_
            refine q_getI (Sh.int hI16399.1 kx_231 rfl) v6 (((gI_sW).trans ((q16394.1 231 15 (by decide)).trans ((hF16004.1 231 15 (by decide)).trans (q15375.1 231 15 (by decide))))).trans hv6) ?_
            refine r_iconst 1 rfl ?_
            refine q_iadd (v6.toInt + 1) rfl (by omega) (fun v16401 hv16401 => ?_)
            refine q_putI (Sh.int hI16399.1 kx_231 rfl) rfl ?_
            have hI16402 := HI.wI1 hI16399 kx_231 rfl (p := 231) (b := 15) (v := v16401) rfl (by dsimp only; omega)
            have hF16403 := Fr.wI (p := 231) (b := 15) (v := v16401) hF16400 rfl
            refine r_aload_n e16389 ?_
            refine q_getR (Sh.ref hI16402.1 kx_231 rfl) ?_
            refine r_iload_n e16391 ?_
            refine r_iconst 3 rfl ?_
            refine q_iadd (v16044.toInt + 3) rfl (by omega) (fun v16404 hv16404 => ?_)
            refine r_aload_n e16389 ?_
            refine q_getI (Sh.int hI16402.1 kx_231 rfl) v7 (((gI_sI_ne (by decide)).trans ((gI_sW).trans ((q16394.1 231 17 (by decide)).trans ((hF16004.1 231 17 (by decide)).trans (q15375.1 231 17 (by decide)))))).trans hv7) ?_
            refine q_iast (Sh.arr hI16402.1 ka_237) ((8 * v6.toInt + 3)) (by omega) (by omega) ?_
            have hI16405 := HI.wA0 hI16402 ka_237 (p := 237) rfl rfl ((8 * v6.toInt + 3)) (v7)
            have hF16406 := Fr.wA (p := 237) (j := (8 * v6.toInt + 3)) (v := v7) hF16403 rfl
            refine r_iload_n e16390 ?_
            refine r_iconst 2 rfl ?_
            refine r_ics 130 rfl (fun c16407 => ?_) (fun c16407 => ?_)
            · have c16407_ : x15362.toInt ≥ 2 := en_i_ge_t c16407
              refine At.enter rfl ?_
              refine r_aload_n e16389 ?_
              refine q_getR (Sh.ref hI16405.1 kx_231 rfl) ?_
              refine r_iload_n e16391 ?_
              refine r_iconst 4 rfl ?_
              refine q_iadd (v16044.toInt + 4) rfl (by omega) (fun v16408 hv16408 => ?_)
              refine r_aload_n e16389 ?_
              refine q_getI (Sh.int hI16405.1 kx_231 rfl) v7 (((gI_sW).trans ((gI_sI_ne (by decide)).trans ((gI_sW).trans ((q16394.1 231 17 (by decide)).trans ((hF16004.1 231 17 (by decide)).trans (q15375.1 231 17 (by decide))))))).trans hv7) ?_
              refine q_iast (Sh.arr hI16405.1 ka_237) ((8 * v6.toInt + 4)) (by omega) (by omega) ?_
              have hI16409 := HI.wA0 hI16405 ka_237 (p := 237) rfl rfl ((8 * v6.toInt + 4)) (v7)
              have hF16410 := Fr.wA (p := 237) (j := (8 * v6.toInt + 4)) (v := v7) hF16406 rfl
              refine r_aload_n e16389 ?_
              refine q_getR (Sh.ref hI16409.1 kx_231 rfl) ?_
              refine r_iload_n e16391 ?_
              refine r_iconst 5 rfl ?_
              refine q_iadd (v16044.toInt + 5) rfl (by omega) (fun v16411 hv16411 => ?_)
              refine r_aload_n e16389 ?_
              refine q_getI (Sh.int hI16409.1 kx_231 rfl) v7 (((gI_sW).trans ((gI_sW).trans ((gI_sI_ne (by decide)).trans ((gI_sW).trans ((q16394.1 231 17 (by decide)).trans ((hF16004.1 231 17 (by decide)).trans (q15375.1 231 17 (by decide)))))))).trans hv7) ?_
              refine q_iast (Sh.arr hI16409.1 ka_237) ((8 * v6.toInt + 5)) (by omega) (by omega) ?_
              have hI16412 := HI.wA0 hI16409 ka_237 (p := 237) rfl rfl ((8 * v6.toInt + 5)) (v7)
              have hF16413 := Fr.wA (p := 237) (j := (8 * v6.toInt + 5)) (v := v7) hF16410 rfl
              refine r_aload_n e16389 ?_
              refine q_getI (Sh.int hI16412.1 kx_231 rfl) v16021 (((gI_sW).trans ((gI_sW).trans ((gI_sW).trans ((gI_sI_ne (by decide)).trans ((gI_sW).trans (q16394.1 231 14 (by decide))))))).trans hv16021) ?_
              refine r_ifs 166 rfl (fun c16414 => ?_) (fun c16414 => ?_)
              · have c16414_ : v16021.toInt ≠ 0 := en_k_ne_t c16414
                clear c16029
                have i16415 := MUSTP.w mu16036 (by omega)
                exfalso; omega
              · have c16414_ : v16021.toInt = 0 := en_k_ne_f c16414
                obtain ⟨i16416, i16417, i16418⟩ := c16029 (by omega)
                obtain ⟨i16419, i16420⟩ := MUSTP.z mu16036 (by omega) (by omega)
                refine At.enter rfl ?_
                refine r_aload_n e16389 ?_
                refine r_ldc2 294 rfl ?_
                have x16421 := HI.eqI hI16412 (p := 231) (b := 11) ((((gI_sW).trans ((gI_sW).trans ((gI_sW).trans ((gI_sI_ne (by decide)).trans ((gI_sW).trans (q16394.1 231 11 (by decide))))))).trans hv16019))
                have zv16422 : (294 : Int64).toInt = 294 := rfl
                refine r_callV 173 rfl [.ref 231, .long 294] [] (Nat.le_of_ble_eq_true rfl) rfl (T_X11_isWord_231 _ hI16412 294 (by omega)) ?_
                rintro _ _ ⟨g16423, rfl, hI16424, hF16425, v16426, rfl, hr16427⟩
                refine At.sti ?_
                have hF16428 := Fr.tr hF16413 hF16425 rfl rfl
                have x16430 := HI.eqI hI16412 (p := 231) (b := 9) ((((gI_sW).trans ((gI_sW).trans ((gI_sW).trans ((gI_sI_ne (by decide)).trans ((gI_sW).trans (q16394.1 231 9 (by decide))))))).trans hv16015))
                have x16431 := HI.eqI hI16412 (p := 231) (b := 10) ((((gI_sW).trans ((gI_sW).trans ((gI_sW).trans ((gI_sI_ne (by decide)).trans ((gI_sW).trans (q16394.1 231 10 (by decide))))))).trans hv16017))
                have x16433 := HI.eqI hI16424 (p := 231) (b := 9) ((((hF16425.1 231 9 (by decide)).trans ((gI_sW).trans ((gI_sW).trans ((gI_sW).trans ((gI_sI_ne (by decide)).trans ((gI_sW).trans (q16394.1 231 9 (by decide)))))))).trans hv16015))
                have x16434 := HI.eqI hI16424 (p := 231) (b := 10) ((((hF16425.1 231 10 (by decide)).trans ((gI_sW).trans ((gI_sW).trans ((gI_sW).trans ((gI_sI_ne (by decide)).trans ((gI_sW).trans (q16394.1 231 10 (by decide)))))))).trans hv16017))
                have x16435 := HI.eqI hI16424 (p := 231) (b := 11) ((((hF16425.1 231 11 (by decide)).trans ((gI_sW).trans ((gI_sW).trans ((gI_sW).trans ((gI_sI_ne (by decide)).trans ((gI_sW).trans (q16394.1 231 11 (by decide)))))))).trans hv16019))
                obtain ⟨c16439, c16436, isw16437, ib16438⟩ := hr16427
                have w2616440 := W26.cong c16028 hI16412 (((gI_sW).trans ((gI_sW).trans ((gI_sW).trans ((gI_sI_ne (by decide)).trans ((gI_sW).trans (q16394.1 231 9 (by decide)))))))) (((gI_sW).trans ((gI_sW).trans ((gI_sW).trans ((gI_sI_ne (by decide)).trans ((gI_sW).trans (q16394.1 231 10 (by decide)))))))) (((gI_sW).trans ((gI_sW).trans ((gI_sW).trans ((gI_sI_ne (by decide)).trans ((gI_sW).trans (q16394.1 231 11 (by decide)))))))) (((gJ_sW).trans ((gJ_sW).trans ((gJ_sW).trans ((gJ_sI_ne (by decide)).trans ((gJ_sW).trans (q16394.2.2 231 12 (by decide))))))))
                have hb16441 : BL (CDM g16002 = 10) v16426.toInt := by have z := ISM.word (c := 10) ib16438 (TKM.c hK16037 (((gA_sA_ne (by decide)).trans ((gA_sA_ne (by decide)).trans ((gA_sA_ne (by decide)).trans ((gA_sI).trans ((gA_sA_ne (by decide)).trans (q16394.2.1 236 (by decide)))))))) (((gI_sW).trans ((gI_sW).trans ((gI_sW).trans ((gI_sI_ne (by decide)).trans ((gI_sW).trans (q16394.1 231 8 (by decide)))))))) (((gI_sW).trans ((gI_sW).trans ((gI_sW).trans ((gI_sI_ne (by decide)).trans ((gI_sW).trans (q16394.1 231 9 (by decide)))))))) (((gI_sW).trans ((gI_sW).trans ((gI_sW).trans ((gI_sI_ne (by decide)).trans ((gI_sW).trans (q16394.1 231 10 (by decide)))))))) (((gI_sW).trans ((gI_sW).trans ((gI_sW).trans ((gI_sI_ne (by decide)).trans ((gI_sW).trans (q16394.1 231 11 (by decide)))))))) (((gJ_sW).trans ((gJ_sW).trans ((gJ_sW).trans ((gJ_sI_ne (by decide)).trans ((gJ_sW).trans (q16394.2.2 231 12 (by decide))))))))) (isWC_d (by omega)) (by decide +kernel) (by decide); rw [CDM.c (((gA_sA_ne (by decide)).trans ((gA_sA_ne (by decide)).trans ((gA_sA_ne (by decide)).trans ((gA_sI).trans ((gA_sA_ne (by decide)).trans (q16394.2.1 236 (by decide)))))))) (((gI_sW).trans ((gI_sW).trans ((gI_sW).trans ((gI_sI_ne (by decide)).trans ((gI_sW).trans (q16394.1 231 9 (by decide)))))))) (((gI_sW).trans ((gI_sW).trans ((gI_sW).trans ((gI_sI_ne (by decide)).trans ((gI_sW).trans (q16394.1 231 10 (by decide)))))))) (((gI_sW).trans ((gI_sW).trans ((gI_sW).trans ((gI_sI_ne (by decide)).trans ((gI_sW).trans (q16394.1 231 11 (by decide))))))))] at z; exact z
                refine At.enter rfl ?_
                refine r_ifs 176 rfl (fun c16442 => ?_) (fun c16442 => ?_)
                · have c16442_ : v16426.toInt = 0 := en_k_eq_t c16442
                  have i16443 := BL.no hb16441 (by omega)
                  refine At.enter rfl ?_
                  refine r_aload_n e16389 ?_
                  refine q_getR (Sh.ref hI16424.1 kx_231 rfl) ?_
                  refine r_iload_n e16391 ?_
                  refine r_bipush 6 rfl ?_
                  refine q_iadd (v16044.toInt + 6) rfl (by omega) (fun v16444 hv16444 => ?_)
                  refine r_aload_n e16389 ?_
                  refine q_getI (Sh.int hI16424.1 kx_231 rfl) v7 (((hF16425.1 231 17 (by decide)).trans ((gI_sW).trans ((gI_sW).trans ((gI_sW).trans ((gI_sI_ne (by decide)).trans ((gI_sW).trans ((q16394.1 231 17 (by decide)).trans ((hF16004.1 231 17 (by decide)).trans (q15375.1 231 17 (by decide)))))))))).trans hv7) ?_
                  refine q_iast (Sh.arr hI16424.1 ka_237) ((8 * v6.toInt + 6)) (by omega) (by omega) ?_
                  have hI16445 := HI.wA0 hI16424 ka_237 (p := 237) rfl rfl ((8 * v6.toInt + 6)) (v7)
                  have hF16446 := Fr.wA (p := 237) (j := (8 * v6.toInt + 6)) (v := v7) hF16428 rfl
                  refine r_vret ?_
                  have x16447 := HI.eqI hI16445 (p := 231) (b := 8) ((((gI_sW).trans ((hF16425.1 231 8 (by decide)).trans ((gI_sW).trans ((gI_sW).trans ((gI_sW).trans ((gI_sI_ne (by decide)).trans ((gI_sW).trans ((q16394.1 231 8 (by decide)).trans ((hF16004.1 231 8 (by decide)).trans (q15375.1 231 8 (by decide))))))))))).trans hv1))
                  have x16448 := HI.eqI hI16445 (p := 231) (b := 9) ((((gI_sW).trans ((hF16425.1 231 9 (by decide)).trans ((gI_sW).trans ((gI_sW).trans ((gI_sW).trans ((gI_sI_ne (by decide)).trans ((gI_sW).trans (q16394.1 231 9 (by decide))))))))).trans hv16015))
                  have x16449 := HI.eqI hI16445 (p := 231) (b := 10) ((((gI_sW).trans ((hF16425.1 231 10 (by decide)).trans ((gI_sW).trans ((gI_sW).trans ((gI_sW).trans ((gI_sI_ne (by decide)).trans ((gI_sW).trans (q16394.1 231 10 (by decide))))))))).trans hv16017))
                  have x16450 := HI.eqI hI16445 (p := 231) (b := 11) ((((gI_sW).trans ((hF16425.1 231 11 (by decide)).trans ((gI_sW).trans ((gI_sW).trans ((gI_sW).trans ((gI_sI_ne (by decide)).trans ((gI_sW).trans (q16394.1 231 11 (by decide))))))))).trans hv16019))
                  have x16451 := HI.eqI hI16445 (p := 231) (b := 14) ((((gI_sW).trans ((hF16425.1 231 14 (by decide)).trans ((gI_sW).trans ((gI_sW).trans ((gI_sW).trans ((gI_sI_ne (by decide)).trans ((gI_sW).trans (q16394.1 231 14 (by decide))))))))).trans hv16021))
                  have x16452 := HI.eqI hI16445 (p := 231) (b := 15) (((gI_sW).trans ((hF16425.1 231 15 (by decide)).trans ((gI_sW).trans ((gI_sW).trans ((gI_sW).trans (gI_sI_eq hI16399.1 kx_231 rfl _)))))))
                  have x16453 := HI.eqI hI16445 (p := 231) (b := 17) ((((gI_sW).trans ((hF16425.1 231 17 (by decide)).trans ((gI_sW).trans ((gI_sW).trans ((gI_sW).trans ((gI_sI_ne (by decide)).trans ((gI_sW).trans ((q16394.1 231 17 (by decide)).trans ((hF16004.1 231 17 (by decide)).trans (q15375.1 231 17 (by decide))))))))))).trans hv7))
                  have x16454 := HI.eqI hI0 (p := 231) (b := 8) (hv1)
                  have x16455 := HI.eqI hI0 (p := 231) (b := 9) (hv2)
                  have x16456 := HI.eqI hI0 (p := 231) (b := 10) (hv3)
                  have x16457 := HI.eqI hI0 (p := 231) (b := 11) (hv4)
                  have x16458 := HI.eqI hI0 (p := 231) (b := 14) (hv5)
                  have x16459 := HI.eqI hI0 (p := 231) (b := 15) (hv6)
                  have x16460 := HI.eqI hI0 (p := 231) (b := 17) (hv7)
                  have w2616461 := W26.cong c16028 hI16445 (((gI_sW).trans ((hF16425.1 231 9 (by decide)).trans ((gI_sW).trans ((gI_sW).trans ((gI_sW).trans ((gI_sI_ne (by decide)).trans ((gI_sW).trans (q16394.1 231 9 (by decide)))))))))) (((gI_sW).trans ((hF16425.1 231 10 (by decide)).trans ((gI_sW).trans ((gI_sW).trans ((gI_sW).trans ((gI_sI_ne (by decide)).trans ((gI_sW).trans (q16394.1 231 10 (by decide)))))))))) (((gI_sW).trans ((hF16425.1 231 11 (by decide)).trans ((gI_sW).trans ((gI_sW).trans ((gI_sW).trans ((gI_sI_ne (by decide)).trans ((gI_sW).trans (q16394.1 231 11 (by decide)))))))))) (((gJ_sW).trans ((hF16425.2.2 231 12 (by decide)).trans ((gJ_sW).trans ((gJ_sW).trans ((gJ_sW).trans ((gJ_sI_ne (by decide)).trans ((gJ_sW).trans (q16394.2.2 231 12 (by decide))))))))))
                  have x16463 := HI.eqI hI16445 (p := 231) (b := 13) ((((gI_sW).trans ((hF16425.1 231 13 (by decide)).trans ((gI_sW).trans ((gI_sW).trans ((gI_sW).trans ((gI_sI_ne (by decide)).trans ((gI_sW).trans (q16394.1 231 13 (by decide))))))))).trans hv16034))
                  obtain ⟨v16466, hv16466⟩ : ∃ v, gI g0 231 20 = v := ⟨_, rfl⟩
                  have tv16466 := congrArg Int32.toInt hv16466
                  have x16467 := HI.eqI hI16445 (p := 231) (b := 20) ((((gI_sW).trans ((hF16425.1 231 20 (by decide)).trans ((gI_sW).trans ((gI_sW).trans ((gI_sW).trans ((gI_sI_ne (by decide)).trans ((gI_sW).trans ((q16394.1 231 20 (by decide)).trans ((hF16004.1 231 20 (by decide)).trans (q15375.1 231 20 (by decide))))))))))).trans hv16466))
                  have x16469 := HI.eqI hI0 (p := 231) (b := 13) (hv16031)
                  have x16472 := HI.eqI hI0 (p := 231) (b := 20) (hv16466)
                  have hh := q15376
                  unfold HEI at hh
                  have y16482 : (gI g16002 231 13).toInt = (gI g0 231 13).toInt := (mu16036.2.1 (show (gI g0 231 14).toInt = 0 from by omega) (by omega)).2.1
                  exact ⟨_, rfl, hI16445, hF16446, rfl, ⟨by omega, by omega, by omega, by omega, w2616461, by omega, (fun hbad => by exact ⟨by omega, CLS.step (K := (gI g0 231 15).toInt) (n1 := (gI g0 231 17).toInt) (n2 := v7.toInt) hC ⟨by omega, by omega⟩ ⟨by omega, by omega, by omega⟩ (fun i i0 i1 => ((eA_sA_ne (i := i) hI16424.1 ka_237 (by omega) (by omega) (by omega)).trans ((eA_c (hF16425.2.1 237 (by decide))).trans ((eA_sA_ne (i := i) hI16409.1 ka_237 (by omega) (by omega) (by omega)).trans ((eA_sA_ne (i := i) hI16405.1 ka_237 (by omega) (by omega) (by omega)).trans ((eA_sA_ne (i := i) hI16402.1 ka_237 (by omega) (by omega) (by omega)).trans ((eA_c gA_sI).trans ((eA_sA_ne (i := i) hI16384.1 ka_237 (by omega) (by omega) (by omega)).trans ((q16395 i i0 (by omega)).trans ((eA_c (hF16004.2.1 237 (by decide))).trans (eA_c (q15375.2.1 237 (by decide))))))))))))) (by show (eA _ 237 (8 * (gI g0 231 15).toInt + 3)).toInt = (gI g0 231 17).toInt; rw [show 8 * (gI g0 231 15).toInt + 3 = (8 * v6.toInt + 3) by omega]; exact (congrArg Int32.toInt (((eA_sA_ne hI16424.1 ka_237 (by first | decide | omega) (by first | decide | omega) (by first | decide | omega)).trans ((eA_c (hF16425.2.1 237 (by decide))).trans ((eA_sA_ne hI16409.1 ka_237 (by first | decide | omega) (by first | decide | omega) (by first | decide | omega)).trans ((eA_sA_ne hI16405.1 ka_237 (by first | decide | omega) (by first | decide | omega) (by first | decide | omega)).trans (eA_sA_eq hI16402.1 ka_237 (by first | rfl | omega) (by first | decide | omega) (by first | decide | omega)))))))).trans (by omega)) (by show (eA _ 237 (8 * (gI g0 231 15).toInt + 4)).toInt = v7.toInt; rw [show 8 * (gI g0 231 15).toInt + 4 = (8 * v6.toInt + 4) by omega]; exact (congrArg Int32.toInt (((eA_sA_ne hI16424.1 ka_237 (by first | decide | omega) (by first | decide | omega) (by first | decide | omega)).trans ((eA_c (hF16425.2.1 237 (by decide))).trans ((eA_sA_ne hI16409.1 ka_237 (by first | decide | omega) (by first | decide | omega) (by first | decide | omega)).trans (eA_sA_eq hI16405.1 ka_237 (by first | rfl | omega) (by first | decide | omega) (by first | decide | omega))))))).trans (by omega)) (by show (eA _ 237 (8 * (gI g0 231 15).toInt + 5)).toInt = v7.toInt; rw [show 8 * (gI g0 231 15).toInt + 5 = (8 * v6.toInt + 5) by omega]; exact (congrArg Int32.toInt (((eA_sA_ne hI16424.1 ka_237 (by first | decide | omega) (by first | decide | omega) (by first | decide | omega)).trans ((eA_c (hF16425.2.1 237 (by decide))).trans (eA_sA_eq hI16409.1 ka_237 (by first | rfl | omega) (by first | decide | omega) (by first | decide | omega)))))).trans (by omega)) (by show (eA _ 237 (8 * (gI g0 231 15).toInt + 6)).toInt = (gI _ 231 17).toInt; rw [show 8 * (gI g0 231 15).toInt + 6 = (8 * v6.toInt + 6) by omega]; exact (congrArg Int32.toInt ((eA_sA_eq hI16424.1 ka_237 (by first | rfl | omega) (by first | decide | omega) (by first | decide | omega)))).trans (by omega)) (show SAME g0 _ (gI g0 231 17).toInt from (SAME.c hI16445 (((gA_sA_ne (by decide)).trans ((hF16425.2.1 238 (by decide)).trans ((gA_sA_ne (by decide)).trans ((gA_sA_ne (by decide)).trans ((gA_sA_ne (by decide)).trans ((gA_sI).trans ((gA_sA_ne (by decide)).trans ((q16394.2.1 238 (by decide)).trans ((hF16004.2.1 238 (by decide)).trans (q15375.2.1 238 (by decide)))))))))))) (((gA_sA_ne (by decide)).trans ((hF16425.2.1 239 (by decide)).trans ((gA_sA_ne (by decide)).trans ((gA_sA_ne (by decide)).trans ((gA_sA_ne (by decide)).trans ((gA_sI).trans ((gA_sA_ne (by decide)).trans ((q16394.2.1 239 (by decide)).trans ((hF16004.2.1 239 (by decide)).trans (q15375.2.1 239 (by decide)))))))))))))) (WfCode.nil' (by omega) (by omega) (by omega)) (WfCode.nil' (by omega) (by omega) (by omega))⟩), (TKM.c hK16037 (((gA_sA_ne (by decide)).trans ((hF16425.2.1 236 (by decide)).trans ((gA_sA_ne (by decide)).trans ((gA_sA_ne (by decide)).trans ((gA_sA_ne (by decide)).trans ((gA_sI).trans ((gA_sA_ne (by decide)).trans (q16394.2.1 236 (by decide)))))))))) (((gI_sW).trans ((hF16425.1 231 8 (by decide)).trans ((gI_sW).trans ((gI_sW).trans ((gI_sW).trans ((gI_sI_ne (by decide)).trans ((gI_sW).trans (q16394.1 231 8 (by decide)))))))))) (((gI_sW).trans ((hF16425.1 231 9 (by decide)).trans ((gI_sW).trans ((gI_sW).trans ((gI_sW).trans ((gI_sI_ne (by decide)).trans ((gI_sW).trans (q16394.1 231 9 (by decide)))))))))) (((gI_sW).trans ((hF16425.1 231 10 (by decide)).trans ((gI_sW).trans ((gI_sW).trans ((gI_sW).trans ((gI_sI_ne (by decide)).trans ((gI_sW).trans (q16394.1 231 10 (by decide)))))))))) (((gI_sW).trans ((hF16425.1 231 11 (by decide)).trans ((gI_sW).trans ((gI_sW).trans ((gI_sW).trans ((gI_sI_ne (by decide)).trans ((gI_sW).trans (q16394.1 231 11 (by decide)))))))))) (((gJ_sW).trans ((hF16425.2.2 231 12 (by decide)).trans ((gJ_sW).trans ((gJ_sW).trans ((gJ_sW).trans ((gJ_sI_ne (by decide)).trans ((gJ_sW).trans (q16394.2.2 231 12 (by decide))))))))))), (fun c0 h => by have h2 := CLM.headBH hI16445 h (show (gI g0 231 14).toInt = 0 from by omega) (by rw [(pI.ci hI16445 (((gI_sW).trans ((hF16425.1 231 9 (by decide)).trans ((gI_sW).trans ((gI_sW).trans ((gI_sW).trans ((gI_sI_ne (by decide)).trans ((gI_sW).trans (q16394.1 231 9 (by decide)))))))))))]; exact (MUSTP.tok hK mu16036 (show (gI g0 231 14).toInt = 0 from by omega) (by omega))) (by omega) (show (gI g0 231 15).toInt < 12 from by omega) (pI.ci hI16445 (((gI_sW).trans ((hF16425.1 231 20 (by decide)).trans ((gI_sW).trans ((gI_sW).trans ((gI_sW).trans ((gI_sI_ne (by decide)).trans ((gI_sW).trans ((q16394.1 231 20 (by decide)).trans ((hF16004.1 231 20 (by decide)).trans (q15375.1 231 20 (by decide))))))))))))) (show (gI _ 231 15).toInt = (gI g0 231 15).toInt + 1 from by omega) (show (gI _ 231 14).toInt = 0 from by omega) (show (gI _ 231 13).toInt = (gI g0 231 13).toInt from by omega); exact CLM.noif h2 (by rw [(pI.ci hI16445 (((gI_sW).trans ((hF16425.1 231 9 (by decide)).trans ((gI_sW).trans ((gI_sW).trans ((gI_sW).trans ((gI_sI_ne (by decide)).trans ((gI_sW).trans (q16394.1 231 9 (by decide)))))))))))]; exact (TKM.someC hK16037 (((hF16004.2.1 236 (by decide)).trans (q15375.2.1 236 (by decide)))) (((hF16004.1 231 8 (by decide)).trans (q15375.1 231 8 (by decide))))).choose_spec) (fun _ => by omega)), (fun h14 => ⟨fun n45 => N45_sH n45 (show (gI _ 231 15).toInt = (gI g0 231 15).toInt + 1 from by omega) (fun i i0 i1 => ((eA_sA_ne (i := i) hI16424.1 ka_237 (by omega) (by omega) (by omega)).trans ((eA_c (hF16425.2.1 237 (by decide))).trans ((eA_sA_ne (i := i) hI16409.1 ka_237 (by omega) (by omega) (by omega)).trans ((eA_sA_ne (i := i) hI16405.1 ka_237 (by omega) (by omega) (by omega)).trans ((eA_sA_ne (i := i) hI16402.1 ka_237 (by omega) (by omega) (by omega)).trans ((eA_c gA_sI).trans ((eA_sA_ne (i := i) hI16384.1 ka_237 (by omega) (by omega) (by omega)).trans ((q16395 i i0 (by omega)).trans ((eA_c (hF16004.2.1 237 (by decide))).trans (eA_c (q15375.2.1 237 (by decide))))))))))))) (by show (eA _ 237 (8 * (gI g0 231 15).toInt + 4)).toInt = (gI g0 231 17).toInt; rw [show 8 * (gI g0 231 15).toInt + 4 = (8 * v6.toInt + 4) by omega]; exact (congrArg Int32.toInt (((eA_sA_ne hI16424.1 ka_237 (by first | decide | omega) (by first | decide | omega) (by first | decide | omega)).trans ((eA_c (hF16425.2.1 237 (by decide))).trans ((eA_sA_ne hI16409.1 ka_237 (by first | decide | omega) (by first | decide | omega) (by first | decide | omega)).trans (eA_sA_eq hI16405.1 ka_237 (by first | rfl | omega) (by first | decide | omega) (by first | decide | omega))))))).trans (by omega)) (by show (eA _ 237 (8 * (gI g0 231 15).toInt + 5)).toInt = (gI g0 231 17).toInt; rw [show 8 * (gI g0 231 15).toInt + 5 = (8 * v6.toInt + 5) by omega]; exact (congrArg Int32.toInt (((eA_sA_ne hI16424.1 ka_237 (by first | decide | omega) (by first | decide | omega) (by first | decide | omega)).trans ((eA_c (hF16425.2.1 237 (by decide))).trans (eA_sA_eq hI16409.1 ka_237 (by first | rfl | omega) (by first | decide | omega) (by first | decide | omega)))))).trans (by omega)), fun c0 h => by have hz : (gI _ 231 14).toInt = 0 := h14; have h2 := RGM_headBH hI16445 h (TOK_at hI16445 (MUSTP.tok hK mu16036 (show (gI g0 231 14).toInt = 0 from by omega) (by omega)) (pI.c (((gI_sW).trans ((hF16425.1 231 9 (by decide)).trans ((gI_sW).trans ((gI_sW).trans ((gI_sW).trans ((gI_sI_ne (by decide)).trans ((gI_sW).trans (q16394.1 231 9 (by decide)))))))))))) (by omega) (SMG_mk (((gA_sA_ne (by decide)).trans ((hF16425.2.1 238 (by decide)).trans ((gA_sA_ne (by decide)).trans ((gA_sA_ne (by decide)).trans ((gA_sA_ne (by decide)).trans ((gA_sI).trans ((gA_sA_ne (by decide)).trans ((q16394.2.1 238 (by decide)).trans ((hF16004.2.1 238 (by decide)).trans (q15375.2.1 238 (by decide)))))))))))) (((gA_sA_ne (by decide)).trans ((hF16425.2.1 239 (by decide)).trans ((gA_sA_ne (by decide)).trans ((gA_sA_ne (by decide)).trans ((gA_sA_ne (by decide)).trans ((gA_sI).trans ((gA_sA_ne (by decide)).trans ((q16394.2.1 239 (by decide)).trans ((hF16004.2.1 239 (by decide)).trans (q15375.2.1 239 (by decide)))))))))))) (((gI_sW).trans ((hF16425.1 231 17 (by decide)).trans ((gI_sW).trans ((gI_sW).trans ((gI_sW).trans ((gI_sI_ne (by decide)).trans ((gI_sW).trans ((q16394.1 231 17 (by decide)).trans ((hF16004.1 231 17 (by decide)).trans (q15375.1 231 17 (by decide))))))))))))); have h7 := RGM_noif h2 (TOK_fr hI16445 (TKM.someC hK16037 (((hF16004.2.1 236 (by decide)).trans (q15375.2.1 236 (by decide)))) (((hF16004.1 231 8 (by decide)).trans (q15375.1 231 8 (by decide))))).choose_spec (pI.c (((gI_sW).trans ((hF16425.1 231 9 (by decide)).trans ((gI_sW).trans ((gI_sW).trans ((gI_sW).trans ((gI_sI_ne (by decide)).trans ((gI_sW).trans (q16394.1 231 9 (by decide)))))))))))) (by omega); rw [KLG_sH hI16445 (show 0 ≤ (gI g0 231 15).toInt from by omega) (show (gI _ 231 15).toInt = (gI g0 231 15).toInt + 1 from by omega) (fun i i0 i1 => ((eA_sA_ne (i := i) hI16424.1 ka_237 (by omega) (by omega) (by omega)).trans ((eA_c (hF16425.2.1 237 (by decide))).trans ((eA_sA_ne (i := i) hI16409.1 ka_237 (by omega) (by omega) (by omega)).trans ((eA_sA_ne (i := i) hI16405.1 ka_237 (by omega) (by omega) (by omega)).trans ((eA_sA_ne (i := i) hI16402.1 ka_237 (by omega) (by omega) (by omega)).trans ((eA_c gA_sI).trans ((eA_sA_ne (i := i) hI16384.1 ka_237 (by omega) (by omega) (by omega)).trans ((q16395 i i0 (by omega)).trans ((eA_c (hF16004.2.1 237 (by decide))).trans (eA_c (q15375.2.1 237 (by decide))))))))))))) (by show (eA _ 237 (8 * (gI g0 231 15).toInt)).toInt = 2; rw [show 8 * (gI g0 231 15).toInt = (8 * v6.toInt) by omega]; exact (congrArg Int32.toInt (((eA_sA_ne hI16424.1 ka_237 (by first | decide | omega) (by first | decide | omega) (by first | decide | omega)).trans ((eA_c (hF16425.2.1 237 (by decide))).trans ((eA_sA_ne hI16409.1 ka_237 (by first | decide | omega) (by first | decide | omega) (by first | decide | omega)).trans ((eA_sA_ne hI16405.1 ka_237 (by first | decide | omega) (by first | decide | omega) (by first | decide | omega)).trans ((eA_sA_ne hI16402.1 ka_237 (by first | decide | omega) (by first | decide | omega) (by first | decide | omega)).trans ((eA_c gA_sI).trans (eA_sA_eq hI16384.1 ka_237 (by first | rfl | omega) (by first | decide | omega) (by first | decide | omega)))))))))).trans (by omega)) (by show (eA _ 237 (8 * (gI g0 231 15).toInt + 3)).toInt = (gI g0 231 17).toInt; rw [show 8 * (gI g0 231 15).toInt + 3 = (8 * v6.toInt + 3) by omega]; exact (congrArg Int32.toInt (((eA_sA_ne hI16424.1 ka_237 (by first | decide | omega) (by first | decide | omega) (by first | decide | omega)).trans ((eA_c (hF16425.2.1 237 (by decide))).trans ((eA_sA_ne hI16409.1 ka_237 (by first | decide | omega) (by first | decide | omega) (by first | decide | omega)).trans ((eA_sA_ne hI16405.1 ka_237 (by first | decide | omega) (by first | decide | omega) (by first | decide | omega)).trans (eA_sA_eq hI16402.1 ka_237 (by first | rfl | omega) (by first | decide | omega) (by first | decide | omega)))))))).trans (by omega)) (by show (eA _ 237 (8 * (gI g0 231 15).toInt + 4)).toInt = (gI g0 231 17).toInt; rw [show 8 * (gI g0 231 15).toInt + 4 = (8 * v6.toInt + 4) by omega]; exact (congrArg Int32.toInt (((eA_sA_ne hI16424.1 ka_237 (by first | decide | omega) (by first | decide | omega) (by first | decide | omega)).trans ((eA_c (hF16425.2.1 237 (by decide))).trans ((eA_sA_ne hI16409.1 ka_237 (by first | decide | omega) (by first | decide | omega) (by first | decide | omega)).trans (eA_sA_eq hI16405.1 ka_237 (by first | rfl | omega) (by first | decide | omega) (by first | decide | omega))))))).trans (by omega)) (by show (eA _ 237 (8 * (gI g0 231 15).toInt + 6)).toInt = (gI g0 231 17).toInt; rw [show 8 * (gI g0 231 15).toInt + 6 = (8 * v6.toInt + 6) by omega]; exact (congrArg Int32.toInt ((eA_sA_eq hI16424.1 ka_237 (by first | rfl | omega) (by first | decide | omega) (by first | decide | omega)))).trans (by omega))]; exact h7⟩)⟩⟩
                · have c16442_ : v16426.toInt ≠ 0 := en_k_eq_f c16442
                  have i16485 := W26.two w2616440 isw16437 (by omega) (by decide)
                  have i16486 := BL.yes hb16441 (by omega)
                  refine At.enter rfl ?_
                  refine r_aload_n e16389 ?_
                  have x16487 := HI.eqI hI16424 (p := 231) (b := 8) ((((hF16425.1 231 8 (by decide)).trans ((gI_sW).trans ((gI_sW).trans ((gI_sW).trans ((gI_sI_ne (by decide)).trans ((gI_sW).trans ((q16394.1 231 8 (by decide)).trans ((hF16004.1 231 8 (by decide)).trans (q15375.1 231 8 (by decide)))))))))).trans hv1))
                  refine r_callV 180 rfl [.ref 231] [] (Nat.le_of_ble_eq_true rfl) rfl (T_X11_next_231 _ hI16424 (by omega)) ?_
                  rintro _ _ ⟨g16489, rfl, hI16490, hF16491, rfl, hr16493⟩
                  refine At.stn ?_
                  have hF16494 := Fr.tr hF16428 hF16491 rfl rfl
                  have x16497 := HI.eqI hI16490 (p := 231) (b := 8) ((((hF16491.1 231 8 (by decide)).trans ((hF16425.1 231 8 (by decide)).trans ((gI_sW).trans ((gI_sW).trans ((gI_sW).trans ((gI_sI_ne (by decide)).trans ((gI_sW).trans ((q16394.1 231 8 (by decide)).trans ((hF16004.1 231 8 (by decide)).trans (q15375.1 231 8 (by decide))))))))))).trans hv1))
                  obtain ⟨v16498, hv16498⟩ : ∃ v, gI g16489 231 9 = v := ⟨_, rfl⟩
                  have rv16498 := RgF.at hI16490.2.1 (p := 231) (b := 9) rfl
                  rw [hv16498] at rv16498
                  dsimp only at rv16498
                  have tv16498 := congrArg Int32.toInt hv16498
                  have x16499 := HI.eqI hI16490 (p := 231) (b := 9) (hv16498)
                  obtain ⟨v16500, hv16500⟩ : ∃ v, gI g16489 231 10 = v := ⟨_, rfl⟩
                  have rv16500 := RgF.at hI16490.2.1 (p := 231) (b := 10) rfl
                  rw [hv16500] at rv16500
                  dsimp only at rv16500
                  have tv16500 := congrArg Int32.toInt hv16500
                  have x16501 := HI.eqI hI16490 (p := 231) (b := 10) (hv16500)
                  obtain ⟨v16502, hv16502⟩ : ∃ v, gI g16489 231 11 = v := ⟨_, rfl⟩
                  have tv16502 := congrArg Int32.toInt hv16502
                  have x16503 := HI.eqI hI16490 (p := 231) (b := 11) (hv16502)
                  obtain ⟨c16504, c16505, c16506, c16507, c16508, c16509, c16510⟩ := hr16493
                  have tok16511_ := c16510.2
                  rw [TM.c (((hF16425.2.1 236 (by decide)).trans ((gA_sA_ne (by decide)).trans ((gA_sA_ne (by decide)).trans ((gA_sA_ne (by decide)).trans ((gA_sI).trans ((gA_sA_ne (by decide)).trans (q16394.2.1 236 (by decide))))))))), nM.c (((hF16425.1 231 8 (by decide)).trans ((gI_sW).trans ((gI_sW).trans ((gI_sW).trans ((gI_sI_ne (by decide)).trans ((gI_sW).trans (q16394.1 231 8 (by decide))))))))), pI.c (b := 10) (((hF16425.1 231 10 (by decide)).trans ((gI_sW).trans ((gI_sW).trans ((gI_sW).trans ((gI_sI_ne (by decide)).trans ((gI_sW).trans (q16394.1 231 10 (by decide)))))))))] at tok16511_
                  have tok16511 := TKM.tok hK16037 tok16511_
                  rw [TM.c (((hF16004.2.1 236 (by decide)).trans (q15375.2.1 236 (by decide)))), nM.c (((hF16004.1 231 8 (by decide)).trans (q15375.1 231 8 (by decide))))] at tok16511
                  have hK16512 := c16510.1
                  refine At.enter rfl ?_
                  refine r_aload_n e16389 ?_
                  refine r_iconst 1 rfl ?_
                  obtain ⟨v16517, hv16517⟩ : ∃ v, gJ g16489 231 12 = v := ⟨_, rfl⟩
                  have x16518 := HI.eqJ hI16490 (b := 12) (hv16517)
                  have x16519 := HI.eqI hI16490 (p := 231) (b := 14) ((((hF16491.1 231 14 (by decide)).trans ((hF16425.1 231 14 (by decide)).trans ((gI_sW).trans ((gI_sW).trans ((gI_sW).trans ((gI_sI_ne (by decide)).trans ((gI_sW).trans (q16394.1 231 14 (by decide))))))))).trans hv16021))
                  have x16520 := HI.eqI hI16490 (p := 231) (b := 17) ((((hF16491.1 231 17 (by decide)).trans ((hF16425.1 231 17 (by decide)).trans ((gI_sW).trans ((gI_sW).trans ((gI_sW).trans ((gI_sI_ne (by decide)).trans ((gI_sW).trans ((q16394.1 231 17 (by decide)).trans ((hF16004.1 231 17 (by decide)).trans (q15375.1 231 17 (by decide))))))))))).trans hv7))
                  obtain ⟨v16521, hv16521⟩ : ∃ v, gI g0 231 23 = v := ⟨_, rfl⟩
                  have rv16521 := RgF.at hI0.2.1 (p := 231) (b := 23) rfl
                  rw [hv16521] at rv16521
                  dsimp only at rv16521
                  have tv16521 := congrArg Int32.toInt hv16521
                  have x16522 := HI.eqI hI16490 (p := 231) (b := 23) ((((hF16491.1 231 23 (by decide)).trans ((hF16425.1 231 23 (by decide)).trans ((gI_sW).trans ((gI_sW).trans ((gI_sW).trans ((gI_sI_ne (by decide)).trans ((gI_sW).trans ((q16394.1 231 23 (by decide)).trans ((hF16004.1 231 23 (by decide)).trans (q15375.1 231 23 (by decide))))))))))).trans hv16521))
                  have zv16523 : (1 : Int32).toInt = 1 := rfl
                  refine r_callV 185 rfl [.ref 231, .int 1] [] (Nat.le_of_ble_eq_true rfl) rfl (T_X11_readExpression_231 _ hI16490 1 (by decide) (by refine ⟨?_, ?_, ?_, ?_⟩ <;> omega) (by omega) (by omega) c16509 hK16512) ?_
                  rintro _ _ ⟨g16524, rfl, hI16525, hF16526, rfl, hr16528⟩
                  refine At.stn ?_
                  have hF16529 := Fr.tr hF16494 hF16526 rfl rfl
                  have x16533 := HI.eqI hI16525 (p := 231) (b := 8) ((((hF16526.1 231 8 (by decide)).trans ((hF16491.1 231 8 (by decide)).trans ((hF16425.1 231 8 (by decide)).trans ((gI_sW).trans ((gI_sW).trans ((gI_sW).trans ((gI_sI_ne (by decide)).trans ((gI_sW).trans ((q16394.1 231 8 (by decide)).trans ((hF16004.1 231 8 (by decide)).trans (q15375.1 231 8 (by decide)))))))))))).trans hv1))
                  obtain ⟨v16534, hv16534⟩ : ∃ v, gI g16524 231 9 = v := ⟨_, rfl⟩
                  have rv16534 := RgF.at hI16525.2.1 (p := 231) (b := 9) rfl
                  rw [hv16534] at rv16534
                  dsimp only at rv16534
                  have tv16534 := congrArg Int32.toInt hv16534
                  have x16535 := HI.eqI hI16525 (p := 231) (b := 9) (hv16534)
                  obtain ⟨v16536, hv16536⟩ : ∃ v, gI g16524 231 10 = v := ⟨_, rfl⟩
                  have rv16536 := RgF.at hI16525.2.1 (p := 231) (b := 10) rfl
                  rw [hv16536] at rv16536
                  dsimp only at rv16536
                  have tv16536 := congrArg Int32.toInt hv16536
                  have x16537 := HI.eqI hI16525 (p := 231) (b := 10) (hv16536)
                  obtain ⟨v16538, hv16538⟩ : ∃ v, gI g16524 231 11 = v := ⟨_, rfl⟩
                  have tv16538 := congrArg Int32.toInt hv16538
                  have x16539 := HI.eqI hI16525 (p := 231) (b := 11) (hv16538)
                  obtain ⟨v16540, hv16540⟩ : ∃ v, gJ g16524 231 12 = v := ⟨_, rfl⟩
                  have x16541 := HI.eqJ hI16525 (b := 12) (hv16540)
                  obtain ⟨v16542, hv16542⟩ : ∃ v, gI g16524 231 14 = v := ⟨_, rfl⟩
                  have tv16542 := congrArg Int32.toInt hv16542
                  have x16543 := HI.eqI hI16525 (p := 231) (b := 14) (hv16542)
                  obtain ⟨v16544, hv16544⟩ : ∃ v, gI g16524 231 17 = v := ⟨_, rfl⟩
                  have rv16544 := RgF.at hI16525.2.1 (p := 231) (b := 17) rfl
                  rw [hv16544] at rv16544
                  dsimp only at rv16544
                  have tv16544 := congrArg Int32.toInt hv16544
                  have x16545 := HI.eqI hI16525 (p := 231) (b := 17) (hv16544)
                  obtain ⟨v16546, hv16546⟩ : ∃ v, gI g16524 231 23 = v := ⟨_, rfl⟩
                  have rv16546 := RgF.at hI16525.2.1 (p := 231) (b := 23) rfl
                  rw [hv16546] at rv16546
                  dsimp only at rv16546
                  have tv16546 := congrArg Int32.toInt hv16546
                  have x16547 := HI.eqI hI16525 (p := 231) (b := 23) (hv16546)
                  obtain ⟨c16548, c16549, c16550, c16551, c16552, c16553, c16554, c16555⟩ := hr16528
                  have hK16556 := c16555.1
                  obtain ⟨v16557, hv16557⟩ : ∃ v, gI g16524 231 13 = v := ⟨_, rfl⟩
                  have tv16557 := congrArg Int32.toInt hv16557
                  have x16558 := HI.eqI hI16525 (p := 231) (b := 13) (hv16557)
                  refine At.enter rfl ?_
                  refine r_aload_n e16389 ?_
                  refine q_getR (Sh.ref hI16525.1 kx_231 rfl) ?_
                  refine r_iload_n e16391 ?_
                  refine r_bipush 6 rfl ?_
                  refine q_iadd (v16044.toInt + 6) rfl (by omega) (fun v16560 hv16560 => ?_)
                  refine r_aload_n e16389 ?_
                  refine q_getI (Sh.int hI16525.1 kx_231 rfl) v16544 hv16544 ?_
                  refine q_iast (Sh.arr hI16525.1 ka_237) ((8 * v6.toInt + 6)) (by omega) (by omega) ?_
                  have hI16561 := HI.wA0 hI16525 ka_237 (p := 237) rfl rfl ((8 * v6.toInt + 6)) (v16544)
                  have hF16562 := Fr.wA (p := 237) (j := (8 * v6.toInt + 6)) (v := v16544) hF16529 rfl
                  refine r_vret ?_
                  have x16563 := HI.eqI hI16561 (p := 231) (b := 8) ((((gI_sW).trans ((hF16526.1 231 8 (by decide)).trans ((hF16491.1 231 8 (by decide)).trans ((hF16425.1 231 8 (by decide)).trans ((gI_sW).trans ((gI_sW).trans ((gI_sW).trans ((gI_sI_ne (by decide)).trans ((gI_sW).trans ((q16394.1 231 8 (by decide)).trans ((hF16004.1 231 8 (by decide)).trans (q15375.1 231 8 (by decide))))))))))))).trans hv1))
                  have x16564 := HI.eqI hI16561 (p := 231) (b := 9) (((gI_sW).trans hv16534))
                  have x16565 := HI.eqI hI16561 (p := 231) (b := 10) (((gI_sW).trans hv16536))
                  have x16566 := HI.eqI hI16561 (p := 231) (b := 11) (((gI_sW).trans hv16538))
                  have x16567 := HI.eqI hI16561 (p := 231) (b := 14) (((gI_sW).trans hv16542))
                  have x16568 := HI.eqI hI16561 (p := 231) (b := 15) (((gI_sW).trans ((hF16526.1 231 15 (by decide)).trans ((hF16491.1 231 15 (by decide)).trans ((hF16425.1 231 15 (by decide)).trans ((gI_sW).trans ((gI_sW).trans ((gI_sW).trans (gI_sI_eq hI16399.1 kx_231 rfl _)))))))))
                  have x16569 := HI.eqI hI16561 (p := 231) (b := 17) (((gI_sW).trans hv16544))
                  have x16570 := HI.eqI hI0 (p := 231) (b := 8) (hv1)
                  have x16571 := HI.eqI hI0 (p := 231) (b := 9) (hv2)
                  have x16572 := HI.eqI hI0 (p := 231) (b := 10) (hv3)
                  have x16573 := HI.eqI hI0 (p := 231) (b := 11) (hv4)
                  have x16574 := HI.eqI hI0 (p := 231) (b := 14) (hv5)
                  have x16575 := HI.eqI hI0 (p := 231) (b := 15) (hv6)
                  have x16576 := HI.eqI hI0 (p := 231) (b := 17) (hv7)
                  have w2616577 := W26.cong c16552 hI16561 ((gI_sW)) ((gI_sW)) ((gI_sW)) ((gJ_sW))
                  have x16579 := HI.eqI hI16561 (p := 231) (b := 13) (((gI_sW).trans hv16557))
                  obtain ⟨v16582, hv16582⟩ : ∃ v, gI g16524 231 20 = v := ⟨_, rfl⟩
                  have tv16582 := congrArg Int32.toInt hv16582
                  have x16583 := HI.eqI hI16561 (p := 231) (b := 20) (((gI_sW).trans hv16582))
                  have x16585 := HI.eqI hI0 (p := 231) (b := 13) (hv16031)
                  obtain ⟨v16588, hv16588⟩ : ∃ v, gI g0 231 20 = v := ⟨_, rfl⟩
                  have tv16588 := congrArg Int32.toInt hv16588
                  have x16589 := HI.eqI hI0 (p := 231) (b := 20) (hv16588)
                  have hh := q15376
                  unfold HEI at hh
                  have x16591 := HI.eqI hI16424 (p := 231) (b := 13) ((((hF16425.1 231 13 (by decide)).trans ((gI_sW).trans ((gI_sW).trans ((gI_sW).trans ((gI_sI_ne (by decide)).trans ((gI_sW).trans (q16394.1 231 13 (by decide)))))))).trans hv16034))
                  have x16592 := HI.eqI hI16424 (p := 231) (b := 14) ((((hF16425.1 231 14 (by decide)).trans ((gI_sW).trans ((gI_sW).trans ((gI_sW).trans ((gI_sI_ne (by decide)).trans ((gI_sW).trans (q16394.1 231 14 (by decide)))))))).trans hv16021))
                  have x16593 := HI.eqI hI16424 (p := 231) (b := 15) (((hF16425.1 231 15 (by decide)).trans ((gI_sW).trans ((gI_sW).trans ((gI_sW).trans (gI_sI_eq hI16399.1 kx_231 rfl _))))))
                  have x16594 := HI.eqI hI16424 (p := 231) (b := 20) ((((hF16425.1 231 20 (by decide)).trans ((gI_sW).trans ((gI_sW).trans ((gI_sW).trans ((gI_sI_ne (by decide)).trans ((gI_sW).trans ((q16394.1 231 20 (by decide)).trans ((hF16004.1 231 20 (by decide)).trans (q15375.1 231 20 (by decide)))))))))).trans hv16588))
                  have y16599 : (gI g16002 231 13).toInt = (gI g0 231 13).toInt := (mu16036.2.1 (show (gI g0 231 14).toInt = 0 from by omega) (by omega)).2.1
                  exact ⟨_, rfl, hI16561, hF16562, rfl, ⟨by omega, by omega, by omega, by omega, w2616577, by omega, (fun hbad => by have t0 := (c16554 (by omega)).1; have x0 := (c16554 (by omega)).2; have u0 : (gI _ 231 17).toInt ≤ (gI _ 231 17).toInt := x0.1; exact ⟨by omega, CLS.step (K := (gI g0 231 15).toInt) (n1 := (gI g0 231 17).toInt) (n2 := v7.toInt) hC ⟨by omega, by omega⟩ ⟨by omega, by omega, by omega⟩ (fun i i0 i1 => ((eA_sA_ne (i := i) hI16525.1 ka_237 (by omega) (by omega) (by omega)).trans ((eA_c (hF16526.2.1 237 (by decide))).trans ((eA_c (hF16491.2.1 237 (by decide))).trans ((eA_c (hF16425.2.1 237 (by decide))).trans ((eA_sA_ne (i := i) hI16409.1 ka_237 (by omega) (by omega) (by omega)).trans ((eA_sA_ne (i := i) hI16405.1 ka_237 (by omega) (by omega) (by omega)).trans ((eA_sA_ne (i := i) hI16402.1 ka_237 (by omega) (by omega) (by omega)).trans ((eA_c gA_sI).trans ((eA_sA_ne (i := i) hI16384.1 ka_237 (by omega) (by omega) (by omega)).trans ((q16395 i i0 (by omega)).trans ((eA_c (hF16004.2.1 237 (by decide))).trans (eA_c (q15375.2.1 237 (by decide))))))))))))))) (by show (eA _ 237 (8 * (gI g0 231 15).toInt + 3)).toInt = (gI g0 231 17).toInt; rw [show 8 * (gI g0 231 15).toInt + 3 = (8 * v6.toInt + 3) by omega]; exact (congrArg Int32.toInt (((eA_sA_ne hI16525.1 ka_237 (by first | decide | omega) (by first | decide | omega) (by first | decide | omega)).trans ((eA_c (hF16526.2.1 237 (by decide))).trans ((eA_c (hF16491.2.1 237 (by decide))).trans ((eA_c (hF16425.2.1 237 (by decide))).trans ((eA_sA_ne hI16409.1 ka_237 (by first | decide | omega) (by first | decide | omega) (by first | decide | omega)).trans ((eA_sA_ne hI16405.1 ka_237 (by first | decide | omega) (by first | decide | omega) (by first | decide | omega)).trans (eA_sA_eq hI16402.1 ka_237 (by first | rfl | omega) (by first | decide | omega) (by first | decide | omega)))))))))).trans (by omega)) (by show (eA _ 237 (8 * (gI g0 231 15).toInt + 4)).toInt = v7.toInt; rw [show 8 * (gI g0 231 15).toInt + 4 = (8 * v6.toInt + 4) by omega]; exact (congrArg Int32.toInt (((eA_sA_ne hI16525.1 ka_237 (by first | decide | omega) (by first | decide | omega) (by first | decide | omega)).trans ((eA_c (hF16526.2.1 237 (by decide))).trans ((eA_c (hF16491.2.1 237 (by decide))).trans ((eA_c (hF16425.2.1 237 (by decide))).trans ((eA_sA_ne hI16409.1 ka_237 (by first | decide | omega) (by first | decide | omega) (by first | decide | omega)).trans (eA_sA_eq hI16405.1 ka_237 (by first | rfl | omega) (by first | decide | omega) (by first | decide | omega))))))))).trans (by omega)) (by show (eA _ 237 (8 * (gI g0 231 15).toInt + 5)).toInt = v7.toInt; rw [show 8 * (gI g0 231 15).toInt + 5 = (8 * v6.toInt + 5) by omega]; exact (congrArg Int32.toInt (((eA_sA_ne hI16525.1 ka_237 (by first | decide | omega) (by first | decide | omega) (by first | decide | omega)).trans ((eA_c (hF16526.2.1 237 (by decide))).trans ((eA_c (hF16491.2.1 237 (by decide))).trans ((eA_c (hF16425.2.1 237 (by decide))).trans (eA_sA_eq hI16409.1 ka_237 (by first | rfl | omega) (by first | decide | omega) (by first | decide | omega)))))))).trans (by omega)) (by show (eA _ 237 (8 * (gI g0 231 15).toInt + 6)).toInt = (gI _ 231 17).toInt; rw [show 8 * (gI g0 231 15).toInt + 6 = (8 * v6.toInt + 6) by omega]; exact (congrArg Int32.toInt ((eA_sA_eq hI16525.1 ka_237 (by first | rfl | omega) (by first | decide | omega) (by first | decide | omega)))).trans (by omega)) (show SAME g0 _ (gI g0 231 17).toInt from (SAME.tr (SAME.tr (SAME.c hI16490 (((hF16491.2.1 238 (by decide)).trans ((hF16425.2.1 238 (by decide)).trans ((gA_sA_ne (by decide)).trans ((gA_sA_ne (by decide)).trans ((gA_sA_ne (by decide)).trans ((gA_sI).trans ((gA_sA_ne (by decide)).trans ((q16394.2.1 238 (by decide)).trans ((hF16004.2.1 238 (by decide)).trans (q15375.2.1 238 (by decide)))))))))))) (((hF16491.2.1 239 (by decide)).trans ((hF16425.2.1 239 (by decide)).trans ((gA_sA_ne (by decide)).trans ((gA_sA_ne (by decide)).trans ((gA_sA_ne (by decide)).trans ((gA_sI).trans ((gA_sA_ne (by decide)).trans ((q16394.2.1 239 (by decide)).trans ((hF16004.2.1 239 (by decide)).trans (q15375.2.1 239 (by decide))))))))))))) (EXPR.same x0) (by show _ ≤ (gI _ 231 17).toInt; omega)) (SAME.c hI16561 ((gA_sA_ne (by decide))) ((gA_sA_ne (by decide)))) (Int.le_refl _))) (WfCode.nil' (by omega) (by omega) (by omega)) (EXPR.code x0 (show SAME g16524 _ (gI g16524 231 17).toInt from (SAME.c hI16561 ((gA_sA_ne (by decide))) ((gA_sA_ne (by decide))))) (by show _ = (gI _ 231 17).toInt; omega) (by show _ = (gI _ 231 17).toInt; omega) (by show 0 ≤ (gI _ 231 17).toInt; omega))⟩), (TKM.c hK16556 ((gA_sA_ne (by decide))) ((gI_sW)) ((gI_sW)) ((gI_sW)) ((gI_sW)) ((gJ_sW))), (fun c0 h => by have h2 := CLM.headBH hI16424 h (show (gI g0 231 14).toInt = 0 from by omega) (by rw [(pI.ci hI16424 (((hF16425.1 231 9 (by decide)).trans ((gI_sW).trans ((gI_sW).trans ((gI_sW).trans ((gI_sI_ne (by decide)).trans ((gI_sW).trans (q16394.1 231 9 (by decide))))))))))]; exact (MUSTP.tok hK mu16036 (show (gI g0 231 14).toInt = 0 from by omega) (by omega))) (by omega) (show (gI g0 231 15).toInt < 12 from by omega) (pI.ci hI16424 (((hF16425.1 231 20 (by decide)).trans ((gI_sW).trans ((gI_sW).trans ((gI_sW).trans ((gI_sI_ne (by decide)).trans ((gI_sW).trans ((q16394.1 231 20 (by decide)).trans ((hF16004.1 231 20 (by decide)).trans (q15375.1 231 20 (by decide)))))))))))) (show (gI _ 231 15).toInt = (gI g0 231 15).toInt + 1 from by omega) (show (gI _ 231 14).toInt = 0 from by omega) (show (gI _ 231 13).toInt = (gI g0 231 13).toInt from by omega); have h4 := CLM.ifs (g' := g16489) h2 (show (gI _ 231 14).toInt = 0 from by omega) (by rw [(pI.ci hI16424 (((hF16425.1 231 9 (by decide)).trans ((gI_sW).trans ((gI_sW).trans ((gI_sW).trans ((gI_sI_ne (by decide)).trans ((gI_sW).trans (q16394.1 231 9 (by decide))))))))))]; exact tok16511) (by omega) (pI.c (hF16491.1 231 20 (by decide))) (pI.c (hF16491.1 231 15 (by decide))) (pI.c (hF16491.1 231 13 (by decide))); have h5 := CLM.test (c16555.2.1 4 (Or.inr ⟨rfl, by decide⟩)) (TM.c (((hF16491.2.1 236 (by decide)).trans ((hF16425.2.1 236 (by decide)).trans ((gA_sA_ne (by decide)).trans ((gA_sA_ne (by decide)).trans ((gA_sA_ne (by decide)).trans ((gA_sI).trans ((gA_sA_ne (by decide)).trans ((q16394.2.1 236 (by decide)).trans ((hF16004.2.1 236 (by decide)).trans (q15375.2.1 236 (by decide))))))))))))) (nM.c (((hF16491.1 231 8 (by decide)).trans ((hF16425.1 231 8 (by decide)).trans ((gI_sW).trans ((gI_sW).trans ((gI_sW).trans ((gI_sI_ne (by decide)).trans ((gI_sW).trans ((q16394.1 231 8 (by decide)).trans ((hF16004.1 231 8 (by decide)).trans (q15375.1 231 8 (by decide))))))))))))) h4; exact CLM.eqv h5 (pI.ci hI16561 ((gI_sW))) (pI.ci hI16561 ((gI_sW))) (pI.ci hI16561 ((gI_sW))) (pI.ci hI16561 ((gI_sW))) (pI.ci hI16561 ((gI_sW)))), (fun h14 => ⟨fun n45 => N45_sH n45 (show (gI _ 231 15).toInt = (gI g0 231 15).toInt + 1 from by omega) (fun i i0 i1 => ((eA_sA_ne (i := i) hI16525.1 ka_237 (by omega) (by omega) (by omega)).trans ((eA_c (hF16526.2.1 237 (by decide))).trans ((eA_c (hF16491.2.1 237 (by decide))).trans ((eA_c (hF16425.2.1 237 (by decide))).trans ((eA_sA_ne (i := i) hI16409.1 ka_237 (by omega) (by omega) (by omega)).trans ((eA_sA_ne (i := i) hI16405.1 ka_237 (by omega) (by omega) (by omega)).trans ((eA_sA_ne (i := i) hI16402.1 ka_237 (by omega) (by omega) (by omega)).trans ((eA_c gA_sI).trans ((eA_sA_ne (i := i) hI16384.1 ka_237 (by omega) (by omega) (by omega)).trans ((q16395 i i0 (by omega)).trans ((eA_c (hF16004.2.1 237 (by decide))).trans (eA_c (q15375.2.1 237 (by decide))))))))))))))) (by show (eA _ 237 (8 * (gI g0 231 15).toInt + 4)).toInt = (gI g0 231 17).toInt; rw [show 8 * (gI g0 231 15).toInt + 4 = (8 * v6.toInt + 4) by omega]; exact (congrArg Int32.toInt (((eA_sA_ne hI16525.1 ka_237 (by first | decide | omega) (by first | decide | omega) (by first | decide | omega)).trans ((eA_c (hF16526.2.1 237 (by decide))).trans ((eA_c (hF16491.2.1 237 (by decide))).trans ((eA_c (hF16425.2.1 237 (by decide))).trans ((eA_sA_ne hI16409.1 ka_237 (by first | decide | omega) (by first | decide | omega) (by first | decide | omega)).trans (eA_sA_eq hI16405.1 ka_237 (by first | rfl | omega) (by first | decide | omega) (by first | decide | omega))))))))).trans (by omega)) (by show (eA _ 237 (8 * (gI g0 231 15).toInt + 5)).toInt = (gI g0 231 17).toInt; rw [show 8 * (gI g0 231 15).toInt + 5 = (8 * v6.toInt + 5) by omega]; exact (congrArg Int32.toInt (((eA_sA_ne hI16525.1 ka_237 (by first | decide | omega) (by first | decide | omega) (by first | decide | omega)).trans ((eA_c (hF16526.2.1 237 (by decide))).trans ((eA_c (hF16491.2.1 237 (by decide))).trans ((eA_c (hF16425.2.1 237 (by decide))).trans (eA_sA_eq hI16409.1 ka_237 (by first | rfl | omega) (by first | decide | omega) (by first | decide | omega)))))))).trans (by omega)), fun c0 h => by have hz : (gI _ 231 14).toInt = 0 := h14; have h2 := RGM_headBH hI16424 h (TOK_at hI16424 (MUSTP.tok hK mu16036 (show (gI g0 231 14).toInt = 0 from by omega) (by omega)) (pI.c (((hF16425.1 231 9 (by decide)).trans ((gI_sW).trans ((gI_sW).trans ((gI_sW).trans ((gI_sI_ne (by decide)).trans ((gI_sW).trans (q16394.1 231 9 (by decide))))))))))) (by omega) (SMG_mk (((hF16425.2.1 238 (by decide)).trans ((gA_sA_ne (by decide)).trans ((gA_sA_ne (by decide)).trans ((gA_sA_ne (by decide)).trans ((gA_sI).trans ((gA_sA_ne (by decide)).trans ((q16394.2.1 238 (by decide)).trans ((hF16004.2.1 238 (by decide)).trans (q15375.2.1 238 (by decide))))))))))) (((hF16425.2.1 239 (by decide)).trans ((gA_sA_ne (by decide)).trans ((gA_sA_ne (by decide)).trans ((gA_sA_ne (by decide)).trans ((gA_sI).trans ((gA_sA_ne (by decide)).trans ((q16394.2.1 239 (by decide)).trans ((hF16004.2.1 239 (by decide)).trans (q15375.2.1 239 (by decide))))))))))) (((hF16425.1 231 17 (by decide)).trans ((gI_sW).trans ((gI_sW).trans ((gI_sW).trans ((gI_sI_ne (by decide)).trans ((gI_sW).trans ((q16394.1 231 17 (by decide)).trans ((hF16004.1 231 17 (by decide)).trans (q15375.1 231 17 (by decide)))))))))))); have h4 := RGM_if (g' := g16489) h2 (TOK_fr hI16424 tok16511 (pI.c (((hF16425.1 231 9 (by decide)).trans ((gI_sW).trans ((gI_sW).trans ((gI_sW).trans ((gI_sI_ne (by decide)).trans ((gI_sW).trans (q16394.1 231 9 (by decide))))))))))) (by omega) (SMG_mk (hF16491.2.1 238 (by decide)) (hF16491.2.1 239 (by decide)) (hF16491.1 231 17 (by decide))); have h5 := RGM_eqH hI16490 h4 SMG_rf rfl; have h6 := XPG_test c16555.2.2 rfl (show (gI g16524 231 14).toInt = 0 from by omega) (TM.c (((hF16491.2.1 236 (by decide)).trans ((hF16425.2.1 236 (by decide)).trans ((gA_sA_ne (by decide)).trans ((gA_sA_ne (by decide)).trans ((gA_sA_ne (by decide)).trans ((gA_sI).trans ((gA_sA_ne (by decide)).trans ((q16394.2.1 236 (by decide)).trans ((hF16004.2.1 236 (by decide)).trans (q15375.2.1 236 (by decide))))))))))))) (nM.c (((hF16491.1 231 8 (by decide)).trans ((hF16425.1 231 8 (by decide)).trans ((gI_sW).trans ((gI_sW).trans ((gI_sW).trans ((gI_sI_ne (by decide)).trans ((gI_sW).trans ((q16394.1 231 8 (by decide)).trans ((hF16004.1 231 8 (by decide)).trans (q15375.1 231 8 (by decide))))))))))))) h5; have h7 := RGM_eqH hI16561 h6 (SMG_mk ((gA_sA_ne (by decide))) ((gA_sA_ne (by decide))) ((gI_sW))) (pI.c ((gI_sW))); rw [KLG_sH hI16561 (show 0 ≤ (gI g0 231 15).toInt from by omega) (show (gI _ 231 15).toInt = (gI g0 231 15).toInt + 1 from by omega) (fun i i0 i1 => ((eA_sA_ne (i := i) hI16525.1 ka_237 (by omega) (by omega) (by omega)).trans ((eA_c (hF16526.2.1 237 (by decide))).trans ((eA_c (hF16491.2.1 237 (by decide))).trans ((eA_c (hF16425.2.1 237 (by decide))).trans ((eA_sA_ne (i := i) hI16409.1 ka_237 (by omega) (by omega) (by omega)).trans ((eA_sA_ne (i := i) hI16405.1 ka_237 (by omega) (by omega) (by omega)).trans ((eA_sA_ne (i := i) hI16402.1 ka_237 (by omega) (by omega) (by omega)).trans ((eA_c gA_sI).trans ((eA_sA_ne (i := i) hI16384.1 ka_237 (by omega) (by omega) (by omega)).trans ((q16395 i i0 (by omega)).trans ((eA_c (hF16004.2.1 237 (by decide))).trans (eA_c (q15375.2.1 237 (by decide))))))))))))))) (by show (eA _ 237 (8 * (gI g0 231 15).toInt)).toInt = 2; rw [show 8 * (gI g0 231 15).toInt = (8 * v6.toInt) by omega]; exact (congrArg Int32.toInt (((eA_sA_ne hI16525.1 ka_237 (by first | decide | omega) (by first | decide | omega) (by first | decide | omega)).trans ((eA_c (hF16526.2.1 237 (by decide))).trans ((eA_c (hF16491.2.1 237 (by decide))).trans ((eA_c (hF16425.2.1 237 (by decide))).trans ((eA_sA_ne hI16409.1 ka_237 (by first | decide | omega) (by first | decide | omega) (by first | decide | omega)).trans ((eA_sA_ne hI16405.1 ka_237 (by first | decide | omega) (by first | decide | omega) (by first | decide | omega)).trans ((eA_sA_ne hI16402.1 ka_237 (by first | decide | omega) (by first | decide | omega) (by first | decide | omega)).trans ((eA_c gA_sI).trans (eA_sA_eq hI16384.1 ka_237 (by first | rfl | omega) (by first | decide | omega) (by first | decide | omega)))))))))))).trans (by omega)) (by show (eA _ 237 (8 * (gI g0 231 15).toInt + 3)).toInt = (gI g0 231 17).toInt; rw [show 8 * (gI g0 231 15).toInt + 3 = (8 * v6.toInt + 3) by omega]; exact (congrArg Int32.toInt (((eA_sA_ne hI16525.1 ka_237 (by first | decide | omega) (by first | decide | omega) (by first | decide | omega)).trans ((eA_c (hF16526.2.1 237 (by decide))).trans ((eA_c (hF16491.2.1 237 (by decide))).trans ((eA_c (hF16425.2.1 237 (by decide))).trans ((eA_sA_ne hI16409.1 ka_237 (by first | decide | omega) (by first | decide | omega) (by first | decide | omega)).trans ((eA_sA_ne hI16405.1 ka_237 (by first | decide | omega) (by first | decide | omega) (by first | decide | omega)).trans (eA_sA_eq hI16402.1 ka_237 (by first | rfl | omega) (by first | decide | omega) (by first | decide | omega)))))))))).trans (by omega)) (by show (eA _ 237 (8 * (gI g0 231 15).toInt + 4)).toInt = (gI g0 231 17).toInt; rw [show 8 * (gI g0 231 15).toInt + 4 = (8 * v6.toInt + 4) by omega]; exact (congrArg Int32.toInt (((eA_sA_ne hI16525.1 ka_237 (by first | decide | omega) (by first | decide | omega) (by first | decide | omega)).trans ((eA_c (hF16526.2.1 237 (by decide))).trans ((eA_c (hF16491.2.1 237 (by decide))).trans ((eA_c (hF16425.2.1 237 (by decide))).trans ((eA_sA_ne hI16409.1 ka_237 (by first | decide | omega) (by first | decide | omega) (by first | decide | omega)).trans (eA_sA_eq hI16405.1 ka_237 (by first | rfl | omega) (by first | decide | omega) (by first | decide | omega))))))))).trans (by omega)) (by show (eA _ 237 (8 * (gI g0 231 15).toInt + 6)).toInt = (gI g16524 231 17).toInt; rw [show 8 * (gI g0 231 15).toInt + 6 = (8 * v6.toInt + 6) by omega]; exact (congrArg Int32.toInt ((eA_sA_eq hI16525.1 ka_237 (by first | rfl | omega) (by first | decide | omega) (by first | decide | omega)))).trans (by omega))]; exact h7⟩)⟩⟩
            · have c16407_ : x15362.toInt < 2 := en_i_ge_f c16407
              refine At.enter rfl ?_
              refine r_aload_n e16389 ?_
              refine r_iconst 0 rfl ?_
              have x16605 := HI.eqI hI16405 (p := 231) (b := 8) ((((gI_sW).trans ((gI_sI_ne (by decide)).trans ((gI_sW).trans ((q16394.1 231 8 (by decide)).trans ((hF16004.1 231 8 (by decide)).trans (q15375.1 231 8 (by decide))))))).trans hv1))
              have x16606 := HI.eqI hI16405 (p := 231) (b := 9) ((((gI_sW).trans ((gI_sI_ne (by decide)).trans ((gI_sW).trans (q16394.1 231 9 (by decide))))).trans hv16015))
              have x16607 := HI.eqI hI16405 (p := 231) (b := 10) ((((gI_sW).trans ((gI_sI_ne (by decide)).trans ((gI_sW).trans (q16394.1 231 10 (by decide))))).trans hv16017))
              have x16608 := HI.eqI hI16405 (p := 231) (b := 11) ((((gI_sW).trans ((gI_sI_ne (by decide)).trans ((gI_sW).trans (q16394.1 231 11 (by decide))))).trans hv16019))
              obtain ⟨v16609, hv16609⟩ : ∃ v, gJ g16002 231 12 = v := ⟨_, rfl⟩
              have x16610 := HI.eqJ hI16405 (b := 12) ((((gJ_sW).trans ((gJ_sI_ne (by decide)).trans ((gJ_sW).trans (q16394.2.2 231 12 (by decide))))).trans hv16609))
              have x16611 := HI.eqI hI16405 (p := 231) (b := 14) ((((gI_sW).trans ((gI_sI_ne (by decide)).trans ((gI_sW).trans (q16394.1 231 14 (by decide))))).trans hv16021))
              have x16612 := HI.eqI hI16405 (p := 231) (b := 17) ((((gI_sW).trans ((gI_sI_ne (by decide)).trans ((gI_sW).trans ((q16394.1 231 17 (by decide)).trans ((hF16004.1 231 17 (by decide)).trans (q15375.1 231 17 (by decide))))))).trans hv7))
              obtain ⟨v16613, hv16613⟩ : ∃ v, gI g0 231 23 = v := ⟨_, rfl⟩
              have rv16613 := RgF.at hI0.2.1 (p := 231) (b := 23) rfl
              rw [hv16613] at rv16613
              dsimp only at rv16613
              have tv16613 := congrArg Int32.toInt hv16613
              have x16614 := HI.eqI hI16405 (p := 231) (b := 23) ((((gI_sW).trans ((gI_sI_ne (by decide)).trans ((gI_sW).trans ((q16394.1 231 23 (by decide)).trans ((hF16004.1 231 23 (by decide)).trans (q15375.1 231 23 (by decide))))))).trans hv16613))
              have w2616615 := W26.cong c16028 hI16405 (((gI_sW).trans ((gI_sI_ne (by decide)).trans ((gI_sW).trans (q16394.1 231 9 (by decide)))))) (((gI_sW).trans ((gI_sI_ne (by decide)).trans ((gI_sW).trans (q16394.1 231 10 (by decide)))))) (((gI_sW).trans ((gI_sI_ne (by decide)).trans ((gI_sW).trans (q16394.1 231 11 (by decide)))))) (((gJ_sW).trans ((gJ_sI_ne (by decide)).trans ((gJ_sW).trans (q16394.2.2 231 12 (by decide))))))
              refine r_callV 135 rfl [.ref 231, .int 0] [] (Nat.le_of_ble_eq_true rfl) rfl (T_X11_readExpression_231 _ hI16405 0 (by decide) (by refine ⟨?_, ?_, ?_, ?_⟩ <;> omega) (by omega) (by omega) w2616615 (TKM.c hK16037 (((gA_sA_ne (by decide)).trans ((gA_sI).trans ((gA_sA_ne (by decide)).trans (q16394.2.1 236 (by decide)))))) (((gI_sW).trans ((gI_sI_ne (by decide)).trans ((gI_sW).trans (q16394.1 231 8 (by decide)))))) (((gI_sW).trans ((gI_sI_ne (by decide)).trans ((gI_sW).trans (q16394.1 231 9 (by decide)))))) (((gI_sW).trans ((gI_sI_ne (by decide)).trans ((gI_sW).trans (q16394.1 231 10 (by decide)))))) (((gI_sW).trans ((gI_sI_ne (by decide)).trans ((gI_sW).trans (q16394.1 231 11 (by decide)))))) (((gJ_sW).trans ((gJ_sI_ne (by decide)).trans ((gJ_sW).trans (q16394.2.2 231 12 (by decide)))))))) ?_
              rintro _ _ ⟨g16617, rfl, hI16618, hF16619, rfl, hr16621⟩
              refine At.stn ?_
              have hF16622 := Fr.tr hF16406 hF16619 rfl rfl
              have x16626 := HI.eqI hI16618 (p := 231) (b := 8) ((((hF16619.1 231 8 (by decide)).trans ((gI_sW).trans ((gI_sI_ne (by decide)).trans ((gI_sW).trans ((q16394.1 231 8 (by decide)).trans ((hF16004.1 231 8 (by decide)).trans (q15375.1 231 8 (by decide)))))))).trans hv1))
              obtain ⟨v16627, hv16627⟩ : ∃ v, gI g16617 231 9 = v := ⟨_, rfl⟩
              have rv16627 := RgF.at hI16618.2.1 (p := 231) (b := 9) rfl
              rw [hv16627] at rv16627
              dsimp only at rv16627
              have tv16627 := congrArg Int32.toInt hv16627
              have x16628 := HI.eqI hI16618 (p := 231) (b := 9) (hv16627)
              obtain ⟨v16629, hv16629⟩ : ∃ v, gI g16617 231 10 = v := ⟨_, rfl⟩
              have rv16629 := RgF.at hI16618.2.1 (p := 231) (b := 10) rfl
              rw [hv16629] at rv16629
              dsimp only at rv16629
              have tv16629 := congrArg Int32.toInt hv16629
              have x16630 := HI.eqI hI16618 (p := 231) (b := 10) (hv16629)
              obtain ⟨v16631, hv16631⟩ : ∃ v, gI g16617 231 11 = v := ⟨_, rfl⟩
              have tv16631 := congrArg Int32.toInt hv16631
              have x16632 := HI.eqI hI16618 (p := 231) (b := 11) (hv16631)
              obtain ⟨v16633, hv16633⟩ : ∃ v, gJ g16617 231 12 = v := ⟨_, rfl⟩
              have x16634 := HI.eqJ hI16618 (b := 12) (hv16633)
              obtain ⟨v16635, hv16635⟩ : ∃ v, gI g16617 231 14 = v := ⟨_, rfl⟩
              have tv16635 := congrArg Int32.toInt hv16635
              have x16636 := HI.eqI hI16618 (p := 231) (b := 14) (hv16635)
              obtain ⟨v16637, hv16637⟩ : ∃ v, gI g16617 231 17 = v := ⟨_, rfl⟩
              have rv16637 := RgF.at hI16618.2.1 (p := 231) (b := 17) rfl
              rw [hv16637] at rv16637
              dsimp only at rv16637
              have tv16637 := congrArg Int32.toInt hv16637
              have x16638 := HI.eqI hI16618 (p := 231) (b := 17) (hv16637)
              obtain ⟨v16639, hv16639⟩ : ∃ v, gI g16617 231 23 = v := ⟨_, rfl⟩
              have rv16639 := RgF.at hI16618.2.1 (p := 231) (b := 23) rfl
              rw [hv16639] at rv16639
              dsimp only at rv16639
              have tv16639 := congrArg Int32.toInt hv16639
              have x16640 := HI.eqI hI16618 (p := 231) (b := 23) (hv16639)
              obtain ⟨c16641, c16642, c16643, c16644, c16645, c16646, c16647, c16648⟩ := hr16621
              have hK16649 := c16648.1
              obtain ⟨v16650, hv16650⟩ : ∃ v, gI g16617 231 13 = v := ⟨_, rfl⟩
              have tv16650 := congrArg Int32.toInt hv16650
              have x16651 := HI.eqI hI16618 (p := 231) (b := 13) (hv16650)
              refine At.enter rfl ?_
              refine r_aload_n e16389 ?_
              refine q_getR (Sh.ref hI16618.1 kx_231 rfl) ?_
              refine r_iload_n e16391 ?_
              refine r_iconst 4 rfl ?_
              refine q_iadd (v16044.toInt + 4) rfl (by omega) (fun v16653 hv16653 => ?_)
              refine r_aload_n e16389 ?_
              refine q_getI (Sh.int hI16618.1 kx_231 rfl) v16637 hv16637 ?_
              refine q_iast (Sh.arr hI16618.1 ka_237) ((8 * v6.toInt + 4)) (by omega) (by omega) ?_
              have hI16654 := HI.wA0 hI16618 ka_237 (p := 237) rfl rfl ((8 * v6.toInt + 4)) (v16637)
              have hF16655 := Fr.wA (p := 237) (j := (8 * v6.toInt + 4)) (v := v16637) hF16622 rfl
              refine r_aload_n e16389 ?_
              refine q_getR (Sh.ref hI16654.1 kx_231 rfl) ?_
              refine r_iload_n e16391 ?_
              refine r_iconst 5 rfl ?_
              refine q_iadd (v16044.toInt + 5) rfl (by omega) (fun v16656 hv16656 => ?_)
              refine r_aload_n e16389 ?_
              refine q_getI (Sh.int hI16654.1 kx_231 rfl) v16637 ((gI_sW).trans hv16637) ?_
              refine q_iast (Sh.arr hI16654.1 ka_237) ((8 * v6.toInt + 5)) (by omega) (by omega) ?_
              have hI16657 := HI.wA0 hI16654 ka_237 (p := 237) rfl rfl ((8 * v6.toInt + 5)) (v16637)
              have hF16658 := Fr.wA (p := 237) (j := (8 * v6.toInt + 5)) (v := v16637) hF16655 rfl
              refine r_aload_n e16389 ?_
              refine q_getI (Sh.int hI16657.1 kx_231 rfl) v16635 (((gI_sW).trans (gI_sW)).trans hv16635) ?_
              refine r_ifs 166 rfl (fun c16659 => ?_) (fun c16659 => ?_)
              · have c16659_ : v16635.toInt ≠ 0 := en_k_ne_t c16659
                refine At.enter rfl ?_
                refine r_aload_n e16389 ?_
                refine q_getR (Sh.ref hI16657.1 kx_231 rfl) ?_
                refine r_iload_n e16391 ?_
                refine r_bipush 6 rfl ?_
                refine q_iadd (v16044.toInt + 6) rfl (by omega) (fun v16660 hv16660 => ?_)
                refine r_aload_n e16389 ?_
                refine q_getI (Sh.int hI16657.1 kx_231 rfl) v16637 (((gI_sW).trans (gI_sW)).trans hv16637) ?_
                refine q_iast (Sh.arr hI16657.1 ka_237) ((8 * v6.toInt + 6)) (by omega) (by omega) ?_
                have hI16661 := HI.wA0 hI16657 ka_237 (p := 237) rfl rfl ((8 * v6.toInt + 6)) (v16637)
                have hF16662 := Fr.wA (p := 237) (j := (8 * v6.toInt + 6)) (v := v16637) hF16658 rfl
                refine r_vret ?_
                have x16663 := HI.eqI hI16661 (p := 231) (b := 8) ((((gI_sW).trans ((gI_sW).trans ((gI_sW).trans ((hF16619.1 231 8 (by decide)).trans ((gI_sW).trans ((gI_sI_ne (by decide)).trans ((gI_sW).trans ((q16394.1 231 8 (by decide)).trans ((hF16004.1 231 8 (by decide)).trans (q15375.1 231 8 (by decide))))))))))).trans hv1))
                have x16664 := HI.eqI hI16661 (p := 231) (b := 9) ((((gI_sW).trans ((gI_sW).trans (gI_sW))).trans hv16627))
                have x16665 := HI.eqI hI16661 (p := 231) (b := 10) ((((gI_sW).trans ((gI_sW).trans (gI_sW))).trans hv16629))
                have x16666 := HI.eqI hI16661 (p := 231) (b := 11) ((((gI_sW).trans ((gI_sW).trans (gI_sW))).trans hv16631))
                have x16667 := HI.eqI hI16661 (p := 231) (b := 14) ((((gI_sW).trans ((gI_sW).trans (gI_sW))).trans hv16635))
                have x16668 := HI.eqI hI16661 (p := 231) (b := 15) (((gI_sW).trans ((gI_sW).trans ((gI_sW).trans ((hF16619.1 231 15 (by decide)).trans ((gI_sW).trans (gI_sI_eq hI16399.1 kx_231 rfl _)))))))
                have x16669 := HI.eqI hI16661 (p := 231) (b := 17) ((((gI_sW).trans ((gI_sW).trans (gI_sW))).trans hv16637))
                have x16670 := HI.eqI hI0 (p := 231) (b := 8) (hv1)
                have x16671 := HI.eqI hI0 (p := 231) (b := 9) (hv2)
                have x16672 := HI.eqI hI0 (p := 231) (b := 10) (hv3)
                have x16673 := HI.eqI hI0 (p := 231) (b := 11) (hv4)
                have x16674 := HI.eqI hI0 (p := 231) (b := 14) (hv5)
                have x16675 := HI.eqI hI0 (p := 231) (b := 15) (hv6)
                have x16676 := HI.eqI hI0 (p := 231) (b := 17) (hv7)
                have w2616677 := W26.cong c16645 hI16661 (((gI_sW).trans ((gI_sW).trans (gI_sW)))) (((gI_sW).trans ((gI_sW).trans (gI_sW)))) (((gI_sW).trans ((gI_sW).trans (gI_sW)))) (((gJ_sW).trans ((gJ_sW).trans (gJ_sW))))
                have x16679 := HI.eqI hI16661 (p := 231) (b := 13) ((((gI_sW).trans ((gI_sW).trans (gI_sW))).trans hv16650))
                obtain ⟨v16682, hv16682⟩ : ∃ v, gI g16617 231 20 = v := ⟨_, rfl⟩
                have tv16682 := congrArg Int32.toInt hv16682
                have x16683 := HI.eqI hI16661 (p := 231) (b := 20) ((((gI_sW).trans ((gI_sW).trans (gI_sW))).trans hv16682))
                have x16685 := HI.eqI hI0 (p := 231) (b := 13) (hv16031)
                obtain ⟨v16688, hv16688⟩ : ∃ v, gI g0 231 20 = v := ⟨_, rfl⟩
                have tv16688 := congrArg Int32.toInt hv16688
                have x16689 := HI.eqI hI0 (p := 231) (b := 20) (hv16688)
                have hh := q15376
                unfold HEI at hh
                have x16690 := HI.eqI hI16405 (p := 231) (b := 13) ((((gI_sW).trans ((gI_sI_ne (by decide)).trans ((gI_sW).trans (q16394.1 231 13 (by decide))))).trans hv16034))
                have x16691 := HI.eqI hI16405 (p := 231) (b := 15) (((gI_sW).trans (gI_sI_eq hI16399.1 kx_231 rfl _)))
                have x16692 := HI.eqI hI16405 (p := 231) (b := 20) ((((gI_sW).trans ((gI_sI_ne (by decide)).trans ((gI_sW).trans ((q16394.1 231 20 (by decide)).trans ((hF16004.1 231 20 (by decide)).trans (q15375.1 231 20 (by decide))))))).trans hv16688))
                have y16697 : (gI g16002 231 13).toInt = (gI g0 231 13).toInt := (mu16036.2.1 (show (gI g0 231 14).toInt = 0 from by omega) (by omega)).2.1
                exact ⟨_, rfl, hI16661, hF16662, rfl, ⟨by omega, by omega, by omega, by omega, w2616677, by omega, (fun hbad => by have t0 := (c16647 (by omega)).1; have x0 := (c16647 (by omega)).2; have u0 : (gI _ 231 17).toInt ≤ (gI _ 231 17).toInt := x0.1; exact ⟨by omega, CLS.step (K := (gI g0 231 15).toInt) (n1 := (gI g0 231 17).toInt) (n2 := v16637.toInt) hC ⟨by omega, by omega⟩ ⟨by omega, by omega, by omega⟩ (fun i i0 i1 => ((eA_sA_ne (i := i) hI16657.1 ka_237 (by omega) (by omega) (by omega)).trans ((eA_sA_ne (i := i) hI16654.1 ka_237 (by omega) (by omega) (by omega)).trans ((eA_sA_ne (i := i) hI16618.1 ka_237 (by omega) (by omega) (by omega)).trans ((eA_c (hF16619.2.1 237 (by decide))).trans ((eA_sA_ne (i := i) hI16402.1 ka_237 (by omega) (by omega) (by omega)).trans ((eA_c gA_sI).trans ((eA_sA_ne (i := i) hI16384.1 ka_237 (by omega) (by omega) (by omega)).trans ((q16395 i i0 (by omega)).trans ((eA_c (hF16004.2.1 237 (by decide))).trans (eA_c (q15375.2.1 237 (by decide))))))))))))) (by show (eA _ 237 (8 * (gI g0 231 15).toInt + 3)).toInt = (gI g0 231 17).toInt; rw [show 8 * (gI g0 231 15).toInt + 3 = (8 * v6.toInt + 3) by omega]; exact (congrArg Int32.toInt (((eA_sA_ne hI16657.1 ka_237 (by first | decide | omega) (by first | decide | omega) (by first | decide | omega)).trans ((eA_sA_ne hI16654.1 ka_237 (by first | decide | omega) (by first | decide | omega) (by first | decide | omega)).trans ((eA_sA_ne hI16618.1 ka_237 (by first | decide | omega) (by first | decide | omega) (by first | decide | omega)).trans ((eA_c (hF16619.2.1 237 (by decide))).trans (eA_sA_eq hI16402.1 ka_237 (by first | rfl | omega) (by first | decide | omega) (by first | decide | omega)))))))).trans (by omega)) (by show (eA _ 237 (8 * (gI g0 231 15).toInt + 4)).toInt = v16637.toInt; rw [show 8 * (gI g0 231 15).toInt + 4 = (8 * v6.toInt + 4) by omega]; exact (congrArg Int32.toInt (((eA_sA_ne hI16657.1 ka_237 (by first | decide | omega) (by first | decide | omega) (by first | decide | omega)).trans ((eA_sA_ne hI16654.1 ka_237 (by first | decide | omega) (by first | decide | omega) (by first | decide | omega)).trans (eA_sA_eq hI16618.1 ka_237 (by first | rfl | omega) (by first | decide | omega) (by first | decide | omega)))))).trans (by omega)) (by show (eA _ 237 (8 * (gI g0 231 15).toInt + 5)).toInt = v16637.toInt; rw [show 8 * (gI g0 231 15).toInt + 5 = (8 * v6.toInt + 5) by omega]; exact (congrArg Int32.toInt (((eA_sA_ne hI16657.1 ka_237 (by first | decide | omega) (by first | decide | omega) (by first | decide | omega)).trans (eA_sA_eq hI16654.1 ka_237 (by first | rfl | omega) (by first | decide | omega) (by first | decide | omega))))).trans (by omega)) (by show (eA _ 237 (8 * (gI g0 231 15).toInt + 6)).toInt = (gI _ 231 17).toInt; rw [show 8 * (gI g0 231 15).toInt + 6 = (8 * v6.toInt + 6) by omega]; exact (congrArg Int32.toInt ((eA_sA_eq hI16657.1 ka_237 (by first | rfl | omega) (by first | decide | omega) (by first | decide | omega)))).trans (by omega)) (show SAME g0 _ (gI g0 231 17).toInt from (SAME.tr (SAME.tr (SAME.c hI16405 (((gA_sA_ne (by decide)).trans ((gA_sI).trans ((gA_sA_ne (by decide)).trans ((q16394.2.1 238 (by decide)).trans ((hF16004.2.1 238 (by decide)).trans (q15375.2.1 238 (by decide)))))))) (((gA_sA_ne (by decide)).trans ((gA_sI).trans ((gA_sA_ne (by decide)).trans ((q16394.2.1 239 (by decide)).trans ((hF16004.2.1 239 (by decide)).trans (q15375.2.1 239 (by decide))))))))) (EXPR.same x0) (by show _ ≤ (gI _ 231 17).toInt; omega)) (SAME.c hI16661 (((gA_sA_ne (by decide)).trans ((gA_sA_ne (by decide)).trans (gA_sA_ne (by decide))))) (((gA_sA_ne (by decide)).trans ((gA_sA_ne (by decide)).trans (gA_sA_ne (by decide)))))) (Int.le_refl _))) (EXPR.code x0 (show SAME g16617 _ (gI g16617 231 17).toInt from (SAME.c hI16661 (((gA_sA_ne (by decide)).trans ((gA_sA_ne (by decide)).trans (gA_sA_ne (by decide))))) (((gA_sA_ne (by decide)).trans ((gA_sA_ne (by decide)).trans (gA_sA_ne (by decide))))))) (by show _ = (gI _ 231 17).toInt; omega) (by show _ = (gI _ 231 17).toInt; omega) (by show 0 ≤ (gI _ 231 17).toInt; omega)) (WfCode.nil' (by omega) (by omega) (by omega))⟩), (TKM.c hK16649 (((gA_sA_ne (by decide)).trans ((gA_sA_ne (by decide)).trans (gA_sA_ne (by decide))))) (((gI_sW).trans ((gI_sW).trans (gI_sW)))) (((gI_sW).trans ((gI_sW).trans (gI_sW)))) (((gI_sW).trans ((gI_sW).trans (gI_sW)))) (((gI_sW).trans ((gI_sW).trans (gI_sW)))) (((gJ_sW).trans ((gJ_sW).trans (gJ_sW))))), (fun c0 h => by have h1 := CLM.headH hI16405 h (show (gI g0 231 14).toInt = 0 from by omega) (by rw [(pI.ci hI16405 (((gI_sW).trans ((gI_sI_ne (by decide)).trans ((gI_sW).trans (q16394.1 231 9 (by decide)))))))]; exact (MUSTP.tok hK mu16036 (show (gI g0 231 14).toInt = 0 from by omega) (by omega))) (by omega) (show (gI g0 231 15).toInt < 12 from by omega) (pI.ci hI16405 (((gI_sW).trans ((gI_sI_ne (by decide)).trans ((gI_sW).trans ((q16394.1 231 20 (by decide)).trans ((hF16004.1 231 20 (by decide)).trans (q15375.1 231 20 (by decide))))))))) (show (gI _ 231 15).toInt = (gI g0 231 15).toInt + 1 from by omega) (show (gI _ 231 13).toInt = (gI g0 231 13).toInt from by omega); have h2 := CLM.sum (c16648.2.1 3 (Or.inl ⟨rfl, rfl⟩)) (TM.c (((gA_sA_ne (by decide)).trans ((gA_sI).trans ((gA_sA_ne (by decide)).trans ((q16394.2.1 236 (by decide)).trans ((hF16004.2.1 236 (by decide)).trans (q15375.2.1 236 (by decide))))))))) (nM.c (((gI_sW).trans ((gI_sI_ne (by decide)).trans ((gI_sW).trans ((q16394.1 231 8 (by decide)).trans ((hF16004.1 231 8 (by decide)).trans (q15375.1 231 8 (by decide))))))))) h1; have h3 := CLM.noif h2 (TKM.someC hK16649 (((hF16619.2.1 236 (by decide)).trans ((gA_sA_ne (by decide)).trans ((gA_sI).trans ((gA_sA_ne (by decide)).trans ((q16394.2.1 236 (by decide)).trans ((hF16004.2.1 236 (by decide)).trans (q15375.2.1 236 (by decide))))))))) (((hF16619.1 231 8 (by decide)).trans ((gI_sW).trans ((gI_sI_ne (by decide)).trans ((gI_sW).trans ((q16394.1 231 8 (by decide)).trans ((hF16004.1 231 8 (by decide)).trans (q15375.1 231 8 (by decide)))))))))).choose_spec (fun z => by have z2 : (gI g16617 231 14).toInt = 0 := z; omega); exact CLM.eqv h3 (pI.ci hI16661 (((gI_sW).trans ((gI_sW).trans (gI_sW))))) (pI.ci hI16661 (((gI_sW).trans ((gI_sW).trans (gI_sW))))) (pI.ci hI16661 (((gI_sW).trans ((gI_sW).trans (gI_sW))))) (pI.ci hI16661 (((gI_sW).trans ((gI_sW).trans (gI_sW))))) (pI.ci hI16661 (((gI_sW).trans ((gI_sW).trans (gI_sW)))))), (fun h14 => ⟨fun n45 => N45_sH n45 (show (gI _ 231 15).toInt = (gI g0 231 15).toInt + 1 from by omega) (fun i i0 i1 => ((eA_sA_ne (i := i) hI16657.1 ka_237 (by omega) (by omega) (by omega)).trans ((eA_sA_ne (i := i) hI16654.1 ka_237 (by omega) (by omega) (by omega)).trans ((eA_sA_ne (i := i) hI16618.1 ka_237 (by omega) (by omega) (by omega)).trans ((eA_c (hF16619.2.1 237 (by decide))).trans ((eA_sA_ne (i := i) hI16402.1 ka_237 (by omega) (by omega) (by omega)).trans ((eA_c gA_sI).trans ((eA_sA_ne (i := i) hI16384.1 ka_237 (by omega) (by omega) (by omega)).trans ((q16395 i i0 (by omega)).trans ((eA_c (hF16004.2.1 237 (by decide))).trans (eA_c (q15375.2.1 237 (by decide))))))))))))) (by show (eA _ 237 (8 * (gI g0 231 15).toInt + 4)).toInt = (gI g16617 231 17).toInt; rw [show 8 * (gI g0 231 15).toInt + 4 = (8 * v6.toInt + 4) by omega]; exact (congrArg Int32.toInt (((eA_sA_ne hI16657.1 ka_237 (by first | decide | omega) (by first | decide | omega) (by first | decide | omega)).trans ((eA_sA_ne hI16654.1 ka_237 (by first | decide | omega) (by first | decide | omega) (by first | decide | omega)).trans (eA_sA_eq hI16618.1 ka_237 (by first | rfl | omega) (by first | decide | omega) (by first | decide | omega)))))).trans (by omega)) (by show (eA _ 237 (8 * (gI g0 231 15).toInt + 5)).toInt = (gI g16617 231 17).toInt; rw [show 8 * (gI g0 231 15).toInt + 5 = (8 * v6.toInt + 5) by omega]; exact (congrArg Int32.toInt (((eA_sA_ne hI16657.1 ka_237 (by first | decide | omega) (by first | decide | omega) (by first | decide | omega)).trans (eA_sA_eq hI16654.1 ka_237 (by first | rfl | omega) (by first | decide | omega) (by first | decide | omega))))).trans (by omega)), fun c0 h => by have hz : (gI _ 231 14).toInt = 0 := h14; have h1 := RGM_headH hI16405 h (TOK_at hI16405 (MUSTP.tok hK mu16036 (show (gI g0 231 14).toInt = 0 from by omega) (by omega)) (pI.c (((gI_sW).trans ((gI_sI_ne (by decide)).trans ((gI_sW).trans (q16394.1 231 9 (by decide)))))))) (by omega) (SMG_mk (((gA_sA_ne (by decide)).trans ((gA_sI).trans ((gA_sA_ne (by decide)).trans ((q16394.2.1 238 (by decide)).trans ((hF16004.2.1 238 (by decide)).trans (q15375.2.1 238 (by decide)))))))) (((gA_sA_ne (by decide)).trans ((gA_sI).trans ((gA_sA_ne (by decide)).trans ((q16394.2.1 239 (by decide)).trans ((hF16004.2.1 239 (by decide)).trans (q15375.2.1 239 (by decide)))))))) (((gI_sW).trans ((gI_sI_ne (by decide)).trans ((gI_sW).trans ((q16394.1 231 17 (by decide)).trans ((hF16004.1 231 17 (by decide)).trans (q15375.1 231 17 (by decide))))))))); have h2 := XPG_sum c16648.2.2 (show (gI g16617 231 14).toInt = 0 from by omega) (TM.c (((gA_sA_ne (by decide)).trans ((gA_sI).trans ((gA_sA_ne (by decide)).trans ((q16394.2.1 236 (by decide)).trans ((hF16004.2.1 236 (by decide)).trans (q15375.2.1 236 (by decide))))))))) (nM.c (((gI_sW).trans ((gI_sI_ne (by decide)).trans ((gI_sW).trans ((q16394.1 231 8 (by decide)).trans ((hF16004.1 231 8 (by decide)).trans (q15375.1 231 8 (by decide))))))))) h1; have h3 := RGM_noif h2 (TKM.someC hK16649 (((hF16619.2.1 236 (by decide)).trans ((gA_sA_ne (by decide)).trans ((gA_sI).trans ((gA_sA_ne (by decide)).trans ((q16394.2.1 236 (by decide)).trans ((hF16004.2.1 236 (by decide)).trans (q15375.2.1 236 (by decide))))))))) (((hF16619.1 231 8 (by decide)).trans ((gI_sW).trans ((gI_sI_ne (by decide)).trans ((gI_sW).trans ((q16394.1 231 8 (by decide)).trans ((hF16004.1 231 8 (by decide)).trans (q15375.1 231 8 (by decide)))))))))).choose_spec (by omega); have h7 := RGM_eqH hI16661 h3 (SMG_mk (((gA_sA_ne (by decide)).trans ((gA_sA_ne (by decide)).trans (gA_sA_ne (by decide))))) (((gA_sA_ne (by decide)).trans ((gA_sA_ne (by decide)).trans (gA_sA_ne (by decide))))) (((gI_sW).trans ((gI_sW).trans (gI_sW))))) (pI.c (((gI_sW).trans ((gI_sW).trans (gI_sW))))); rw [KLG_sH hI16661 (show 0 ≤ (gI g0 231 15).toInt from by omega) (show (gI _ 231 15).toInt = (gI g0 231 15).toInt + 1 from by omega) (fun i i0 i1 => ((eA_sA_ne (i := i) hI16657.1 ka_237 (by omega) (by omega) (by omega)).trans ((eA_sA_ne (i := i) hI16654.1 ka_237 (by omega) (by omega) (by omega)).trans ((eA_sA_ne (i := i) hI16618.1 ka_237 (by omega) (by omega) (by omega)).trans ((eA_c (hF16619.2.1 237 (by decide))).trans ((eA_sA_ne (i := i) hI16402.1 ka_237 (by omega) (by omega) (by omega)).trans ((eA_c gA_sI).trans ((eA_sA_ne (i := i) hI16384.1 ka_237 (by omega) (by omega) (by omega)).trans ((q16395 i i0 (by omega)).trans ((eA_c (hF16004.2.1 237 (by decide))).trans (eA_c (q15375.2.1 237 (by decide))))))))))))) (by show (eA _ 237 (8 * (gI g0 231 15).toInt)).toInt = CDM g0 - 11; rw [show 8 * (gI g0 231 15).toInt = (8 * v6.toInt) by omega]; exact (congrArg Int32.toInt (((eA_sA_ne hI16657.1 ka_237 (by first | decide | omega) (by first | decide | omega) (by first | decide | omega)).trans ((eA_sA_ne hI16654.1 ka_237 (by first | decide | omega) (by first | decide | omega) (by first | decide | omega)).trans ((eA_sA_ne hI16618.1 ka_237 (by first | decide | omega) (by first | decide | omega) (by first | decide | omega)).trans ((eA_c (hF16619.2.1 237 (by decide))).trans ((eA_sA_ne hI16402.1 ka_237 (by first | decide | omega) (by first | decide | omega) (by first | decide | omega)).trans ((eA_c gA_sI).trans (eA_sA_eq hI16384.1 ka_237 (by first | rfl | omega) (by first | decide | omega) (by first | decide | omega)))))))))).trans (by omega)) (by show (eA _ 237 (8 * (gI g0 231 15).toInt + 3)).toInt = (gI g0 231 17).toInt; rw [show 8 * (gI g0 231 15).toInt + 3 = (8 * v6.toInt + 3) by omega]; exact (congrArg Int32.toInt (((eA_sA_ne hI16657.1 ka_237 (by first | decide | omega) (by first | decide | omega) (by first | decide | omega)).trans ((eA_sA_ne hI16654.1 ka_237 (by first | decide | omega) (by first | decide | omega) (by first | decide | omega)).trans ((eA_sA_ne hI16618.1 ka_237 (by first | decide | omega) (by first | decide | omega) (by first | decide | omega)).trans ((eA_c (hF16619.2.1 237 (by decide))).trans (eA_sA_eq hI16402.1 ka_237 (by first | rfl | omega) (by first | decide | omega) (by first | decide | omega)))))))).trans (by omega)) (by show (eA _ 237 (8 * (gI g0 231 15).toInt + 4)).toInt = (gI g16617 231 17).toInt; rw [show 8 * (gI g0 231 15).toInt + 4 = (8 * v6.toInt + 4) by omega]; exact (congrArg Int32.toInt (((eA_sA_ne hI16657.1 ka_237 (by first | decide | omega) (by first | decide | omega) (by first | decide | omega)).trans ((eA_sA_ne hI16654.1 ka_237 (by first | decide | omega) (by first | decide | omega) (by first | decide | omega)).trans (eA_sA_eq hI16618.1 ka_237 (by first | rfl | omega) (by first | decide | omega) (by first | decide | omega)))))).trans (by omega)) (by show (eA _ 237 (8 * (gI g0 231 15).toInt + 6)).toInt = (gI g16617 231 17).toInt; rw [show 8 * (gI g0 231 15).toInt + 6 = (8 * v6.toInt + 6) by omega]; exact (congrArg Int32.toInt ((eA_sA_eq hI16657.1 ka_237 (by first | rfl | omega) (by first | decide | omega) (by first | decide | omega)))).trans (by omega))]; exact h7⟩)⟩⟩
              · have c16659_ : v16635.toInt = 0 := en_k_ne_f c16659
                refine At.enter rfl ?_
                refine r_aload_n e16389 ?_
                refine r_ldc2 294 rfl ?_
                have x16703 := HI.eqI hI16657 (p := 231) (b := 11) ((((gI_sW).trans (gI_sW)).trans hv16631))
                have zv16704 : (294 : Int64).toInt = 294 := rfl
                refine r_callV 173 rfl [.ref 231, .long 294] [] (Nat.le_of_ble_eq_true rfl) rfl (T_X11_isWord_231 _ hI16657 294 (by omega)) ?_
                rintro _ _ ⟨g16705, rfl, hI16706, hF16707, v16708, rfl, hr16709⟩
                refine At.sti ?_
                have hF16710 := Fr.tr hF16658 hF16707 rfl rfl
                have x16712 := HI.eqI hI16657 (p := 231) (b := 9) ((((gI_sW).trans (gI_sW)).trans hv16627))
                have x16713 := HI.eqI hI16657 (p := 231) (b := 10) ((((gI_sW).trans (gI_sW)).trans hv16629))
                have x16715 := HI.eqI hI16706 (p := 231) (b := 9) ((((hF16707.1 231 9 (by decide)).trans ((gI_sW).trans (gI_sW))).trans hv16627))
                have x16716 := HI.eqI hI16706 (p := 231) (b := 10) ((((hF16707.1 231 10 (by decide)).trans ((gI_sW).trans (gI_sW))).trans hv16629))
                have x16717 := HI.eqI hI16706 (p := 231) (b := 11) ((((hF16707.1 231 11 (by decide)).trans ((gI_sW).trans (gI_sW))).trans hv16631))
                obtain ⟨c16721, c16718, isw16719, ib16720⟩ := hr16709
                have w2616722 := W26.cong c16645 hI16657 (((gI_sW).trans (gI_sW))) (((gI_sW).trans (gI_sW))) (((gI_sW).trans (gI_sW))) (((gJ_sW).trans (gJ_sW)))
                have hb16723 : BL (CDM g16617 = 10) v16708.toInt := by have z := ISM.word (c := 10) ib16720 (TKM.c hK16649 (((gA_sA_ne (by decide)).trans (gA_sA_ne (by decide)))) (((gI_sW).trans (gI_sW))) (((gI_sW).trans (gI_sW))) (((gI_sW).trans (gI_sW))) (((gI_sW).trans (gI_sW))) (((gJ_sW).trans (gJ_sW)))) (isWC_d (by omega)) (by decide +kernel) (by decide); rw [CDM.c (((gA_sA_ne (by decide)).trans (gA_sA_ne (by decide)))) (((gI_sW).trans (gI_sW))) (((gI_sW).trans (gI_sW))) (((gI_sW).trans (gI_sW)))] at z; exact z
                refine At.enter rfl ?_
                refine r_ifs 176 rfl (fun c16724 => ?_) (fun c16724 => ?_)
                · have c16724_ : v16708.toInt = 0 := en_k_eq_t c16724
                  have i16725 := BL.no hb16723 (by omega)
                  refine At.enter rfl ?_
                  refine r_aload_n e16389 ?_
                  refine q_getR (Sh.ref hI16706.1 kx_231 rfl) ?_
                  refine r_iload_n e16391 ?_
                  refine r_bipush 6 rfl ?_
                  refine q_iadd (v16044.toInt + 6) rfl (by omega) (fun v16726 hv16726 => ?_)
                  refine r_aload_n e16389 ?_
                  refine q_getI (Sh.int hI16706.1 kx_231 rfl) v16637 (((hF16707.1 231 17 (by decide)).trans ((gI_sW).trans (gI_sW))).trans hv16637) ?_
                  refine q_iast (Sh.arr hI16706.1 ka_237) ((8 * v6.toInt + 6)) (by omega) (by omega) ?_
                  have hI16727 := HI.wA0 hI16706 ka_237 (p := 237) rfl rfl ((8 * v6.toInt + 6)) (v16637)
                  have hF16728 := Fr.wA (p := 237) (j := (8 * v6.toInt + 6)) (v := v16637) hF16710 rfl
                  refine r_vret ?_
                  have x16729 := HI.eqI hI16727 (p := 231) (b := 8) ((((gI_sW).trans ((hF16707.1 231 8 (by decide)).trans ((gI_sW).trans ((gI_sW).trans ((hF16619.1 231 8 (by decide)).trans ((gI_sW).trans ((gI_sI_ne (by decide)).trans ((gI_sW).trans ((q16394.1 231 8 (by decide)).trans ((hF16004.1 231 8 (by decide)).trans (q15375.1 231 8 (by decide)))))))))))).trans hv1))
                  have x16730 := HI.eqI hI16727 (p := 231) (b := 9) ((((gI_sW).trans ((hF16707.1 231 9 (by decide)).trans ((gI_sW).trans (gI_sW)))).trans hv16627))
                  have x16731 := HI.eqI hI16727 (p := 231) (b := 10) ((((gI_sW).trans ((hF16707.1 231 10 (by decide)).trans ((gI_sW).trans (gI_sW)))).trans hv16629))
                  have x16732 := HI.eqI hI16727 (p := 231) (b := 11) ((((gI_sW).trans ((hF16707.1 231 11 (by decide)).trans ((gI_sW).trans (gI_sW)))).trans hv16631))
                  have x16733 := HI.eqI hI16727 (p := 231) (b := 14) ((((gI_sW).trans ((hF16707.1 231 14 (by decide)).trans ((gI_sW).trans (gI_sW)))).trans hv16635))
                  have x16734 := HI.eqI hI16727 (p := 231) (b := 15) (((gI_sW).trans ((hF16707.1 231 15 (by decide)).trans ((gI_sW).trans ((gI_sW).trans ((hF16619.1 231 15 (by decide)).trans ((gI_sW).trans (gI_sI_eq hI16399.1 kx_231 rfl _))))))))
                  have x16735 := HI.eqI hI16727 (p := 231) (b := 17) ((((gI_sW).trans ((hF16707.1 231 17 (by decide)).trans ((gI_sW).trans (gI_sW)))).trans hv16637))
                  have x16736 := HI.eqI hI0 (p := 231) (b := 8) (hv1)
                  have x16737 := HI.eqI hI0 (p := 231) (b := 9) (hv2)
                  have x16738 := HI.eqI hI0 (p := 231) (b := 10) (hv3)
                  have x16739 := HI.eqI hI0 (p := 231) (b := 11) (hv4)
                  have x16740 := HI.eqI hI0 (p := 231) (b := 14) (hv5)
                  have x16741 := HI.eqI hI0 (p := 231) (b := 15) (hv6)
                  have x16742 := HI.eqI hI0 (p := 231) (b := 17) (hv7)
                  have w2616743 := W26.cong c16645 hI16727 (((gI_sW).trans ((hF16707.1 231 9 (by decide)).trans ((gI_sW).trans (gI_sW))))) (((gI_sW).trans ((hF16707.1 231 10 (by decide)).trans ((gI_sW).trans (gI_sW))))) (((gI_sW).trans ((hF16707.1 231 11 (by decide)).trans ((gI_sW).trans (gI_sW))))) (((gJ_sW).trans ((hF16707.2.2 231 12 (by decide)).trans ((gJ_sW).trans (gJ_sW)))))
                  have x16745 := HI.eqI hI16727 (p := 231) (b := 13) ((((gI_sW).trans ((hF16707.1 231 13 (by decide)).trans ((gI_sW).trans (gI_sW)))).trans hv16650))
                  obtain ⟨v16748, hv16748⟩ : ∃ v, gI g16617 231 20 = v := ⟨_, rfl⟩
                  have tv16748 := congrArg Int32.toInt hv16748
                  have x16749 := HI.eqI hI16727 (p := 231) (b := 20) ((((gI_sW).trans ((hF16707.1 231 20 (by decide)).trans ((gI_sW).trans (gI_sW)))).trans hv16748))
                  have x16751 := HI.eqI hI0 (p := 231) (b := 13) (hv16031)
                  obtain ⟨v16754, hv16754⟩ : ∃ v, gI g0 231 20 = v := ⟨_, rfl⟩
                  have tv16754 := congrArg Int32.toInt hv16754
                  have x16755 := HI.eqI hI0 (p := 231) (b := 20) (hv16754)
                  have hh := q15376
                  unfold HEI at hh
                  have x16756 := HI.eqI hI16405 (p := 231) (b := 13) ((((gI_sW).trans ((gI_sI_ne (by decide)).trans ((gI_sW).trans (q16394.1 231 13 (by decide))))).trans hv16034))
                  have x16757 := HI.eqI hI16405 (p := 231) (b := 15) (((gI_sW).trans (gI_sI_eq hI16399.1 kx_231 rfl _)))
                  have x16758 := HI.eqI hI16405 (p := 231) (b := 20) ((((gI_sW).trans ((gI_sI_ne (by decide)).trans ((gI_sW).trans ((q16394.1 231 20 (by decide)).trans ((hF16004.1 231 20 (by decide)).trans (q15375.1 231 20 (by decide))))))).trans hv16754))
                  have y16763 : (gI g16002 231 13).toInt = (gI g0 231 13).toInt := (mu16036.2.1 (show (gI g0 231 14).toInt = 0 from by omega) (by omega)).2.1
                  exact ⟨_, rfl, hI16727, hF16728, rfl, ⟨by omega, by omega, by omega, by omega, w2616743, by omega, (fun hbad => by have t0 := (c16647 (by omega)).1; have x0 := (c16647 (by omega)).2; have u0 : (gI _ 231 17).toInt ≤ (gI _ 231 17).toInt := x0.1; exact ⟨by omega, CLS.step (K := (gI g0 231 15).toInt) (n1 := (gI g0 231 17).toInt) (n2 := v16637.toInt) hC ⟨by omega, by omega⟩ ⟨by omega, by omega, by omega⟩ (fun i i0 i1 => ((eA_sA_ne (i := i) hI16706.1 ka_237 (by omega) (by omega) (by omega)).trans ((eA_c (hF16707.2.1 237 (by decide))).trans ((eA_sA_ne (i := i) hI16654.1 ka_237 (by omega) (by omega) (by omega)).trans ((eA_sA_ne (i := i) hI16618.1 ka_237 (by omega) (by omega) (by omega)).trans ((eA_c (hF16619.2.1 237 (by decide))).trans ((eA_sA_ne (i := i) hI16402.1 ka_237 (by omega) (by omega) (by omega)).trans ((eA_c gA_sI).trans ((eA_sA_ne (i := i) hI16384.1 ka_237 (by omega) (by omega) (by omega)).trans ((q16395 i i0 (by omega)).trans ((eA_c (hF16004.2.1 237 (by decide))).trans (eA_c (q15375.2.1 237 (by decide)))))))))))))) (by show (eA _ 237 (8 * (gI g0 231 15).toInt + 3)).toInt = (gI g0 231 17).toInt; rw [show 8 * (gI g0 231 15).toInt + 3 = (8 * v6.toInt + 3) by omega]; exact (congrArg Int32.toInt (((eA_sA_ne hI16706.1 ka_237 (by first | decide | omega) (by first | decide | omega) (by first | decide | omega)).trans ((eA_c (hF16707.2.1 237 (by decide))).trans ((eA_sA_ne hI16654.1 ka_237 (by first | decide | omega) (by first | decide | omega) (by first | decide | omega)).trans ((eA_sA_ne hI16618.1 ka_237 (by first | decide | omega) (by first | decide | omega) (by first | decide | omega)).trans ((eA_c (hF16619.2.1 237 (by decide))).trans (eA_sA_eq hI16402.1 ka_237 (by first | rfl | omega) (by first | decide | omega) (by first | decide | omega))))))))).trans (by omega)) (by show (eA _ 237 (8 * (gI g0 231 15).toInt + 4)).toInt = v16637.toInt; rw [show 8 * (gI g0 231 15).toInt + 4 = (8 * v6.toInt + 4) by omega]; exact (congrArg Int32.toInt (((eA_sA_ne hI16706.1 ka_237 (by first | decide | omega) (by first | decide | omega) (by first | decide | omega)).trans ((eA_c (hF16707.2.1 237 (by decide))).trans ((eA_sA_ne hI16654.1 ka_237 (by first | decide | omega) (by first | decide | omega) (by first | decide | omega)).trans (eA_sA_eq hI16618.1 ka_237 (by first | rfl | omega) (by first | decide | omega) (by first | decide | omega))))))).trans (by omega)) (by show (eA _ 237 (8 * (gI g0 231 15).toInt + 5)).toInt = v16637.toInt; rw [show 8 * (gI g0 231 15).toInt + 5 = (8 * v6.toInt + 5) by omega]; exact (congrArg Int32.toInt (((eA_sA_ne hI16706.1 ka_237 (by first | decide | omega) (by first | decide | omega) (by first | decide | omega)).trans ((eA_c (hF16707.2.1 237 (by decide))).trans (eA_sA_eq hI16654.1 ka_237 (by first | rfl | omega) (by first | decide | omega) (by first | decide | omega)))))).trans (by omega)) (by show (eA _ 237 (8 * (gI g0 231 15).toInt + 6)).toInt = (gI _ 231 17).toInt; rw [show 8 * (gI g0 231 15).toInt + 6 = (8 * v6.toInt + 6) by omega]; exact (congrArg Int32.toInt ((eA_sA_eq hI16706.1 ka_237 (by first | rfl | omega) (by first | decide | omega) (by first | decide | omega)))).trans (by omega)) (show SAME g0 _ (gI g0 231 17).toInt from (SAME.tr (SAME.tr (SAME.c hI16405 (((gA_sA_ne (by decide)).trans ((gA_sI).trans ((gA_sA_ne (by decide)).trans ((q16394.2.1 238 (by decide)).trans ((hF16004.2.1 238 (by decide)).trans (q15375.2.1 238 (by decide)))))))) (((gA_sA_ne (by decide)).trans ((gA_sI).trans ((gA_sA_ne (by decide)).trans ((q16394.2.1 239 (by decide)).trans ((hF16004.2.1 239 (by decide)).trans (q15375.2.1 239 (by decide))))))))) (EXPR.same x0) (by show _ ≤ (gI _ 231 17).toInt; omega)) (SAME.c hI16727 (((gA_sA_ne (by decide)).trans ((hF16707.2.1 238 (by decide)).trans ((gA_sA_ne (by decide)).trans (gA_sA_ne (by decide)))))) (((gA_sA_ne (by decide)).trans ((hF16707.2.1 239 (by decide)).trans ((gA_sA_ne (by decide)).trans (gA_sA_ne (by decide))))))) (Int.le_refl _))) (EXPR.code x0 (show SAME g16617 _ (gI g16617 231 17).toInt from (SAME.c hI16727 (((gA_sA_ne (by decide)).trans ((hF16707.2.1 238 (by decide)).trans ((gA_sA_ne (by decide)).trans (gA_sA_ne (by decide)))))) (((gA_sA_ne (by decide)).trans ((hF16707.2.1 239 (by decide)).trans ((gA_sA_ne (by decide)).trans (gA_sA_ne (by decide)))))))) (by show _ = (gI _ 231 17).toInt; omega) (by show _ = (gI _ 231 17).toInt; omega) (by show 0 ≤ (gI _ 231 17).toInt; omega)) (WfCode.nil' (by omega) (by omega) (by omega))⟩), (TKM.c hK16649 (((gA_sA_ne (by decide)).trans ((hF16707.2.1 236 (by decide)).trans ((gA_sA_ne (by decide)).trans (gA_sA_ne (by decide)))))) (((gI_sW).trans ((hF16707.1 231 8 (by decide)).trans ((gI_sW).trans (gI_sW))))) (((gI_sW).trans ((hF16707.1 231 9 (by decide)).trans ((gI_sW).trans (gI_sW))))) (((gI_sW).trans ((hF16707.1 231 10 (by decide)).trans ((gI_sW).trans (gI_sW))))) (((gI_sW).trans ((hF16707.1 231 11 (by decide)).trans ((gI_sW).trans (gI_sW))))) (((gJ_sW).trans ((hF16707.2.2 231 12 (by decide)).trans ((gJ_sW).trans (gJ_sW)))))), (fun c0 h => by have h1 := CLM.headH hI16405 h (show (gI g0 231 14).toInt = 0 from by omega) (by rw [(pI.ci hI16405 (((gI_sW).trans ((gI_sI_ne (by decide)).trans ((gI_sW).trans (q16394.1 231 9 (by decide)))))))]; exact (MUSTP.tok hK mu16036 (show (gI g0 231 14).toInt = 0 from by omega) (by omega))) (by omega) (show (gI g0 231 15).toInt < 12 from by omega) (pI.ci hI16405 (((gI_sW).trans ((gI_sI_ne (by decide)).trans ((gI_sW).trans ((q16394.1 231 20 (by decide)).trans ((hF16004.1 231 20 (by decide)).trans (q15375.1 231 20 (by decide))))))))) (show (gI _ 231 15).toInt = (gI g0 231 15).toInt + 1 from by omega) (show (gI _ 231 13).toInt = (gI g0 231 13).toInt from by omega); have h2 := CLM.sum (c16648.2.1 3 (Or.inl ⟨rfl, rfl⟩)) (TM.c (((gA_sA_ne (by decide)).trans ((gA_sI).trans ((gA_sA_ne (by decide)).trans ((q16394.2.1 236 (by decide)).trans ((hF16004.2.1 236 (by decide)).trans (q15375.2.1 236 (by decide))))))))) (nM.c (((gI_sW).trans ((gI_sI_ne (by decide)).trans ((gI_sW).trans ((q16394.1 231 8 (by decide)).trans ((hF16004.1 231 8 (by decide)).trans (q15375.1 231 8 (by decide))))))))) h1; have h3 := CLM.noif h2 (TKM.someC hK16649 (((hF16619.2.1 236 (by decide)).trans ((gA_sA_ne (by decide)).trans ((gA_sI).trans ((gA_sA_ne (by decide)).trans ((q16394.2.1 236 (by decide)).trans ((hF16004.2.1 236 (by decide)).trans (q15375.2.1 236 (by decide))))))))) (((hF16619.1 231 8 (by decide)).trans ((gI_sW).trans ((gI_sI_ne (by decide)).trans ((gI_sW).trans ((q16394.1 231 8 (by decide)).trans ((hF16004.1 231 8 (by decide)).trans (q15375.1 231 8 (by decide)))))))))).choose_spec (fun z => by have z2 : (gI g16617 231 14).toInt = 0 := z; omega); exact CLM.eqv h3 (pI.ci hI16727 (((gI_sW).trans ((hF16707.1 231 9 (by decide)).trans ((gI_sW).trans (gI_sW)))))) (pI.ci hI16727 (((gI_sW).trans ((hF16707.1 231 13 (by decide)).trans ((gI_sW).trans (gI_sW)))))) (pI.ci hI16727 (((gI_sW).trans ((hF16707.1 231 14 (by decide)).trans ((gI_sW).trans (gI_sW)))))) (pI.ci hI16727 (((gI_sW).trans ((hF16707.1 231 15 (by decide)).trans ((gI_sW).trans (gI_sW)))))) (pI.ci hI16727 (((gI_sW).trans ((hF16707.1 231 20 (by decide)).trans ((gI_sW).trans (gI_sW))))))), (fun h14 => ⟨fun n45 => N45_sH n45 (show (gI _ 231 15).toInt = (gI g0 231 15).toInt + 1 from by omega) (fun i i0 i1 => ((eA_sA_ne (i := i) hI16706.1 ka_237 (by omega) (by omega) (by omega)).trans ((eA_c (hF16707.2.1 237 (by decide))).trans ((eA_sA_ne (i := i) hI16654.1 ka_237 (by omega) (by omega) (by omega)).trans ((eA_sA_ne (i := i) hI16618.1 ka_237 (by omega) (by omega) (by omega)).trans ((eA_c (hF16619.2.1 237 (by decide))).trans ((eA_sA_ne (i := i) hI16402.1 ka_237 (by omega) (by omega) (by omega)).trans ((eA_c gA_sI).trans ((eA_sA_ne (i := i) hI16384.1 ka_237 (by omega) (by omega) (by omega)).trans ((q16395 i i0 (by omega)).trans ((eA_c (hF16004.2.1 237 (by decide))).trans (eA_c (q15375.2.1 237 (by decide)))))))))))))) (by show (eA _ 237 (8 * (gI g0 231 15).toInt + 4)).toInt = (gI g16617 231 17).toInt; rw [show 8 * (gI g0 231 15).toInt + 4 = (8 * v6.toInt + 4) by omega]; exact (congrArg Int32.toInt (((eA_sA_ne hI16706.1 ka_237 (by first | decide | omega) (by first | decide | omega) (by first | decide | omega)).trans ((eA_c (hF16707.2.1 237 (by decide))).trans ((eA_sA_ne hI16654.1 ka_237 (by first | decide | omega) (by first | decide | omega) (by first | decide | omega)).trans (eA_sA_eq hI16618.1 ka_237 (by first | rfl | omega) (by first | decide | omega) (by first | decide | omega))))))).trans (by omega)) (by show (eA _ 237 (8 * (gI g0 231 15).toInt + 5)).toInt = (gI g16617 231 17).toInt; rw [show 8 * (gI g0 231 15).toInt + 5 = (8 * v6.toInt + 5) by omega]; exact (congrArg Int32.toInt (((eA_sA_ne hI16706.1 ka_237 (by first | decide | omega) (by first | decide | omega) (by first | decide | omega)).trans ((eA_c (hF16707.2.1 237 (by decide))).trans (eA_sA_eq hI16654.1 ka_237 (by first | rfl | omega) (by first | decide | omega) (by first | decide | omega)))))).trans (by omega)), fun c0 h => by have hz : (gI _ 231 14).toInt = 0 := h14; have h1 := RGM_headH hI16405 h (TOK_at hI16405 (MUSTP.tok hK mu16036 (show (gI g0 231 14).toInt = 0 from by omega) (by omega)) (pI.c (((gI_sW).trans ((gI_sI_ne (by decide)).trans ((gI_sW).trans (q16394.1 231 9 (by decide)))))))) (by omega) (SMG_mk (((gA_sA_ne (by decide)).trans ((gA_sI).trans ((gA_sA_ne (by decide)).trans ((q16394.2.1 238 (by decide)).trans ((hF16004.2.1 238 (by decide)).trans (q15375.2.1 238 (by decide)))))))) (((gA_sA_ne (by decide)).trans ((gA_sI).trans ((gA_sA_ne (by decide)).trans ((q16394.2.1 239 (by decide)).trans ((hF16004.2.1 239 (by decide)).trans (q15375.2.1 239 (by decide)))))))) (((gI_sW).trans ((gI_sI_ne (by decide)).trans ((gI_sW).trans ((q16394.1 231 17 (by decide)).trans ((hF16004.1 231 17 (by decide)).trans (q15375.1 231 17 (by decide))))))))); have h2 := XPG_sum c16648.2.2 (show (gI g16617 231 14).toInt = 0 from by omega) (TM.c (((gA_sA_ne (by decide)).trans ((gA_sI).trans ((gA_sA_ne (by decide)).trans ((q16394.2.1 236 (by decide)).trans ((hF16004.2.1 236 (by decide)).trans (q15375.2.1 236 (by decide))))))))) (nM.c (((gI_sW).trans ((gI_sI_ne (by decide)).trans ((gI_sW).trans ((q16394.1 231 8 (by decide)).trans ((hF16004.1 231 8 (by decide)).trans (q15375.1 231 8 (by decide))))))))) h1; have h3 := RGM_noif h2 (TKM.someC hK16649 (((hF16619.2.1 236 (by decide)).trans ((gA_sA_ne (by decide)).trans ((gA_sI).trans ((gA_sA_ne (by decide)).trans ((q16394.2.1 236 (by decide)).trans ((hF16004.2.1 236 (by decide)).trans (q15375.2.1 236 (by decide))))))))) (((hF16619.1 231 8 (by decide)).trans ((gI_sW).trans ((gI_sI_ne (by decide)).trans ((gI_sW).trans ((q16394.1 231 8 (by decide)).trans ((hF16004.1 231 8 (by decide)).trans (q15375.1 231 8 (by decide)))))))))).choose_spec (by omega); have h7 := RGM_eqH hI16727 h3 (SMG_mk (((gA_sA_ne (by decide)).trans ((hF16707.2.1 238 (by decide)).trans ((gA_sA_ne (by decide)).trans (gA_sA_ne (by decide)))))) (((gA_sA_ne (by decide)).trans ((hF16707.2.1 239 (by decide)).trans ((gA_sA_ne (by decide)).trans (gA_sA_ne (by decide)))))) (((gI_sW).trans ((hF16707.1 231 17 (by decide)).trans ((gI_sW).trans (gI_sW)))))) (pI.c (((gI_sW).trans ((hF16707.1 231 9 (by decide)).trans ((gI_sW).trans (gI_sW)))))); rw [KLG_sH hI16727 (show 0 ≤ (gI g0 231 15).toInt from by omega) (show (gI _ 231 15).toInt = (gI g0 231 15).toInt + 1 from by omega) (fun i i0 i1 => ((eA_sA_ne (i := i) hI16706.1 ka_237 (by omega) (by omega) (by omega)).trans ((eA_c (hF16707.2.1 237 (by decide))).trans ((eA_sA_ne (i := i) hI16654.1 ka_237 (by omega) (by omega) (by omega)).trans ((eA_sA_ne (i := i) hI16618.1 ka_237 (by omega) (by omega) (by omega)).trans ((eA_c (hF16619.2.1 237 (by decide))).trans ((eA_sA_ne (i := i) hI16402.1 ka_237 (by omega) (by omega) (by omega)).trans ((eA_c gA_sI).trans ((eA_sA_ne (i := i) hI16384.1 ka_237 (by omega) (by omega) (by omega)).trans ((q16395 i i0 (by omega)).trans ((eA_c (hF16004.2.1 237 (by decide))).trans (eA_c (q15375.2.1 237 (by decide)))))))))))))) (by show (eA _ 237 (8 * (gI g0 231 15).toInt)).toInt = CDM g0 - 11; rw [show 8 * (gI g0 231 15).toInt = (8 * v6.toInt) by omega]; exact (congrArg Int32.toInt (((eA_sA_ne hI16706.1 ka_237 (by first | decide | omega) (by first | decide | omega) (by first | decide | omega)).trans ((eA_c (hF16707.2.1 237 (by decide))).trans ((eA_sA_ne hI16654.1 ka_237 (by first | decide | omega) (by first | decide | omega) (by first | decide | omega)).trans ((eA_sA_ne hI16618.1 ka_237 (by first | decide | omega) (by first | decide | omega) (by first | decide | omega)).trans ((eA_c (hF16619.2.1 237 (by decide))).trans ((eA_sA_ne hI16402.1 ka_237 (by first | decide | omega) (by first | decide | omega) (by first | decide | omega)).trans ((eA_c gA_sI).trans (eA_sA_eq hI16384.1 ka_237 (by first | rfl | omega) (by first | decide | omega) (by first | decide | omega))))))))))).trans (by omega)) (by show (eA _ 237 (8 * (gI g0 231 15).toInt + 3)).toInt = (gI g0 231 17).toInt; rw [show 8 * (gI g0 231 15).toInt + 3 = (8 * v6.toInt + 3) by omega]; exact (congrArg Int32.toInt (((eA_sA_ne hI16706.1 ka_237 (by first | decide | omega) (by first | decide | omega) (by first | decide | omega)).trans ((eA_c (hF16707.2.1 237 (by decide))).trans ((eA_sA_ne hI16654.1 ka_237 (by first | decide | omega) (by first | decide | omega) (by first | decide | omega)).trans ((eA_sA_ne hI16618.1 ka_237 (by first | decide | omega) (by first | decide | omega) (by first | decide | omega)).trans ((eA_c (hF16619.2.1 237 (by decide))).trans (eA_sA_eq hI16402.1 ka_237 (by first | rfl | omega) (by first | decide | omega) (by first | decide | omega))))))))).trans (by omega)) (by show (eA _ 237 (8 * (gI g0 231 15).toInt + 4)).toInt = (gI g16617 231 17).toInt; rw [show 8 * (gI g0 231 15).toInt + 4 = (8 * v6.toInt + 4) by omega]; exact (congrArg Int32.toInt (((eA_sA_ne hI16706.1 ka_237 (by first | decide | omega) (by first | decide | omega) (by first | decide | omega)).trans ((eA_c (hF16707.2.1 237 (by decide))).trans ((eA_sA_ne hI16654.1 ka_237 (by first | decide | omega) (by first | decide | omega) (by first | decide | omega)).trans (eA_sA_eq hI16618.1 ka_237 (by first | rfl | omega) (by first | decide | omega) (by first | decide | omega))))))).trans (by omega)) (by show (eA _ 237 (8 * (gI g0 231 15).toInt + 6)).toInt = (gI g16617 231 17).toInt; rw [show 8 * (gI g0 231 15).toInt + 6 = (8 * v6.toInt + 6) by omega]; exact (congrArg Int32.toInt ((eA_sA_eq hI16706.1 ka_237 (by first | rfl | omega) (by first | decide | omega) (by first | decide | omega)))).trans (by omega))]; exact h7⟩)⟩⟩
                · have c16724_ : v16708.toInt ≠ 0 := en_k_eq_f c16724
                  have i16769 := W26.two w2616722 isw16719 (by omega) (by decide)
                  have i16770 := BL.yes hb16723 (by omega)
                  refine At.enter rfl ?_
                  refine r_aload_n e16389 ?_
                  have x16771 := HI.eqI hI16706 (p := 231) (b := 8) ((((hF16707.1 231 8 (by decide)).trans ((gI_sW).trans ((gI_sW).trans ((hF16619.1 231 8 (by decide)).trans ((gI_sW).trans ((gI_sI_ne (by decide)).trans ((gI_sW).trans ((q16394.1 231 8 (by decide)).trans ((hF16004.1 231 8 (by decide)).trans (q15375.1 231 8 (by decide))))))))))).trans hv1))
                  refine r_callV 180 rfl [.ref 231] [] (Nat.le_of_ble_eq_true rfl) rfl (T_X11_next_231 _ hI16706 (by omega)) ?_
                  rintro _ _ ⟨g16773, rfl, hI16774, hF16775, rfl, hr16777⟩
                  refine At.stn ?_
                  have hF16778 := Fr.tr hF16710 hF16775 rfl rfl
                  have x16781 := HI.eqI hI16774 (p := 231) (b := 8) ((((hF16775.1 231 8 (by decide)).trans ((hF16707.1 231 8 (by decide)).trans ((gI_sW).trans ((gI_sW).trans ((hF16619.1 231 8 (by decide)).trans ((gI_sW).trans ((gI_sI_ne (by decide)).trans ((gI_sW).trans ((q16394.1 231 8 (by decide)).trans ((hF16004.1 231 8 (by decide)).trans (q15375.1 231 8 (by decide)))))))))))).trans hv1))
                  obtain ⟨v16782, hv16782⟩ : ∃ v, gI g16773 231 9 = v := ⟨_, rfl⟩
                  have rv16782 := RgF.at hI16774.2.1 (p := 231) (b := 9) rfl
                  rw [hv16782] at rv16782
                  dsimp only at rv16782
                  have tv16782 := congrArg Int32.toInt hv16782
                  have x16783 := HI.eqI hI16774 (p := 231) (b := 9) (hv16782)
                  obtain ⟨v16784, hv16784⟩ : ∃ v, gI g16773 231 10 = v := ⟨_, rfl⟩
                  have rv16784 := RgF.at hI16774.2.1 (p := 231) (b := 10) rfl
                  rw [hv16784] at rv16784
                  dsimp only at rv16784
                  have tv16784 := congrArg Int32.toInt hv16784
                  have x16785 := HI.eqI hI16774 (p := 231) (b := 10) (hv16784)
                  obtain ⟨v16786, hv16786⟩ : ∃ v, gI g16773 231 11 = v := ⟨_, rfl⟩
                  have tv16786 := congrArg Int32.toInt hv16786
                  have x16787 := HI.eqI hI16774 (p := 231) (b := 11) (hv16786)
                  obtain ⟨c16788, c16789, c16790, c16791, c16792, c16793, c16794⟩ := hr16777
                  have tok16795_ := c16794.2
                  rw [TM.c (((hF16707.2.1 236 (by decide)).trans ((gA_sA_ne (by decide)).trans (gA_sA_ne (by decide))))), nM.c (((hF16707.1 231 8 (by decide)).trans ((gI_sW).trans (gI_sW)))), pI.c (b := 10) (((hF16707.1 231 10 (by decide)).trans ((gI_sW).trans (gI_sW))))] at tok16795_
                  have tok16795 := TKM.tok hK16649 tok16795_
                  rw [TM.c (((hF16619.2.1 236 (by decide)).trans ((gA_sA_ne (by decide)).trans ((gA_sI).trans ((gA_sA_ne (by decide)).trans ((q16394.2.1 236 (by decide)).trans ((hF16004.2.1 236 (by decide)).trans (q15375.2.1 236 (by decide))))))))), nM.c (((hF16619.1 231 8 (by decide)).trans ((gI_sW).trans ((gI_sI_ne (by decide)).trans ((gI_sW).trans ((q16394.1 231 8 (by decide)).trans ((hF16004.1 231 8 (by decide)).trans (q15375.1 231 8 (by decide)))))))))] at tok16795
                  have hK16796 := c16794.1
                  refine At.enter rfl ?_
                  refine r_aload_n e16389 ?_
                  refine r_iconst 1 rfl ?_
                  obtain ⟨v16801, hv16801⟩ : ∃ v, gJ g16773 231 12 = v := ⟨_, rfl⟩
                  have x16802 := HI.eqJ hI16774 (b := 12) (hv16801)
                  have x16803 := HI.eqI hI16774 (p := 231) (b := 14) ((((hF16775.1 231 14 (by decide)).trans ((hF16707.1 231 14 (by decide)).trans ((gI_sW).trans (gI_sW)))).trans hv16635))
                  have x16804 := HI.eqI hI16774 (p := 231) (b := 17) ((((hF16775.1 231 17 (by decide)).trans ((hF16707.1 231 17 (by decide)).trans ((gI_sW).trans (gI_sW)))).trans hv16637))
                  have x16805 := HI.eqI hI16774 (p := 231) (b := 23) ((((hF16775.1 231 23 (by decide)).trans ((hF16707.1 231 23 (by decide)).trans ((gI_sW).trans (gI_sW)))).trans hv16639))
                  have y16806 := (c16647 (by omega)).1
                  have zv16807 : (1 : Int32).toInt = 1 := rfl
                  refine r_callV 185 rfl [.ref 231, .int 1] [] (Nat.le_of_ble_eq_true rfl) rfl (T_X11_readExpression_231 _ hI16774 1 (by decide) (by refine ⟨?_, ?_, ?_, ?_⟩ <;> omega) (by omega) (by omega) c16793 hK16796) ?_
                  rintro _ _ ⟨g16808, rfl, hI16809, hF16810, rfl, hr16812⟩
                  refine At.stn ?_
                  have hF16813 := Fr.tr hF16778 hF16810 rfl rfl
                  have x16817 := HI.eqI hI16809 (p := 231) (b := 8) ((((hF16810.1 231 8 (by decide)).trans ((hF16775.1 231 8 (by decide)).trans ((hF16707.1 231 8 (by decide)).trans ((gI_sW).trans ((gI_sW).trans ((hF16619.1 231 8 (by decide)).trans ((gI_sW).trans ((gI_sI_ne (by decide)).trans ((gI_sW).trans ((q16394.1 231 8 (by decide)).trans ((hF16004.1 231 8 (by decide)).trans (q15375.1 231 8 (by decide))))))))))))).trans hv1))
                  obtain ⟨v16818, hv16818⟩ : ∃ v, gI g16808 231 9 = v := ⟨_, rfl⟩
                  have rv16818 := RgF.at hI16809.2.1 (p := 231) (b := 9) rfl
                  rw [hv16818] at rv16818
                  dsimp only at rv16818
                  have tv16818 := congrArg Int32.toInt hv16818
                  have x16819 := HI.eqI hI16809 (p := 231) (b := 9) (hv16818)
                  obtain ⟨v16820, hv16820⟩ : ∃ v, gI g16808 231 10 = v := ⟨_, rfl⟩
                  have rv16820 := RgF.at hI16809.2.1 (p := 231) (b := 10) rfl
                  rw [hv16820] at rv16820
                  dsimp only at rv16820
                  have tv16820 := congrArg Int32.toInt hv16820
                  have x16821 := HI.eqI hI16809 (p := 231) (b := 10) (hv16820)
                  obtain ⟨v16822, hv16822⟩ : ∃ v, gI g16808 231 11 = v := ⟨_, rfl⟩
                  have tv16822 := congrArg Int32.toInt hv16822
                  have x16823 := HI.eqI hI16809 (p := 231) (b := 11) (hv16822)
                  obtain ⟨v16824, hv16824⟩ : ∃ v, gJ g16808 231 12 = v := ⟨_, rfl⟩
                  have x16825 := HI.eqJ hI16809 (b := 12) (hv16824)
                  obtain ⟨v16826, hv16826⟩ : ∃ v, gI g16808 231 14 = v := ⟨_, rfl⟩
                  have tv16826 := congrArg Int32.toInt hv16826
                  have x16827 := HI.eqI hI16809 (p := 231) (b := 14) (hv16826)
                  obtain ⟨v16828, hv16828⟩ : ∃ v, gI g16808 231 17 = v := ⟨_, rfl⟩
                  have rv16828 := RgF.at hI16809.2.1 (p := 231) (b := 17) rfl
                  rw [hv16828] at rv16828
                  dsimp only at rv16828
                  have tv16828 := congrArg Int32.toInt hv16828
                  have x16829 := HI.eqI hI16809 (p := 231) (b := 17) (hv16828)
                  obtain ⟨v16830, hv16830⟩ : ∃ v, gI g16808 231 23 = v := ⟨_, rfl⟩
                  have rv16830 := RgF.at hI16809.2.1 (p := 231) (b := 23) rfl
                  rw [hv16830] at rv16830
                  dsimp only at rv16830
                  have tv16830 := congrArg Int32.toInt hv16830
                  have x16831 := HI.eqI hI16809 (p := 231) (b := 23) (hv16830)
                  obtain ⟨c16832, c16833, c16834, c16835, c16836, c16837, c16838, c16839⟩ := hr16812
                  have hK16840 := c16839.1
                  obtain ⟨v16841, hv16841⟩ : ∃ v, gI g16808 231 13 = v := ⟨_, rfl⟩
                  have tv16841 := congrArg Int32.toInt hv16841
                  have x16842 := HI.eqI hI16809 (p := 231) (b := 13) (hv16841)
                  refine At.enter rfl ?_
                  refine r_aload_n e16389 ?_
                  refine q_getR (Sh.ref hI16809.1 kx_231 rfl) ?_
                  refine r_iload_n e16391 ?_
                  refine r_bipush 6 rfl ?_
                  refine q_iadd (v16044.toInt + 6) rfl (by omega) (fun v16844 hv16844 => ?_)
                  refine r_aload_n e16389 ?_
                  refine q_getI (Sh.int hI16809.1 kx_231 rfl) v16828 hv16828 ?_
                  refine q_iast (Sh.arr hI16809.1 ka_237) ((8 * v6.toInt + 6)) (by omega) (by omega) ?_
                  have hI16845 := HI.wA0 hI16809 ka_237 (p := 237) rfl rfl ((8 * v6.toInt + 6)) (v16828)
                  have hF16846 := Fr.wA (p := 237) (j := (8 * v6.toInt + 6)) (v := v16828) hF16813 rfl
                  refine r_vret ?_
                  have x16847 := HI.eqI hI16845 (p := 231) (b := 8) ((((gI_sW).trans ((hF16810.1 231 8 (by decide)).trans ((hF16775.1 231 8 (by decide)).trans ((hF16707.1 231 8 (by decide)).trans ((gI_sW).trans ((gI_sW).trans ((hF16619.1 231 8 (by decide)).trans ((gI_sW).trans ((gI_sI_ne (by decide)).trans ((gI_sW).trans ((q16394.1 231 8 (by decide)).trans ((hF16004.1 231 8 (by decide)).trans (q15375.1 231 8 (by decide)))))))))))))).trans hv1))
                  have x16848 := HI.eqI hI16845 (p := 231) (b := 9) (((gI_sW).trans hv16818))
                  have x16849 := HI.eqI hI16845 (p := 231) (b := 10) (((gI_sW).trans hv16820))
                  have x16850 := HI.eqI hI16845 (p := 231) (b := 11) (((gI_sW).trans hv16822))
                  have x16851 := HI.eqI hI16845 (p := 231) (b := 14) (((gI_sW).trans hv16826))
                  have x16852 := HI.eqI hI16845 (p := 231) (b := 15) (((gI_sW).trans ((hF16810.1 231 15 (by decide)).trans ((hF16775.1 231 15 (by decide)).trans ((hF16707.1 231 15 (by decide)).trans ((gI_sW).trans ((gI_sW).trans ((hF16619.1 231 15 (by decide)).trans ((gI_sW).trans (gI_sI_eq hI16399.1 kx_231 rfl _))))))))))
                  have x16853 := HI.eqI hI16845 (p := 231) (b := 17) (((gI_sW).trans hv16828))
                  have x16854 := HI.eqI hI0 (p := 231) (b := 8) (hv1)
                  have x16855 := HI.eqI hI0 (p := 231) (b := 9) (hv2)
                  have x16856 := HI.eqI hI0 (p := 231) (b := 10) (hv3)
                  have x16857 := HI.eqI hI0 (p := 231) (b := 11) (hv4)
                  have x16858 := HI.eqI hI0 (p := 231) (b := 14) (hv5)
                  have x16859 := HI.eqI hI0 (p := 231) (b := 15) (hv6)
                  have x16860 := HI.eqI hI0 (p := 231) (b := 17) (hv7)
                  have w2616861 := W26.cong c16836 hI16845 ((gI_sW)) ((gI_sW)) ((gI_sW)) ((gJ_sW))
                  have x16863 := HI.eqI hI16845 (p := 231) (b := 13) (((gI_sW).trans hv16841))
                  obtain ⟨v16866, hv16866⟩ : ∃ v, gI g16808 231 20 = v := ⟨_, rfl⟩
                  have tv16866 := congrArg Int32.toInt hv16866
                  have x16867 := HI.eqI hI16845 (p := 231) (b := 20) (((gI_sW).trans hv16866))
                  have x16869 := HI.eqI hI0 (p := 231) (b := 13) (hv16031)
                  obtain ⟨v16872, hv16872⟩ : ∃ v, gI g0 231 20 = v := ⟨_, rfl⟩
                  have tv16872 := congrArg Int32.toInt hv16872
                  have x16873 := HI.eqI hI0 (p := 231) (b := 20) (hv16872)
                  have hh := q15376
                  unfold HEI at hh
                  have x16874 := HI.eqI hI16405 (p := 231) (b := 13) ((((gI_sW).trans ((gI_sI_ne (by decide)).trans ((gI_sW).trans (q16394.1 231 13 (by decide))))).trans hv16034))
                  have x16875 := HI.eqI hI16405 (p := 231) (b := 15) (((gI_sW).trans (gI_sI_eq hI16399.1 kx_231 rfl _)))
                  have x16876 := HI.eqI hI16405 (p := 231) (b := 20) ((((gI_sW).trans ((gI_sI_ne (by decide)).trans ((gI_sW).trans ((q16394.1 231 20 (by decide)).trans ((hF16004.1 231 20 (by decide)).trans (q15375.1 231 20 (by decide))))))).trans hv16872))
                  have y16881 : (gI g16002 231 13).toInt = (gI g0 231 13).toInt := (mu16036.2.1 (show (gI g0 231 14).toInt = 0 from by omega) (by omega)).2.1
                  have x16883 := HI.eqI hI16706 (p := 231) (b := 14) ((((hF16707.1 231 14 (by decide)).trans ((gI_sW).trans (gI_sW))).trans hv16635))
                  exact ⟨_, rfl, hI16845, hF16846, rfl, ⟨by omega, by omega, by omega, by omega, w2616861, by omega, (fun hbad => by have t0 := (c16647 (by omega)).1; have x0 := (c16647 (by omega)).2; have u0 : (gI _ 231 17).toInt ≤ (gI _ 231 17).toInt := x0.1; have t1 := (c16838 (by omega)).1; have x1 := (c16838 (by omega)).2; have u1 : (gI _ 231 17).toInt ≤ (gI _ 231 17).toInt := x1.1; exact ⟨by omega, CLS.step (K := (gI g0 231 15).toInt) (n1 := (gI g0 231 17).toInt) (n2 := v16637.toInt) hC ⟨by omega, by omega⟩ ⟨by omega, by omega, by omega⟩ (fun i i0 i1 => ((eA_sA_ne (i := i) hI16809.1 ka_237 (by omega) (by omega) (by omega)).trans ((eA_c (hF16810.2.1 237 (by decide))).trans ((eA_c (hF16775.2.1 237 (by decide))).trans ((eA_c (hF16707.2.1 237 (by decide))).trans ((eA_sA_ne (i := i) hI16654.1 ka_237 (by omega) (by omega) (by omega)).trans ((eA_sA_ne (i := i) hI16618.1 ka_237 (by omega) (by omega) (by omega)).trans ((eA_c (hF16619.2.1 237 (by decide))).trans ((eA_sA_ne (i := i) hI16402.1 ka_237 (by omega) (by omega) (by omega)).trans ((eA_c gA_sI).trans ((eA_sA_ne (i := i) hI16384.1 ka_237 (by omega) (by omega) (by omega)).trans ((q16395 i i0 (by omega)).trans ((eA_c (hF16004.2.1 237 (by decide))).trans (eA_c (q15375.2.1 237 (by decide)))))))))))))))) (by show (eA _ 237 (8 * (gI g0 231 15).toInt + 3)).toInt = (gI g0 231 17).toInt; rw [show 8 * (gI g0 231 15).toInt + 3 = (8 * v6.toInt + 3) by omega]; exact (congrArg Int32.toInt (((eA_sA_ne hI16809.1 ka_237 (by first | decide | omega) (by first | decide | omega) (by first | decide | omega)).trans ((eA_c (hF16810.2.1 237 (by decide))).trans ((eA_c (hF16775.2.1 237 (by decide))).trans ((eA_c (hF16707.2.1 237 (by decide))).trans ((eA_sA_ne hI16654.1 ka_237 (by first | decide | omega) (by first | decide | omega) (by first | decide | omega)).trans ((eA_sA_ne hI16618.1 ka_237 (by first | decide | omega) (by first | decide | omega) (by first | decide | omega)).trans ((eA_c (hF16619.2.1 237 (by decide))).trans (eA_sA_eq hI16402.1 ka_237 (by first | rfl | omega) (by first | decide | omega) (by first | decide | omega))))))))))).trans (by omega)) (by show (eA _ 237 (8 * (gI g0 231 15).toInt + 4)).toInt = v16637.toInt; rw [show 8 * (gI g0 231 15).toInt + 4 = (8 * v6.toInt + 4) by omega]; exact (congrArg Int32.toInt (((eA_sA_ne hI16809.1 ka_237 (by first | decide | omega) (by first | decide | omega) (by first | decide | omega)).trans ((eA_c (hF16810.2.1 237 (by decide))).trans ((eA_c (hF16775.2.1 237 (by decide))).trans ((eA_c (hF16707.2.1 237 (by decide))).trans ((eA_sA_ne hI16654.1 ka_237 (by first | decide | omega) (by first | decide | omega) (by first | decide | omega)).trans (eA_sA_eq hI16618.1 ka_237 (by first | rfl | omega) (by first | decide | omega) (by first | decide | omega))))))))).trans (by omega)) (by show (eA _ 237 (8 * (gI g0 231 15).toInt + 5)).toInt = v16637.toInt; rw [show 8 * (gI g0 231 15).toInt + 5 = (8 * v6.toInt + 5) by omega]; exact (congrArg Int32.toInt (((eA_sA_ne hI16809.1 ka_237 (by first | decide | omega) (by first | decide | omega) (by first | decide | omega)).trans ((eA_c (hF16810.2.1 237 (by decide))).trans ((eA_c (hF16775.2.1 237 (by decide))).trans ((eA_c (hF16707.2.1 237 (by decide))).trans (eA_sA_eq hI16654.1 ka_237 (by first | rfl | omega) (by first | decide | omega) (by first | decide | omega)))))))).trans (by omega)) (by show (eA _ 237 (8 * (gI g0 231 15).toInt + 6)).toInt = (gI _ 231 17).toInt; rw [show 8 * (gI g0 231 15).toInt + 6 = (8 * v6.toInt + 6) by omega]; exact (congrArg Int32.toInt ((eA_sA_eq hI16809.1 ka_237 (by first | rfl | omega) (by first | decide | omega) (by first | decide | omega)))).trans (by omega)) (show SAME g0 _ (gI g0 231 17).toInt from (SAME.tr (SAME.tr (SAME.tr (SAME.tr (SAME.c hI16405 (((gA_sA_ne (by decide)).trans ((gA_sI).trans ((gA_sA_ne (by decide)).trans ((q16394.2.1 238 (by decide)).trans ((hF16004.2.1 238 (by decide)).trans (q15375.2.1 238 (by decide)))))))) (((gA_sA_ne (by decide)).trans ((gA_sI).trans ((gA_sA_ne (by decide)).trans ((q16394.2.1 239 (by decide)).trans ((hF16004.2.1 239 (by decide)).trans (q15375.2.1 239 (by decide))))))))) (EXPR.same x0) (by show _ ≤ (gI _ 231 17).toInt; omega)) (SAME.c hI16774 (((hF16775.2.1 238 (by decide)).trans ((hF16707.2.1 238 (by decide)).trans ((gA_sA_ne (by decide)).trans (gA_sA_ne (by decide)))))) (((hF16775.2.1 239 (by decide)).trans ((hF16707.2.1 239 (by decide)).trans ((gA_sA_ne (by decide)).trans (gA_sA_ne (by decide))))))) (by omega)) (EXPR.same x1) (by show _ ≤ (gI _ 231 17).toInt; omega)) (SAME.c hI16845 ((gA_sA_ne (by decide))) ((gA_sA_ne (by decide)))) (Int.le_refl _))) (EXPR.code x0 (show SAME g16617 _ (gI g16617 231 17).toInt from (SAME.tr (SAME.tr (SAME.c hI16774 (((hF16775.2.1 238 (by decide)).trans ((hF16707.2.1 238 (by decide)).trans ((gA_sA_ne (by decide)).trans (gA_sA_ne (by decide)))))) (((hF16775.2.1 239 (by decide)).trans ((hF16707.2.1 239 (by decide)).trans ((gA_sA_ne (by decide)).trans (gA_sA_ne (by decide))))))) (EXPR.same x1) (by show _ ≤ (gI _ 231 17).toInt; omega)) (SAME.c hI16845 ((gA_sA_ne (by decide))) ((gA_sA_ne (by decide)))) (Int.le_refl _))) (by show _ = (gI _ 231 17).toInt; omega) (by show _ = (gI _ 231 17).toInt; omega) (by show 0 ≤ (gI _ 231 17).toInt; omega)) (EXPR.code x1 (show SAME g16808 _ (gI g16808 231 17).toInt from (SAME.c hI16845 ((gA_sA_ne (by decide))) ((gA_sA_ne (by decide))))) (by show _ = (gI _ 231 17).toInt; omega) (by show _ = (gI _ 231 17).toInt; omega) (by show 0 ≤ (gI _ 231 17).toInt; omega))⟩), (TKM.c hK16840 ((gA_sA_ne (by decide))) ((gI_sW)) ((gI_sW)) ((gI_sW)) ((gI_sW)) ((gJ_sW))), (fun c0 h => by have h1 := CLM.headH hI16405 h (show (gI g0 231 14).toInt = 0 from by omega) (by rw [(pI.ci hI16405 (((gI_sW).trans ((gI_sI_ne (by decide)).trans ((gI_sW).trans (q16394.1 231 9 (by decide)))))))]; exact (MUSTP.tok hK mu16036 (show (gI g0 231 14).toInt = 0 from by omega) (by omega))) (by omega) (show (gI g0 231 15).toInt < 12 from by omega) (pI.ci hI16405 (((gI_sW).trans ((gI_sI_ne (by decide)).trans ((gI_sW).trans ((q16394.1 231 20 (by decide)).trans ((hF16004.1 231 20 (by decide)).trans (q15375.1 231 20 (by decide))))))))) (show (gI _ 231 15).toInt = (gI g0 231 15).toInt + 1 from by omega) (show (gI _ 231 13).toInt = (gI g0 231 13).toInt from by omega); have h2 := CLM.sum (c16648.2.1 3 (Or.inl ⟨rfl, rfl⟩)) (TM.c (((gA_sA_ne (by decide)).trans ((gA_sI).trans ((gA_sA_ne (by decide)).trans ((q16394.2.1 236 (by decide)).trans ((hF16004.2.1 236 (by decide)).trans (q15375.2.1 236 (by decide))))))))) (nM.c (((gI_sW).trans ((gI_sI_ne (by decide)).trans ((gI_sW).trans ((q16394.1 231 8 (by decide)).trans ((hF16004.1 231 8 (by decide)).trans (q15375.1 231 8 (by decide))))))))) h1; have h3 := CLM.eqvH hI16706 h2 (pI.ci hI16706 (((hF16707.1 231 9 (by decide)).trans ((gI_sW).trans (gI_sW))))) (pI.ci hI16706 (((hF16707.1 231 13 (by decide)).trans ((gI_sW).trans (gI_sW))))) (pI.ci hI16706 (((hF16707.1 231 14 (by decide)).trans ((gI_sW).trans (gI_sW))))) (pI.ci hI16706 (((hF16707.1 231 15 (by decide)).trans ((gI_sW).trans (gI_sW))))) (pI.ci hI16706 (((hF16707.1 231 20 (by decide)).trans ((gI_sW).trans (gI_sW))))); have h4 := CLM.ifs (g' := g16773) h3 (show (gI _ 231 14).toInt = 0 from by omega) (by rw [(pI.ci hI16706 (((hF16707.1 231 9 (by decide)).trans ((gI_sW).trans (gI_sW)))))]; exact tok16795) (by omega) (pI.c (hF16775.1 231 20 (by decide))) (pI.c (hF16775.1 231 15 (by decide))) (pI.c (hF16775.1 231 13 (by decide))); have h5 := CLM.test (c16839.2.1 4 (Or.inr ⟨rfl, by decide⟩)) (TM.c (((hF16775.2.1 236 (by decide)).trans ((hF16707.2.1 236 (by decide)).trans ((gA_sA_ne (by decide)).trans ((gA_sA_ne (by decide)).trans ((hF16619.2.1 236 (by decide)).trans ((gA_sA_ne (by decide)).trans ((gA_sI).trans ((gA_sA_ne (by decide)).trans ((q16394.2.1 236 (by decide)).trans ((hF16004.2.1 236 (by decide)).trans (q15375.2.1 236 (by decide)))))))))))))) (nM.c (((hF16775.1 231 8 (by decide)).trans ((hF16707.1 231 8 (by decide)).trans ((gI_sW).trans ((gI_sW).trans ((hF16619.1 231 8 (by decide)).trans ((gI_sW).trans ((gI_sI_ne (by decide)).trans ((gI_sW).trans ((q16394.1 231 8 (by decide)).trans ((hF16004.1 231 8 (by decide)).trans (q15375.1 231 8 (by decide)))))))))))))) h4; exact CLM.eqv h5 (pI.ci hI16845 ((gI_sW))) (pI.ci hI16845 ((gI_sW))) (pI.ci hI16845 ((gI_sW))) (pI.ci hI16845 ((gI_sW))) (pI.ci hI16845 ((gI_sW)))), (fun h14 => ⟨fun n45 => N45_sH n45 (show (gI _ 231 15).toInt = (gI g0 231 15).toInt + 1 from by omega) (fun i i0 i1 => ((eA_sA_ne (i := i) hI16809.1 ka_237 (by omega) (by omega) (by omega)).trans ((eA_c (hF16810.2.1 237 (by decide))).trans ((eA_c (hF16775.2.1 237 (by decide))).trans ((eA_c (hF16707.2.1 237 (by decide))).trans ((eA_sA_ne (i := i) hI16654.1 ka_237 (by omega) (by omega) (by omega)).trans ((eA_sA_ne (i := i) hI16618.1 ka_237 (by omega) (by omega) (by omega)).trans ((eA_c (hF16619.2.1 237 (by decide))).trans ((eA_sA_ne (i := i) hI16402.1 ka_237 (by omega) (by omega) (by omega)).trans ((eA_c gA_sI).trans ((eA_sA_ne (i := i) hI16384.1 ka_237 (by omega) (by omega) (by omega)).trans ((q16395 i i0 (by omega)).trans ((eA_c (hF16004.2.1 237 (by decide))).trans (eA_c (q15375.2.1 237 (by decide)))))))))))))))) (by show (eA _ 237 (8 * (gI g0 231 15).toInt + 4)).toInt = (gI g16617 231 17).toInt; rw [show 8 * (gI g0 231 15).toInt + 4 = (8 * v6.toInt + 4) by omega]; exact (congrArg Int32.toInt (((eA_sA_ne hI16809.1 ka_237 (by first | decide | omega) (by first | decide | omega) (by first | decide | omega)).trans ((eA_c (hF16810.2.1 237 (by decide))).trans ((eA_c (hF16775.2.1 237 (by decide))).trans ((eA_c (hF16707.2.1 237 (by decide))).trans ((eA_sA_ne hI16654.1 ka_237 (by first | decide | omega) (by first | decide | omega) (by first | decide | omega)).trans (eA_sA_eq hI16618.1 ka_237 (by first | rfl | omega) (by first | decide | omega) (by first | decide | omega))))))))).trans (by omega)) (by show (eA _ 237 (8 * (gI g0 231 15).toInt + 5)).toInt = (gI g16617 231 17).toInt; rw [show 8 * (gI g0 231 15).toInt + 5 = (8 * v6.toInt + 5) by omega]; exact (congrArg Int32.toInt (((eA_sA_ne hI16809.1 ka_237 (by first | decide | omega) (by first | decide | omega) (by first | decide | omega)).trans ((eA_c (hF16810.2.1 237 (by decide))).trans ((eA_c (hF16775.2.1 237 (by decide))).trans ((eA_c (hF16707.2.1 237 (by decide))).trans (eA_sA_eq hI16654.1 ka_237 (by first | rfl | omega) (by first | decide | omega) (by first | decide | omega)))))))).trans (by omega)), fun c0 h => by have hz : (gI _ 231 14).toInt = 0 := h14; have h1 := RGM_headH hI16405 h (TOK_at hI16405 (MUSTP.tok hK mu16036 (show (gI g0 231 14).toInt = 0 from by omega) (by omega)) (pI.c (((gI_sW).trans ((gI_sI_ne (by decide)).trans ((gI_sW).trans (q16394.1 231 9 (by decide)))))))) (by omega) (SMG_mk (((gA_sA_ne (by decide)).trans ((gA_sI).trans ((gA_sA_ne (by decide)).trans ((q16394.2.1 238 (by decide)).trans ((hF16004.2.1 238 (by decide)).trans (q15375.2.1 238 (by decide)))))))) (((gA_sA_ne (by decide)).trans ((gA_sI).trans ((gA_sA_ne (by decide)).trans ((q16394.2.1 239 (by decide)).trans ((hF16004.2.1 239 (by decide)).trans (q15375.2.1 239 (by decide)))))))) (((gI_sW).trans ((gI_sI_ne (by decide)).trans ((gI_sW).trans ((q16394.1 231 17 (by decide)).trans ((hF16004.1 231 17 (by decide)).trans (q15375.1 231 17 (by decide))))))))); have h2 := XPG_sum c16648.2.2 (show (gI g16617 231 14).toInt = 0 from by omega) (TM.c (((gA_sA_ne (by decide)).trans ((gA_sI).trans ((gA_sA_ne (by decide)).trans ((q16394.2.1 236 (by decide)).trans ((hF16004.2.1 236 (by decide)).trans (q15375.2.1 236 (by decide))))))))) (nM.c (((gI_sW).trans ((gI_sI_ne (by decide)).trans ((gI_sW).trans ((q16394.1 231 8 (by decide)).trans ((hF16004.1 231 8 (by decide)).trans (q15375.1 231 8 (by decide))))))))) h1; have h3 := RGM_eqH hI16706 h2 (SMG_mk (((hF16707.2.1 238 (by decide)).trans ((gA_sA_ne (by decide)).trans (gA_sA_ne (by decide))))) (((hF16707.2.1 239 (by decide)).trans ((gA_sA_ne (by decide)).trans (gA_sA_ne (by decide))))) (((hF16707.1 231 17 (by decide)).trans ((gI_sW).trans (gI_sW))))) (pI.c (((hF16707.1 231 9 (by decide)).trans ((gI_sW).trans (gI_sW))))); have h4 := RGM_if (g' := g16773) h3 (TOK_fr hI16706 tok16795 (pI.c (((hF16707.1 231 9 (by decide)).trans ((gI_sW).trans (gI_sW)))))) (by omega) (SMG_mk (hF16775.2.1 238 (by decide)) (hF16775.2.1 239 (by decide)) (hF16775.1 231 17 (by decide))); have h5 := RGM_eqH hI16774 h4 SMG_rf rfl; have h6 := XPG_test c16839.2.2 rfl (show (gI g16808 231 14).toInt = 0 from by omega) (TM.c (((hF16775.2.1 236 (by decide)).trans ((hF16707.2.1 236 (by decide)).trans ((gA_sA_ne (by decide)).trans ((gA_sA_ne (by decide)).trans ((hF16619.2.1 236 (by decide)).trans ((gA_sA_ne (by decide)).trans ((gA_sI).trans ((gA_sA_ne (by decide)).trans ((q16394.2.1 236 (by decide)).trans ((hF16004.2.1 236 (by decide)).trans (q15375.2.1 236 (by decide)))))))))))))) (nM.c (((hF16775.1 231 8 (by decide)).trans ((hF16707.1 231 8 (by decide)).trans ((gI_sW).trans ((gI_sW).trans ((hF16619.1 231 8 (by decide)).trans ((gI_sW).trans ((gI_sI_ne (by decide)).trans ((gI_sW).trans ((q16394.1 231 8 (by decide)).trans ((hF16004.1 231 8 (by decide)).trans (q15375.1 231 8 (by decide)))))))))))))) h5; have h7 := RGM_eqH hI16845 h6 (SMG_mk ((gA_sA_ne (by decide))) ((gA_sA_ne (by decide))) ((gI_sW))) (pI.c ((gI_sW))); rw [KLG_sH hI16845 (show 0 ≤ (gI g0 231 15).toInt from by omega) (show (gI _ 231 15).toInt = (gI g0 231 15).toInt + 1 from by omega) (fun i i0 i1 => ((eA_sA_ne (i := i) hI16809.1 ka_237 (by omega) (by omega) (by omega)).trans ((eA_c (hF16810.2.1 237 (by decide))).trans ((eA_c (hF16775.2.1 237 (by decide))).trans ((eA_c (hF16707.2.1 237 (by decide))).trans ((eA_sA_ne (i := i) hI16654.1 ka_237 (by omega) (by omega) (by omega)).trans ((eA_sA_ne (i := i) hI16618.1 ka_237 (by omega) (by omega) (by omega)).trans ((eA_c (hF16619.2.1 237 (by decide))).trans ((eA_sA_ne (i := i) hI16402.1 ka_237 (by omega) (by omega) (by omega)).trans ((eA_c gA_sI).trans ((eA_sA_ne (i := i) hI16384.1 ka_237 (by omega) (by omega) (by omega)).trans ((q16395 i i0 (by omega)).trans ((eA_c (hF16004.2.1 237 (by decide))).trans (eA_c (q15375.2.1 237 (by decide)))))))))))))))) (by show (eA _ 237 (8 * (gI g0 231 15).toInt)).toInt = CDM g0 - 11; rw [show 8 * (gI g0 231 15).toInt = (8 * v6.toInt) by omega]; exact (congrArg Int32.toInt (((eA_sA_ne hI16809.1 ka_237 (by first | decide | omega) (by first | decide | omega) (by first | decide | omega)).trans ((eA_c (hF16810.2.1 237 (by decide))).trans ((eA_c (hF16775.2.1 237 (by decide))).trans ((eA_c (hF16707.2.1 237 (by decide))).trans ((eA_sA_ne hI16654.1 ka_237 (by first | decide | omega) (by first | decide | omega) (by first | decide | omega)).trans ((eA_sA_ne hI16618.1 ka_237 (by first | decide | omega) (by first | decide | omega) (by first | decide | omega)).trans ((eA_c (hF16619.2.1 237 (by decide))).trans ((eA_sA_ne hI16402.1 ka_237 (by first | decide | omega) (by first | decide | omega) (by first | decide | omega)).trans ((eA_c gA_sI).trans (eA_sA_eq hI16384.1 ka_237 (by first | rfl | omega) (by first | decide | omega) (by first | decide | omega))))))))))))).trans (by omega)) (by show (eA _ 237 (8 * (gI g0 231 15).toInt + 3)).toInt = (gI g0 231 17).toInt; rw [show 8 * (gI g0 231 15).toInt + 3 = (8 * v6.toInt + 3) by omega]; exact (congrArg Int32.toInt (((eA_sA_ne hI16809.1 ka_237 (by first | decide | omega) (by first | decide | omega) (by first | decide | omega)).trans ((eA_c (hF16810.2.1 237 (by decide))).trans ((eA_c (hF16775.2.1 237 (by decide))).trans ((eA_c (hF16707.2.1 237 (by decide))).trans ((eA_sA_ne hI16654.1 ka_237 (by first | decide | omega) (by first | decide | omega) (by first | decide | omega)).trans ((eA_sA_ne hI16618.1 ka_237 (by first | decide | omega) (by first | decide | omega) (by first | decide | omega)).trans ((eA_c (hF16619.2.1 237 (by decide))).trans (eA_sA_eq hI16402.1 ka_237 (by first | rfl | omega) (by first | decide | omega) (by first | decide | omega))))))))))).trans (by omega)) (by show (eA _ 237 (8 * (gI g0 231 15).toInt + 4)).toInt = (gI g16617 231 17).toInt; rw [show 8 * (gI g0 231 15).toInt + 4 = (8 * v6.toInt + 4) by omega]; exact (congrArg Int32.toInt (((eA_sA_ne hI16809.1 ka_237 (by first | decide | omega) (by first | decide | omega) (by first | decide | omega)).trans ((eA_c (hF16810.2.1 237 (by decide))).trans ((eA_c (hF16775.2.1 237 (by decide))).trans ((eA_c (hF16707.2.1 237 (by decide))).trans ((eA_sA_ne hI16654.1 ka_237 (by first | decide | omega) (by first | decide | omega) (by first | decide | omega)).trans (eA_sA_eq hI16618.1 ka_237 (by first | rfl | omega) (by first | decide | omega) (by first | decide | omega))))))))).trans (by omega)) (by show (eA _ 237 (8 * (gI g0 231 15).toInt + 6)).toInt = (gI g16808 231 17).toInt; rw [show 8 * (gI g0 231 15).toInt + 6 = (8 * v6.toInt + 6) by omega]; exact (congrArg Int32.toInt ((eA_sA_eq hI16809.1 ka_237 (by first | rfl | omega) (by first | decide | omega) (by first | decide | omega)))).trans (by omega))]; exact h7⟩)⟩⟩
          · have c16398_ : x16382.toInt < 8 := en_i_ge_f c16398
            refine At.enter rfl ?_
            refine r_aload_n e16389 ?_
            refine q_getR (Sh.ref hI16384.1 kx_231 rfl) ?_
            refine r_iload_n e16391 ?_
            refine r_iload_n e16392 ?_
            refine q_iadd (v16044.toInt + x16382.toInt) rfl (by omega) (fun v16890 hv16890 => ?_)
            refine r_iconst 0 rfl ?_
            refine q_iast (Sh.arr hI16384.1 ka_237) ((8 * v6.toInt + x16382.toInt)) (by omega) (by omega) ?_
            have hI16891 := HI.wA0 hI16384 ka_237 (p := 237) rfl rfl ((8 * v6.toInt + x16382.toInt)) (0)
            have hF16892 := Fr.wA (p := 237) (j := (8 * v6.toInt + x16382.toInt)) (v := 0) hF16385 rfl
            refine q_iinc e16392 (x16382.toInt + 1) rfl (by omega) (fun v16893 hv16893 => ?_)
            refine r_goto ?_
            exact ih16388 (8 - v16893.toInt) _ _ ⟨v16893, by first | rfl | omega, hI16891, hF16892, (w_p1 (by decide) (Or.inr rfl) e16389), (w_p1 (by decide) (Or.inr rfl) e16390), (w_p1 (by decide) (Or.inr rfl) e16391), (w_e1 _ _ _), by omega, (Fr.wA (p := 237) q16394 rfl), (fun i i0 i1 => (eA_sA_ne (i := i) hI16384.1 ka_237 (by omega) (by omega) (by omega)).trans (q16395 i i0 i1))⟩ ⟨by omega, by omega⟩
        · have c16038_ : v16021.toInt ≠ 0 := en_k_eq_f c16038
          clear c16029
          have i16894 := MUSTP.w mu16036 (by omega)
          refine At.enter rfl ?_
          refine r_vret ?_
          have x16900 := HI.eqI hI16003 (p := 231) (b := 15) ((((hF16004.1 231 15 (by decide)).trans (q15375.1 231 15 (by decide))).trans hv6))
          have x16901 := HI.eqI hI16003 (p := 231) (b := 17) ((((hF16004.1 231 17 (by decide)).trans (q15375.1 231 17 (by decide))).trans hv7))
          have x16902 := HI.eqI hI0 (p := 231) (b := 8) (hv1)
          have x16903 := HI.eqI hI0 (p := 231) (b := 9) (hv2)
          have x16904 := HI.eqI hI0 (p := 231) (b := 10) (hv3)
          have x16905 := HI.eqI hI0 (p := 231) (b := 11) (hv4)
          have x16906 := HI.eqI hI0 (p := 231) (b := 14) (hv5)
          have x16907 := HI.eqI hI0 (p := 231) (b := 15) (hv6)
          have x16908 := HI.eqI hI0 (p := 231) (b := 17) (hv7)
          obtain ⟨v16913, hv16913⟩ : ∃ v, gI g0 231 20 = v := ⟨_, rfl⟩
          have tv16913 := congrArg Int32.toInt hv16913
          have x16914 := HI.eqI hI16003 (p := 231) (b := 20) ((((hF16004.1 231 20 (by decide)).trans (q15375.1 231 20 (by decide))).trans hv16913))
          have x16916 := HI.eqI hI0 (p := 231) (b := 13) (hv16031)
          have x16919 := HI.eqI hI0 (p := 231) (b := 20) (hv16913)
          have hh := q15376
          unfold HEI at hh
          have mf16920 := mu16036.2.2.1 (show (gI g0 231 14).toInt = 0 from by omega) (by omega)
          have y16921 : (gI _ 231 14).toInt ≠ 0 := mf16920.1
          have y16922 : (gI _ 231 13).toInt = (gI g0 231 9).toInt := mf16920.2
          exact ⟨_, rfl, hI16003, hF16007, rfl, ⟨by omega, by omega, by omega, by omega, c16028, by omega, (fun hbad => False.elim (by omega)), hK16037, (fun c0 h => CLM.headF h (show (gI g0 231 14).toInt = 0 from by omega) (TKM.some hK).choose_spec (fun z => by have z1 := z.1; have z2 : (gI g0 231 15).toInt < 12 := z.2; omega) (show (gI _ 231 14).toInt ≠ 0 from by omega) (show (gI _ 231 13).toInt = (gI g0 231 9).toInt from by omega) _), (fun h14 => absurd (show (gI _ 231 14).toInt = 0 from h14) (by omega))⟩⟩
      · have c15995_ : v6.toInt < 12 := en_i_ge_f c15995
        refine At.enter rfl ?_
        refine r_iconst 1 rfl ?_
        refine r_goto ?_
        refine At.enter rfl ?_
        have x16923 := HI.eqI hI15365 (p := 231) (b := 8) (((q15375.1 231 8 (by decide)).trans hv1))
        have x16924 := HI.eqI hI15365 (p := 231) (b := 9) (((q15375.1 231 9 (by decide)).trans hv2))
        have x16925 := HI.eqI hI15365 (p := 231) (b := 10) (((q15375.1 231 10 (by decide)).trans hv3))
        have x16926 := HI.eqI hI15365 (p := 231) (b := 11) (((q15375.1 231 11 (by decide)).trans hv4))
        have w2616927 := W26.cong hW hI15365 ((q15375.1 231 9 (by decide))) ((q15375.1 231 10 (by decide))) ((q15375.1 231 11 (by decide))) ((q15375.2.2 231 12 (by decide)))
        have zv16928 : (1 : Int32).toInt = 1 := rfl
        refine r_callV 57 rfl [.ref 231, .int 1] [] (Nat.le_of_ble_eq_true rfl) rfl (T_X11_must_231 _ hI15365 1 (by decide) (by refine ⟨?_, ?_, ?_, ?_⟩ <;> omega) w2616927 (TKM.c hK ((q15375.2.1 236 (by decide))) ((q15375.1 231 8 (by decide))) ((q15375.1 231 9 (by decide))) ((q15375.1 231 10 (by decide))) ((q15375.1 231 11 (by decide))) ((q15375.2.2 231 12 (by decide))))) ?_
        rintro _ _ ⟨g16929, rfl, hI16930, hF16931, rfl, hr16933⟩
        refine At.stn ?_
        have hF16934 := Fr.tr hF15366 hF16931 rfl rfl
        have x16940 := HI.eqI hI15365 (p := 231) (b := 14) (((q15375.1 231 14 (by decide)).trans hv5))
        have x16941 := HI.eqI hI16930 (p := 231) (b := 8) ((((hF16931.1 231 8 (by decide)).trans (q15375.1 231 8 (by decide))).trans hv1))
        obtain ⟨v16942, hv16942⟩ : ∃ v, gI g16929 231 9 = v := ⟨_, rfl⟩
        have rv16942 := RgF.at hI16930.2.1 (p := 231) (b := 9) rfl
        rw [hv16942] at rv16942
        dsimp only at rv16942
        have tv16942 := congrArg Int32.toInt hv16942
        have x16943 := HI.eqI hI16930 (p := 231) (b := 9) (hv16942)
        obtain ⟨v16944, hv16944⟩ : ∃ v, gI g16929 231 10 = v := ⟨_, rfl⟩
        have rv16944 := RgF.at hI16930.2.1 (p := 231) (b := 10) rfl
        rw [hv16944] at rv16944
        dsimp only at rv16944
        have tv16944 := congrArg Int32.toInt hv16944
        have x16945 := HI.eqI hI16930 (p := 231) (b := 10) (hv16944)
        obtain ⟨v16946, hv16946⟩ : ∃ v, gI g16929 231 11 = v := ⟨_, rfl⟩
        have tv16946 := congrArg Int32.toInt hv16946
        have x16947 := HI.eqI hI16930 (p := 231) (b := 11) (hv16946)
        obtain ⟨v16948, hv16948⟩ : ∃ v, gI g16929 231 14 = v := ⟨_, rfl⟩
        have tv16948 := congrArg Int32.toInt hv16948
        have x16949 := HI.eqI hI16930 (p := 231) (b := 14) (hv16948)
        obtain ⟨c16950, c16951, c16952, c16953, c16954, c16955, c16956, c16957⟩ := hr16933
        obtain ⟨v16958, hv16958⟩ : ∃ v, gI g0 231 13 = v := ⟨_, rfl⟩
        have tv16958 := congrArg Int32.toInt hv16958
        have x16959 := HI.eqI hI15365 (p := 231) (b := 13) (((q15375.1 231 13 (by decide)).trans hv16958))
        obtain ⟨v16961, hv16961⟩ : ∃ v, gI g16929 231 13 = v := ⟨_, rfl⟩
        have tv16961 := congrArg Int32.toInt hv16961
        have x16962 := HI.eqI hI16930 (p := 231) (b := 13) (hv16961)
        unfold MUSTP at c16957
        rw [TM.c ((q15375.2.1 236 (by decide))), nM.c ((q15375.1 231 8 (by decide))), pI.c (b := 14) ((q15375.1 231 14 (by decide))), pI.c (b := 13) ((q15375.1 231 13 (by decide))), pI.c (b := 10) ((q15375.1 231 10 (by decide))), pI.c (b := 9) ((q15375.1 231 9 (by decide)))] at c16957
        have mu16963 : MUSTP g0 g16929 1 := c16957
        clear c16957
        have hK16964 := mu16963.1
        refine At.enter rfl ?_
        refine r_aload_n e15370 ?_
        refine q_getI (Sh.int hI16930.1 kx_231 rfl) v16948 hv16948 ?_
        refine r_ifs 64 rfl (fun c16965 => ?_) (fun c16965 => ?_)
        · have c16965_ : v16948.toInt = 0 := en_k_eq_t c16965
          obtain ⟨i16966, i16967, i16968⟩ := c16956 (by omega)
          obtain ⟨i16969, i16970⟩ := MUSTP.z mu16963 (by omega) (by omega)
          refine At.enter rfl ?_
          refine r_bipush 8 rfl ?_
          refine r_aload_n e15370 ?_
          refine q_getI (Sh.int hI16930.1 kx_231 rfl) v6 (((hF16931.1 231 15 (by decide)).trans (q15375.1 231 15 (by decide))).trans hv6) ?_
          refine q_imul (8 * v6.toInt) rfl (by omega) (fun v16971 hv16971 => ?_)
          refine r_istore_n _ rfl ?_
          refine r_iconst 0 rfl ?_
          refine r_istore_n _ rfl ?_
          refine Ar.fall 75 rfl ?_
          refine w_loopI (fun n_ l_ g_ => ∃ x17309 : Int32, n_ = 8 - x17309.toInt ∧ HI g_ ∧ Fr F_X11_readClause_231 A_X11_readClause_231 g0 g_ ∧ en_get 0 l_ = some (.ref 231) ∧ en_get 1 l_ = some (.int x15362) ∧ en_get 2 l_ = some (.int v16971) ∧ en_get 3 l_ = some (.int x17309) ∧ (0 ≤ x17309.toInt ∧ x17309.toInt ≤ 8) ∧ (Fr [] [237] g16929 g_) ∧ (∀ i : Int, 0 ≤ i → i < v16971.toInt → eA g_ 237 i = eA g16929 237 i)) ?_ (8 - 0) ⟨0, by first | rfl | omega, hI16930, hF16934, (w_p1 (by decide) (Or.inr rfl) (w_p1 (by decide) (Or.inr rfl) e15370)), (w_p1 (by decide) (Or.inr rfl) (w_p1 (by decide) (Or.inr rfl) e15371)), (w_p1 (by decide) (Or.inr rfl) (w_e1 _ _ _)), (w_e1 _ _ _), by decide, Fr.rf, (fun i i0 i1 => rfl)⟩
          rintro n17314 l17313 g17310 ⟨x17309, hm17324, hI17311, hF17312, e17316, e17317, e17318, e17319, r17320, q17321, q17322⟩ ih17315
          refine At.enter rfl ?_
          refine r_iload_n e17319 ?_
          refine r_bipush 8 rfl ?_
          refine r_ics 81 rfl (fun c17325 => ?_) (fun c17325 => ?_)
          · have c17325_ : x17309.toInt ≥ 8 := en_i_ge_t c17325
            refine At.enter rfl ?_
            refine r_aload_n e17316 ?_
            refine q_getR (Sh.ref hI17311.1 kx_231 rfl) ?_
            refine r_iload_n e17318 ?_
            refine r_iload_n e17317 ?_
            refine q_iast (Sh.arr hI17311.1 ka_237) ((8 * v6.toInt)) (by omega) (by omega) ?_
            have hI17326 := HI.wA0 hI17311 ka_237 (p := 237) rfl rfl ((8 * v6.toInt)) (x15362)
            have hF17327 := Fr.wA (p := 237) (j := (8 * v6.toInt)) (v := x15362) hF17312 rfl
            refine r_aload_n e17316 ?_
            refine r_dup rfl ?_
            refine q_getI (Sh.int hI17326.1 kx_231 rfl) v6 (((gI_sW).trans ((q17321.1 231 15 (by decide)).trans ((hF16931.1 231 15 (by decide)).trans (q15375.1 231 15 (by decide))))).trans hv6) ?_
            refine r_iconst 1 rfl ?_
            refine q_iadd (v6.toInt + 1) rfl (by omega) (fun v17328 hv17328 => ?_)
            refine q_putI (Sh.int hI17326.1 kx_231 rfl) rfl ?_
            have hI17329 := HI.wI1 hI17326 kx_231 rfl (p := 231) (b := 15) (v := v17328) rfl (by dsimp only; omega)
            have hF17330 := Fr.wI (p := 231) (b := 15) (v := v17328) hF17327 rfl
            refine r_aload_n e17316 ?_
            refine q_getR (Sh.ref hI17329.1 kx_231 rfl) ?_
            refine r_iload_n e17318 ?_
            refine r_iconst 3 rfl ?_
            refine q_iadd (v16971.toInt + 3) rfl (by omega) (fun v17331 hv17331 => ?_)
            refine r_aload_n e17316 ?_
            refine q_getI (Sh.int hI17329.1 kx_231 rfl) v7 (((gI_sI_ne (by decide)).trans ((gI_sW).trans ((q17321.1 231 17 (by decide)).trans ((hF16931.1 231 17 (by decide)).trans (q15375.1 231 17 (by decide)))))).trans hv7) ?_
            refine q_iast (Sh.arr hI17329.1 ka_237) ((8 * v6.toInt + 3)) (by omega) (by omega) ?_
            have hI17332 := HI.wA0 hI17329 ka_237 (p := 237) rfl rfl ((8 * v6.toInt + 3)) (v7)
            have hF17333 := Fr.wA (p := 237) (j := (8 * v6.toInt + 3)) (v := v7) hF17330 rfl
            refine r_iload_n e17317 ?_
            refine r_iconst 2 rfl ?_
            refine r_ics 130 rfl (fun c17334 => ?_) (fun c17334 => ?_)
            · have c17334_ : x15362.toInt ≥ 2 := en_i_ge_t c17334
              refine At.enter rfl ?_
              refine r_aload_n e17316 ?_
              refine q_getR (Sh.ref hI17332.1 kx_231 rfl) ?_
              refine r_iload_n e17318 ?_
              refine r_iconst 4 rfl ?_
              refine q_iadd (v16971.toInt + 4) rfl (by omega) (fun v17335 hv17335 => ?_)
              refine r_aload_n e17316 ?_
              refine q_getI (Sh.int hI17332.1 kx_231 rfl) v7 (((gI_sW).trans ((gI_sI_ne (by decide)).trans ((gI_sW).trans ((q17321.1 231 17 (by decide)).trans ((hF16931.1 231 17 (by decide)).trans (q15375.1 231 17 (by decide))))))).trans hv7) ?_
              refine q_iast (Sh.arr hI17332.1 ka_237) ((8 * v6.toInt + 4)) (by omega) (by omega) ?_
              have hI17336 := HI.wA0 hI17332 ka_237 (p := 237) rfl rfl ((8 * v6.toInt + 4)) (v7)
              have hF17337 := Fr.wA (p := 237) (j := (8 * v6.toInt + 4)) (v := v7) hF17333 rfl
              refine r_aload_n e17316 ?_
              refine q_getR (Sh.ref hI17336.1 kx_231 rfl) ?_
              refine r_iload_n e17318 ?_
              refine r_iconst 5 rfl ?_
              refine q_iadd (v16971.toInt + 5) rfl (by omega) (fun v17338 hv17338 => ?_)
              refine r_aload_n e17316 ?_
              refine q_getI (Sh.int hI17336.1 kx_231 rfl) v7 (((gI_sW).trans ((gI_sW).trans ((gI_sI_ne (by decide)).trans ((gI_sW).trans ((q17321.1 231 17 (by decide)).trans ((hF16931.1 231 17 (by decide)).trans (q15375.1 231 17 (by decide)))))))).trans hv7) ?_
              refine q_iast (Sh.arr hI17336.1 ka_237) ((8 * v6.toInt + 5)) (by omega) (by omega) ?_
              have hI17339 := HI.wA0 hI17336 ka_237 (p := 237) rfl rfl ((8 * v6.toInt + 5)) (v7)
              have hF17340 := Fr.wA (p := 237) (j := (8 * v6.toInt + 5)) (v := v7) hF17337 rfl
              refine r_aload_n e17316 ?_
              refine q_getI (Sh.int hI17339.1 kx_231 rfl) v16948 (((gI_sW).trans ((gI_sW).trans ((gI_sW).trans ((gI_sI_ne (by decide)).trans ((gI_sW).trans (q17321.1 231 14 (by decide))))))).trans hv16948) ?_
              refine r_ifs 166 rfl (fun c17341 => ?_) (fun c17341 => ?_)
              · have c17341_ : v16948.toInt ≠ 0 := en_k_ne_t c17341
                clear c16956
                have i17342 := MUSTP.w mu16963 (by omega)
                exfalso; omega
              · have c17341_ : v16948.toInt = 0 := en_k_ne_f c17341
                obtain ⟨i17343, i17344, i17345⟩ := c16956 (by omega)
                obtain ⟨i17346, i17347⟩ := MUSTP.z mu16963 (by omega) (by omega)
                refine At.enter rfl ?_
                refine r_aload_n e17316 ?_
                refine r_ldc2 294 rfl ?_
                have x17348 := HI.eqI hI17339 (p := 231) (b := 11) ((((gI_sW).trans ((gI_sW).trans ((gI_sW).trans ((gI_sI_ne (by decide)).trans ((gI_sW).trans (q17321.1 231 11 (by decide))))))).trans hv16946))
                have zv17349 : (294 : Int64).toInt = 294 := rfl
                refine r_callV 173 rfl [.ref 231, .long 294] [] (Nat.le_of_ble_eq_true rfl) rfl (T_X11_isWord_231 _ hI17339 294 (by omega)) ?_
                rintro _ _ ⟨g17350, rfl, hI17351, hF17352, v17353, rfl, hr17354⟩
                refine At.sti ?_
                have hF17355 := Fr.tr hF17340 hF17352 rfl rfl
                have x17357 := HI.eqI hI17339 (p := 231) (b := 9) ((((gI_sW).trans ((gI_sW).trans ((gI_sW).trans ((gI_sI_ne (by decide)).trans ((gI_sW).trans (q17321.1 231 9 (by decide))))))).trans hv16942))
                have x17358 := HI.eqI hI17339 (p := 231) (b := 10) ((((gI_sW).trans ((gI_sW).trans ((gI_sW).trans ((gI_sI_ne (by decide)).trans ((gI_sW).trans (q17321.1 231 10 (by decide))))))).trans hv16944))
                have x17360 := HI.eqI hI17351 (p := 231) (b := 9) ((((hF17352.1 231 9 (by decide)).trans ((gI_sW).trans ((gI_sW).trans ((gI_sW).trans ((gI_sI_ne (by decide)).trans ((gI_sW).trans (q17321.1 231 9 (by decide)))))))).trans hv16942))
                have x17361 := HI.eqI hI17351 (p := 231) (b := 10) ((((hF17352.1 231 10 (by decide)).trans ((gI_sW).trans ((gI_sW).trans ((gI_sW).trans ((gI_sI_ne (by decide)).trans ((gI_sW).trans (q17321.1 231 10 (by decide)))))))).trans hv16944))
                have x17362 := HI.eqI hI17351 (p := 231) (b := 11) ((((hF17352.1 231 11 (by decide)).trans ((gI_sW).trans ((gI_sW).trans ((gI_sW).trans ((gI_sI_ne (by decide)).trans ((gI_sW).trans (q17321.1 231 11 (by decide)))))))).trans hv16946))
                obtain ⟨c17366, c17363, isw17364, ib17365⟩ := hr17354
                have w2617367 := W26.cong c16955 hI17339 (((gI_sW).trans ((gI_sW).trans ((gI_sW).trans ((gI_sI_ne (by decide)).trans ((gI_sW).trans (q17321.1 231 9 (by decide)))))))) (((gI_sW).trans ((gI_sW).trans ((gI_sW).trans ((gI_sI_ne (by decide)).trans ((gI_sW).trans (q17321.1 231 10 (by decide)))))))) (((gI_sW).trans ((gI_sW).trans ((gI_sW).trans ((gI_sI_ne (by decide)).trans ((gI_sW).trans (q17321.1 231 11 (by decide)))))))) (((gJ_sW).trans ((gJ_sW).trans ((gJ_sW).trans ((gJ_sI_ne (by decide)).trans ((gJ_sW).trans (q17321.2.2 231 12 (by decide))))))))
                have hb17368 : BL (CDM g16929 = 10) v17353.toInt := by have z := ISM.word (c := 10) ib17365 (TKM.c hK16964 (((gA_sA_ne (by decide)).trans ((gA_sA_ne (by decide)).trans ((gA_sA_ne (by decide)).trans ((gA_sI).trans ((gA_sA_ne (by decide)).trans (q17321.2.1 236 (by decide)))))))) (((gI_sW).trans ((gI_sW).trans ((gI_sW).trans ((gI_sI_ne (by decide)).trans ((gI_sW).trans (q17321.1 231 8 (by decide)))))))) (((gI_sW).trans ((gI_sW).trans ((gI_sW).trans ((gI_sI_ne (by decide)).trans ((gI_sW).trans (q17321.1 231 9 (by decide)))))))) (((gI_sW).trans ((gI_sW).trans ((gI_sW).trans ((gI_sI_ne (by decide)).trans ((gI_sW).trans (q17321.1 231 10 (by decide)))))))) (((gI_sW).trans ((gI_sW).trans ((gI_sW).trans ((gI_sI_ne (by decide)).trans ((gI_sW).trans (q17321.1 231 11 (by decide)))))))) (((gJ_sW).trans ((gJ_sW).trans ((gJ_sW).trans ((gJ_sI_ne (by decide)).trans ((gJ_sW).trans (q17321.2.2 231 12 (by decide))))))))) (isWC_d (by omega)) (by decide +kernel) (by decide); rw [CDM.c (((gA_sA_ne (by decide)).trans ((gA_sA_ne (by decide)).trans ((gA_sA_ne (by decide)).trans ((gA_sI).trans ((gA_sA_ne (by decide)).trans (q17321.2.1 236 (by decide)))))))) (((gI_sW).trans ((gI_sW).trans ((gI_sW).trans ((gI_sI_ne (by decide)).trans ((gI_sW).trans (q17321.1 231 9 (by decide)))))))) (((gI_sW).trans ((gI_sW).trans ((gI_sW).trans ((gI_sI_ne (by decide)).trans ((gI_sW).trans (q17321.1 231 10 (by decide)))))))) (((gI_sW).trans ((gI_sW).trans ((gI_sW).trans ((gI_sI_ne (by decide)).trans ((gI_sW).trans (q17321.1 231 11 (by decide))))))))] at z; exact z
                refine At.enter rfl ?_
                refine r_ifs 176 rfl (fun c17369 => ?_) (fun c17369 => ?_)
                · have c17369_ : v17353.toInt = 0 := en_k_eq_t c17369
                  have i17370 := BL.no hb17368 (by omega)
                  refine At.enter rfl ?_
                  refine r_aload_n e17316 ?_
                  refine q_getR (Sh.ref hI17351.1 kx_231 rfl) ?_
                  refine r_iload_n e17318 ?_
                  refine r_bipush 6 rfl ?_
                  refine q_iadd (v16971.toInt + 6) rfl (by omega) (fun v17371 hv17371 => ?_)
                  refine r_aload_n e17316 ?_
                  refine q_getI (Sh.int hI17351.1 kx_231 rfl) v7 (((hF17352.1 231 17 (by decide)).trans ((gI_sW).trans ((gI_sW).trans ((gI_sW).trans ((gI_sI_ne (by decide)).trans ((gI_sW).trans ((q17321.1 231 17 (by decide)).trans ((hF16931.1 231 17 (by decide)).trans (q15375.1 231 17 (by decide)))))))))).trans hv7) ?_
                  refine q_iast (Sh.arr hI17351.1 ka_237) ((8 * v6.toInt + 6)) (by omega) (by omega) ?_
                  have hI17372 := HI.wA0 hI17351 ka_237 (p := 237) rfl rfl ((8 * v6.toInt + 6)) (v7)
                  have hF17373 := Fr.wA (p := 237) (j := (8 * v6.toInt + 6)) (v := v7) hF17355 rfl
                  refine r_vret ?_
                  have x17374 := HI.eqI hI17372 (p := 231) (b := 8) ((((gI_sW).trans ((hF17352.1 231 8 (by decide)).trans ((gI_sW).trans ((gI_sW).trans ((gI_sW).trans ((gI_sI_ne (by decide)).trans ((gI_sW).trans ((q17321.1 231 8 (by decide)).trans ((hF16931.1 231 8 (by decide)).trans (q15375.1 231 8 (by decide))))))))))).trans hv1))
                  have x17375 := HI.eqI hI17372 (p := 231) (b := 9) ((((gI_sW).trans ((hF17352.1 231 9 (by decide)).trans ((gI_sW).trans ((gI_sW).trans ((gI_sW).trans ((gI_sI_ne (by decide)).trans ((gI_sW).trans (q17321.1 231 9 (by decide))))))))).trans hv16942))
                  have x17376 := HI.eqI hI17372 (p := 231) (b := 10) ((((gI_sW).trans ((hF17352.1 231 10 (by decide)).trans ((gI_sW).trans ((gI_sW).trans ((gI_sW).trans ((gI_sI_ne (by decide)).trans ((gI_sW).trans (q17321.1 231 10 (by decide))))))))).trans hv16944))
                  have x17377 := HI.eqI hI17372 (p := 231) (b := 11) ((((gI_sW).trans ((hF17352.1 231 11 (by decide)).trans ((gI_sW).trans ((gI_sW).trans ((gI_sW).trans ((gI_sI_ne (by decide)).trans ((gI_sW).trans (q17321.1 231 11 (by decide))))))))).trans hv16946))
                  have x17378 := HI.eqI hI17372 (p := 231) (b := 14) ((((gI_sW).trans ((hF17352.1 231 14 (by decide)).trans ((gI_sW).trans ((gI_sW).trans ((gI_sW).trans ((gI_sI_ne (by decide)).trans ((gI_sW).trans (q17321.1 231 14 (by decide))))))))).trans hv16948))
                  have x17379 := HI.eqI hI17372 (p := 231) (b := 15) (((gI_sW).trans ((hF17352.1 231 15 (by decide)).trans ((gI_sW).trans ((gI_sW).trans ((gI_sW).trans (gI_sI_eq hI17326.1 kx_231 rfl _)))))))
                  have x17380 := HI.eqI hI17372 (p := 231) (b := 17) ((((gI_sW).trans ((hF17352.1 231 17 (by decide)).trans ((gI_sW).trans ((gI_sW).trans ((gI_sW).trans ((gI_sI_ne (by decide)).trans ((gI_sW).trans ((q17321.1 231 17 (by decide)).trans ((hF16931.1 231 17 (by decide)).trans (q15375.1 231 17 (by decide))))))))))).trans hv7))
                  have x17381 := HI.eqI hI0 (p := 231) (b := 8) (hv1)
                  have x17382 := HI.eqI hI0 (p := 231) (b := 9) (hv2)
                  have x17383 := HI.eqI hI0 (p := 231) (b := 10) (hv3)
                  have x17384 := HI.eqI hI0 (p := 231) (b := 11) (hv4)
                  have x17385 := HI.eqI hI0 (p := 231) (b := 14) (hv5)
                  have x17386 := HI.eqI hI0 (p := 231) (b := 15) (hv6)
                  have x17387 := HI.eqI hI0 (p := 231) (b := 17) (hv7)
                  have w2617388 := W26.cong c16955 hI17372 (((gI_sW).trans ((hF17352.1 231 9 (by decide)).trans ((gI_sW).trans ((gI_sW).trans ((gI_sW).trans ((gI_sI_ne (by decide)).trans ((gI_sW).trans (q17321.1 231 9 (by decide)))))))))) (((gI_sW).trans ((hF17352.1 231 10 (by decide)).trans ((gI_sW).trans ((gI_sW).trans ((gI_sW).trans ((gI_sI_ne (by decide)).trans ((gI_sW).trans (q17321.1 231 10 (by decide)))))))))) (((gI_sW).trans ((hF17352.1 231 11 (by decide)).trans ((gI_sW).trans ((gI_sW).trans ((gI_sW).trans ((gI_sI_ne (by decide)).trans ((gI_sW).trans (q17321.1 231 11 (by decide)))))))))) (((gJ_sW).trans ((hF17352.2.2 231 12 (by decide)).trans ((gJ_sW).trans ((gJ_sW).trans ((gJ_sW).trans ((gJ_sI_ne (by decide)).trans ((gJ_sW).trans (q17321.2.2 231 12 (by decide))))))))))
                  have x17390 := HI.eqI hI17372 (p := 231) (b := 13) ((((gI_sW).trans ((hF17352.1 231 13 (by decide)).trans ((gI_sW).trans ((gI_sW).trans ((gI_sW).trans ((gI_sI_ne (by decide)).trans ((gI_sW).trans (q17321.1 231 13 (by decide))))))))).trans hv16961))
                  obtain ⟨v17393, hv17393⟩ : ∃ v, gI g0 231 20 = v := ⟨_, rfl⟩
                  have tv17393 := congrArg Int32.toInt hv17393
                  have x17394 := HI.eqI hI17372 (p := 231) (b := 20) ((((gI_sW).trans ((hF17352.1 231 20 (by decide)).trans ((gI_sW).trans ((gI_sW).trans ((gI_sW).trans ((gI_sI_ne (by decide)).trans ((gI_sW).trans ((q17321.1 231 20 (by decide)).trans ((hF16931.1 231 20 (by decide)).trans (q15375.1 231 20 (by decide))))))))))).trans hv17393))
                  have x17396 := HI.eqI hI0 (p := 231) (b := 13) (hv16958)
                  have x17399 := HI.eqI hI0 (p := 231) (b := 20) (hv17393)
                  have hh := q15376
                  unfold HEI at hh
                  have y17409 : (gI g16929 231 13).toInt = (gI g0 231 13).toInt := (mu16963.2.1 (show (gI g0 231 14).toInt = 0 from by omega) (by omega)).2.1
                  exact ⟨_, rfl, hI17372, hF17373, rfl, ⟨by omega, by omega, by omega, by omega, w2617388, by omega, (fun hbad => by exact ⟨by omega, CLS.step (K := (gI g0 231 15).toInt) (n1 := (gI g0 231 17).toInt) (n2 := v7.toInt) hC ⟨by omega, by omega⟩ ⟨by omega, by omega, by omega⟩ (fun i i0 i1 => ((eA_sA_ne (i := i) hI17351.1 ka_237 (by omega) (by omega) (by omega)).trans ((eA_c (hF17352.2.1 237 (by decide))).trans ((eA_sA_ne (i := i) hI17336.1 ka_237 (by omega) (by omega) (by omega)).trans ((eA_sA_ne (i := i) hI17332.1 ka_237 (by omega) (by omega) (by omega)).trans ((eA_sA_ne (i := i) hI17329.1 ka_237 (by omega) (by omega) (by omega)).trans ((eA_c gA_sI).trans ((eA_sA_ne (i := i) hI17311.1 ka_237 (by omega) (by omega) (by omega)).trans ((q17322 i i0 (by omega)).trans ((eA_c (hF16931.2.1 237 (by decide))).trans (eA_c (q15375.2.1 237 (by decide))))))))))))) (by show (eA _ 237 (8 * (gI g0 231 15).toInt + 3)).toInt = (gI g0 231 17).toInt; rw [show 8 * (gI g0 231 15).toInt + 3 = (8 * v6.toInt + 3) by omega]; exact (congrArg Int32.toInt (((eA_sA_ne hI17351.1 ka_237 (by first | decide | omega) (by first | decide | omega) (by first | decide | omega)).trans ((eA_c (hF17352.2.1 237 (by decide))).trans ((eA_sA_ne hI17336.1 ka_237 (by first | decide | omega) (by first | decide | omega) (by first | decide | omega)).trans ((eA_sA_ne hI17332.1 ka_237 (by first | decide | omega) (by first | decide | omega) (by first | decide | omega)).trans (eA_sA_eq hI17329.1 ka_237 (by first | rfl | omega) (by first | decide | omega) (by first | decide | omega)))))))).trans (by omega)) (by show (eA _ 237 (8 * (gI g0 231 15).toInt + 4)).toInt = v7.toInt; rw [show 8 * (gI g0 231 15).toInt + 4 = (8 * v6.toInt + 4) by omega]; exact (congrArg Int32.toInt (((eA_sA_ne hI17351.1 ka_237 (by first | decide | omega) (by first | decide | omega) (by first | decide | omega)).trans ((eA_c (hF17352.2.1 237 (by decide))).trans ((eA_sA_ne hI17336.1 ka_237 (by first | decide | omega) (by first | decide | omega) (by first | decide | omega)).trans (eA_sA_eq hI17332.1 ka_237 (by first | rfl | omega) (by first | decide | omega) (by first | decide | omega))))))).trans (by omega)) (by show (eA _ 237 (8 * (gI g0 231 15).toInt + 5)).toInt = v7.toInt; rw [show 8 * (gI g0 231 15).toInt + 5 = (8 * v6.toInt + 5) by omega]; exact (congrArg Int32.toInt (((eA_sA_ne hI17351.1 ka_237 (by first | decide | omega) (by first | decide | omega) (by first | decide | omega)).trans ((eA_c (hF17352.2.1 237 (by decide))).trans (eA_sA_eq hI17336.1 ka_237 (by first | rfl | omega) (by first | decide | omega) (by first | decide | omega)))))).trans (by omega)) (by show (eA _ 237 (8 * (gI g0 231 15).toInt + 6)).toInt = (gI _ 231 17).toInt; rw [show 8 * (gI g0 231 15).toInt + 6 = (8 * v6.toInt + 6) by omega]; exact (congrArg Int32.toInt ((eA_sA_eq hI17351.1 ka_237 (by first | rfl | omega) (by first | decide | omega) (by first | decide | omega)))).trans (by omega)) (show SAME g0 _ (gI g0 231 17).toInt from (SAME.c hI17372 (((gA_sA_ne (by decide)).trans ((hF17352.2.1 238 (by decide)).trans ((gA_sA_ne (by decide)).trans ((gA_sA_ne (by decide)).trans ((gA_sA_ne (by decide)).trans ((gA_sI).trans ((gA_sA_ne (by decide)).trans ((q17321.2.1 238 (by decide)).trans ((hF16931.2.1 238 (by decide)).trans (q15375.2.1 238 (by decide)))))))))))) (((gA_sA_ne (by decide)).trans ((hF17352.2.1 239 (by decide)).trans ((gA_sA_ne (by decide)).trans ((gA_sA_ne (by decide)).trans ((gA_sA_ne (by decide)).trans ((gA_sI).trans ((gA_sA_ne (by decide)).trans ((q17321.2.1 239 (by decide)).trans ((hF16931.2.1 239 (by decide)).trans (q15375.2.1 239 (by decide)))))))))))))) (WfCode.nil' (by omega) (by omega) (by omega)) (WfCode.nil' (by omega) (by omega) (by omega))⟩), (TKM.c hK16964 (((gA_sA_ne (by decide)).trans ((hF17352.2.1 236 (by decide)).trans ((gA_sA_ne (by decide)).trans ((gA_sA_ne (by decide)).trans ((gA_sA_ne (by decide)).trans ((gA_sI).trans ((gA_sA_ne (by decide)).trans (q17321.2.1 236 (by decide)))))))))) (((gI_sW).trans ((hF17352.1 231 8 (by decide)).trans ((gI_sW).trans ((gI_sW).trans ((gI_sW).trans ((gI_sI_ne (by decide)).trans ((gI_sW).trans (q17321.1 231 8 (by decide)))))))))) (((gI_sW).trans ((hF17352.1 231 9 (by decide)).trans ((gI_sW).trans ((gI_sW).trans ((gI_sW).trans ((gI_sI_ne (by decide)).trans ((gI_sW).trans (q17321.1 231 9 (by decide)))))))))) (((gI_sW).trans ((hF17352.1 231 10 (by decide)).trans ((gI_sW).trans ((gI_sW).trans ((gI_sW).trans ((gI_sI_ne (by decide)).trans ((gI_sW).trans (q17321.1 231 10 (by decide)))))))))) (((gI_sW).trans ((hF17352.1 231 11 (by decide)).trans ((gI_sW).trans ((gI_sW).trans ((gI_sW).trans ((gI_sI_ne (by decide)).trans ((gI_sW).trans (q17321.1 231 11 (by decide)))))))))) (((gJ_sW).trans ((hF17352.2.2 231 12 (by decide)).trans ((gJ_sW).trans ((gJ_sW).trans ((gJ_sW).trans ((gJ_sI_ne (by decide)).trans ((gJ_sW).trans (q17321.2.2 231 12 (by decide))))))))))), (fun c0 h => by have h2 := CLM.headBH hI17372 h (show (gI g0 231 14).toInt = 0 from by omega) (by rw [(pI.ci hI17372 (((gI_sW).trans ((hF17352.1 231 9 (by decide)).trans ((gI_sW).trans ((gI_sW).trans ((gI_sW).trans ((gI_sI_ne (by decide)).trans ((gI_sW).trans (q17321.1 231 9 (by decide)))))))))))]; exact (MUSTP.tok hK mu16963 (show (gI g0 231 14).toInt = 0 from by omega) (by omega))) (by omega) (show (gI g0 231 15).toInt < 12 from by omega) (pI.ci hI17372 (((gI_sW).trans ((hF17352.1 231 20 (by decide)).trans ((gI_sW).trans ((gI_sW).trans ((gI_sW).trans ((gI_sI_ne (by decide)).trans ((gI_sW).trans ((q17321.1 231 20 (by decide)).trans ((hF16931.1 231 20 (by decide)).trans (q15375.1 231 20 (by decide))))))))))))) (show (gI _ 231 15).toInt = (gI g0 231 15).toInt + 1 from by omega) (show (gI _ 231 14).toInt = 0 from by omega) (show (gI _ 231 13).toInt = (gI g0 231 13).toInt from by omega); exact CLM.noif h2 (by rw [(pI.ci hI17372 (((gI_sW).trans ((hF17352.1 231 9 (by decide)).trans ((gI_sW).trans ((gI_sW).trans ((gI_sW).trans ((gI_sI_ne (by decide)).trans ((gI_sW).trans (q17321.1 231 9 (by decide)))))))))))]; exact (TKM.someC hK16964 (((hF16931.2.1 236 (by decide)).trans (q15375.2.1 236 (by decide)))) (((hF16931.1 231 8 (by decide)).trans (q15375.1 231 8 (by decide))))).choose_spec) (fun _ => by omega)), (fun h14 => ⟨fun n45 => N45_sH n45 (show (gI _ 231 15).toInt = (gI g0 231 15).toInt + 1 from by omega) (fun i i0 i1 => ((eA_sA_ne (i := i) hI17351.1 ka_237 (by omega) (by omega) (by omega)).trans ((eA_c (hF17352.2.1 237 (by decide))).trans ((eA_sA_ne (i := i) hI17336.1 ka_237 (by omega) (by omega) (by omega)).trans ((eA_sA_ne (i := i) hI17332.1 ka_237 (by omega) (by omega) (by omega)).trans ((eA_sA_ne (i := i) hI17329.1 ka_237 (by omega) (by omega) (by omega)).trans ((eA_c gA_sI).trans ((eA_sA_ne (i := i) hI17311.1 ka_237 (by omega) (by omega) (by omega)).trans ((q17322 i i0 (by omega)).trans ((eA_c (hF16931.2.1 237 (by decide))).trans (eA_c (q15375.2.1 237 (by decide))))))))))))) (by show (eA _ 237 (8 * (gI g0 231 15).toInt + 4)).toInt = (gI g0 231 17).toInt; rw [show 8 * (gI g0 231 15).toInt + 4 = (8 * v6.toInt + 4) by omega]; exact (congrArg Int32.toInt (((eA_sA_ne hI17351.1 ka_237 (by first | decide | omega) (by first | decide | omega) (by first | decide | omega)).trans ((eA_c (hF17352.2.1 237 (by decide))).trans ((eA_sA_ne hI17336.1 ka_237 (by first | decide | omega) (by first | decide | omega) (by first | decide | omega)).trans (eA_sA_eq hI17332.1 ka_237 (by first | rfl | omega) (by first | decide | omega) (by first | decide | omega))))))).trans (by omega)) (by show (eA _ 237 (8 * (gI g0 231 15).toInt + 5)).toInt = (gI g0 231 17).toInt; rw [show 8 * (gI g0 231 15).toInt + 5 = (8 * v6.toInt + 5) by omega]; exact (congrArg Int32.toInt (((eA_sA_ne hI17351.1 ka_237 (by first | decide | omega) (by first | decide | omega) (by first | decide | omega)).trans ((eA_c (hF17352.2.1 237 (by decide))).trans (eA_sA_eq hI17336.1 ka_237 (by first | rfl | omega) (by first | decide | omega) (by first | decide | omega)))))).trans (by omega)), fun c0 h => by have hz : (gI _ 231 14).toInt = 0 := h14; have h2 := RGM_headBH hI17372 h (TOK_at hI17372 (MUSTP.tok hK mu16963 (show (gI g0 231 14).toInt = 0 from by omega) (by omega)) (pI.c (((gI_sW).trans ((hF17352.1 231 9 (by decide)).trans ((gI_sW).trans ((gI_sW).trans ((gI_sW).trans ((gI_sI_ne (by decide)).trans ((gI_sW).trans (q17321.1 231 9 (by decide)))))))))))) (by omega) (SMG_mk (((gA_sA_ne (by decide)).trans ((hF17352.2.1 238 (by decide)).trans ((gA_sA_ne (by decide)).trans ((gA_sA_ne (by decide)).trans ((gA_sA_ne (by decide)).trans ((gA_sI).trans ((gA_sA_ne (by decide)).trans ((q17321.2.1 238 (by decide)).trans ((hF16931.2.1 238 (by decide)).trans (q15375.2.1 238 (by decide)))))))))))) (((gA_sA_ne (by decide)).trans ((hF17352.2.1 239 (by decide)).trans ((gA_sA_ne (by decide)).trans ((gA_sA_ne (by decide)).trans ((gA_sA_ne (by decide)).trans ((gA_sI).trans ((gA_sA_ne (by decide)).trans ((q17321.2.1 239 (by decide)).trans ((hF16931.2.1 239 (by decide)).trans (q15375.2.1 239 (by decide)))))))))))) (((gI_sW).trans ((hF17352.1 231 17 (by decide)).trans ((gI_sW).trans ((gI_sW).trans ((gI_sW).trans ((gI_sI_ne (by decide)).trans ((gI_sW).trans ((q17321.1 231 17 (by decide)).trans ((hF16931.1 231 17 (by decide)).trans (q15375.1 231 17 (by decide))))))))))))); have h7 := RGM_noif h2 (TOK_fr hI17372 (TKM.someC hK16964 (((hF16931.2.1 236 (by decide)).trans (q15375.2.1 236 (by decide)))) (((hF16931.1 231 8 (by decide)).trans (q15375.1 231 8 (by decide))))).choose_spec (pI.c (((gI_sW).trans ((hF17352.1 231 9 (by decide)).trans ((gI_sW).trans ((gI_sW).trans ((gI_sW).trans ((gI_sI_ne (by decide)).trans ((gI_sW).trans (q17321.1 231 9 (by decide)))))))))))) (by omega); rw [KLG_sH hI17372 (show 0 ≤ (gI g0 231 15).toInt from by omega) (show (gI _ 231 15).toInt = (gI g0 231 15).toInt + 1 from by omega) (fun i i0 i1 => ((eA_sA_ne (i := i) hI17351.1 ka_237 (by omega) (by omega) (by omega)).trans ((eA_c (hF17352.2.1 237 (by decide))).trans ((eA_sA_ne (i := i) hI17336.1 ka_237 (by omega) (by omega) (by omega)).trans ((eA_sA_ne (i := i) hI17332.1 ka_237 (by omega) (by omega) (by omega)).trans ((eA_sA_ne (i := i) hI17329.1 ka_237 (by omega) (by omega) (by omega)).trans ((eA_c gA_sI).trans ((eA_sA_ne (i := i) hI17311.1 ka_237 (by omega) (by omega) (by omega)).trans ((q17322 i i0 (by omega)).trans ((eA_c (hF16931.2.1 237 (by decide))).trans (eA_c (q15375.2.1 237 (by decide))))))))))))) (by show (eA _ 237 (8 * (gI g0 231 15).toInt)).toInt = 2; rw [show 8 * (gI g0 231 15).toInt = (8 * v6.toInt) by omega]; exact (congrArg Int32.toInt (((eA_sA_ne hI17351.1 ka_237 (by first | decide | omega) (by first | decide | omega) (by first | decide | omega)).trans ((eA_c (hF17352.2.1 237 (by decide))).trans ((eA_sA_ne hI17336.1 ka_237 (by first | decide | omega) (by first | decide | omega) (by first | decide | omega)).trans ((eA_sA_ne hI17332.1 ka_237 (by first | decide | omega) (by first | decide | omega) (by first | decide | omega)).trans ((eA_sA_ne hI17329.1 ka_237 (by first | decide | omega) (by first | decide | omega) (by first | decide | omega)).trans ((eA_c gA_sI).trans (eA_sA_eq hI17311.1 ka_237 (by first | rfl | omega) (by first | decide | omega) (by first | decide | omega)))))))))).trans (by omega)) (by show (eA _ 237 (8 * (gI g0 231 15).toInt + 3)).toInt = (gI g0 231 17).toInt; rw [show 8 * (gI g0 231 15).toInt + 3 = (8 * v6.toInt + 3) by omega]; exact (congrArg Int32.toInt (((eA_sA_ne hI17351.1 ka_237 (by first | decide | omega) (by first | decide | omega) (by first | decide | omega)).trans ((eA_c (hF17352.2.1 237 (by decide))).trans ((eA_sA_ne hI17336.1 ka_237 (by first | decide | omega) (by first | decide | omega) (by first | decide | omega)).trans ((eA_sA_ne hI17332.1 ka_237 (by first | decide | omega) (by first | decide | omega) (by first | decide | omega)).trans (eA_sA_eq hI17329.1 ka_237 (by first | rfl | omega) (by first | decide | omega) (by first | decide | omega)))))))).trans (by omega)) (by show (eA _ 237 (8 * (gI g0 231 15).toInt + 4)).toInt = (gI g0 231 17).toInt; rw [show 8 * (gI g0 231 15).toInt + 4 = (8 * v6.toInt + 4) by omega]; exact (congrArg Int32.toInt (((eA_sA_ne hI17351.1 ka_237 (by first | decide | omega) (by first | decide | omega) (by first | decide | omega)).trans ((eA_c (hF17352.2.1 237 (by decide))).trans ((eA_sA_ne hI17336.1 ka_237 (by first | decide | omega) (by first | decide | omega) (by first | decide | omega)).trans (eA_sA_eq hI17332.1 ka_237 (by first | rfl | omega) (by first | decide | omega) (by first | decide | omega))))))).trans (by omega)) (by show (eA _ 237 (8 * (gI g0 231 15).toInt + 6)).toInt = (gI g0 231 17).toInt; rw [show 8 * (gI g0 231 15).toInt + 6 = (8 * v6.toInt + 6) by omega]; exact (congrArg Int32.toInt ((eA_sA_eq hI17351.1 ka_237 (by first | rfl | omega) (by first | decide | omega) (by first | decide | omega)))).trans (by omega))]; exact h7⟩)⟩⟩
                · have c17369_ : v17353.toInt ≠ 0 := en_k_eq_f c17369
                  have i17412 := W26.two w2617367 isw17364 (by omega) (by decide)
                  have i17413 := BL.yes hb17368 (by omega)
                  refine At.enter rfl ?_
                  refine r_aload_n e17316 ?_
                  have x17414 := HI.eqI hI17351 (p := 231) (b := 8) ((((hF17352.1 231 8 (by decide)).trans ((gI_sW).trans ((gI_sW).trans ((gI_sW).trans ((gI_sI_ne (by decide)).trans ((gI_sW).trans ((q17321.1 231 8 (by decide)).trans ((hF16931.1 231 8 (by decide)).trans (q15375.1 231 8 (by decide)))))))))).trans hv1))
                  refine r_callV 180 rfl [.ref 231] [] (Nat.le_of_ble_eq_true rfl) rfl (T_X11_next_231 _ hI17351 (by omega)) ?_
                  rintro _ _ ⟨g17416, rfl, hI17417, hF17418, rfl, hr17420⟩
                  refine At.stn ?_
                  have hF17421 := Fr.tr hF17355 hF17418 rfl rfl
                  have x17424 := HI.eqI hI17417 (p := 231) (b := 8) ((((hF17418.1 231 8 (by decide)).trans ((hF17352.1 231 8 (by decide)).trans ((gI_sW).trans ((gI_sW).trans ((gI_sW).trans ((gI_sI_ne (by decide)).trans ((gI_sW).trans ((q17321.1 231 8 (by decide)).trans ((hF16931.1 231 8 (by decide)).trans (q15375.1 231 8 (by decide))))))))))).trans hv1))
                  obtain ⟨v17425, hv17425⟩ : ∃ v, gI g17416 231 9 = v := ⟨_, rfl⟩
                  have rv17425 := RgF.at hI17417.2.1 (p := 231) (b := 9) rfl
                  rw [hv17425] at rv17425
                  dsimp only at rv17425
                  have tv17425 := congrArg Int32.toInt hv17425
                  have x17426 := HI.eqI hI17417 (p := 231) (b := 9) (hv17425)
                  obtain ⟨v17427, hv17427⟩ : ∃ v, gI g17416 231 10 = v := ⟨_, rfl⟩
                  have rv17427 := RgF.at hI17417.2.1 (p := 231) (b := 10) rfl
                  rw [hv17427] at rv17427
                  dsimp only at rv17427
                  have tv17427 := congrArg Int32.toInt hv17427
                  have x17428 := HI.eqI hI17417 (p := 231) (b := 10) (hv17427)
                  obtain ⟨v17429, hv17429⟩ : ∃ v, gI g17416 231 11 = v := ⟨_, rfl⟩
                  have tv17429 := congrArg Int32.toInt hv17429
                  have x17430 := HI.eqI hI17417 (p := 231) (b := 11) (hv17429)
                  obtain ⟨c17431, c17432, c17433, c17434, c17435, c17436, c17437⟩ := hr17420
                  have tok17438_ := c17437.2
                  rw [TM.c (((hF17352.2.1 236 (by decide)).trans ((gA_sA_ne (by decide)).trans ((gA_sA_ne (by decide)).trans ((gA_sA_ne (by decide)).trans ((gA_sI).trans ((gA_sA_ne (by decide)).trans (q17321.2.1 236 (by decide))))))))), nM.c (((hF17352.1 231 8 (by decide)).trans ((gI_sW).trans ((gI_sW).trans ((gI_sW).trans ((gI_sI_ne (by decide)).trans ((gI_sW).trans (q17321.1 231 8 (by decide))))))))), pI.c (b := 10) (((hF17352.1 231 10 (by decide)).trans ((gI_sW).trans ((gI_sW).trans ((gI_sW).trans ((gI_sI_ne (by decide)).trans ((gI_sW).trans (q17321.1 231 10 (by decide)))))))))] at tok17438_
                  have tok17438 := TKM.tok hK16964 tok17438_
                  rw [TM.c (((hF16931.2.1 236 (by decide)).trans (q15375.2.1 236 (by decide)))), nM.c (((hF16931.1 231 8 (by decide)).trans (q15375.1 231 8 (by decide))))] at tok17438
                  have hK17439 := c17437.1
                  refine At.enter rfl ?_
                  refine r_aload_n e17316 ?_
                  refine r_iconst 1 rfl ?_
                  obtain ⟨v17444, hv17444⟩ : ∃ v, gJ g17416 231 12 = v := ⟨_, rfl⟩
                  have x17445 := HI.eqJ hI17417 (b := 12) (hv17444)
                  have x17446 := HI.eqI hI17417 (p := 231) (b := 14) ((((hF17418.1 231 14 (by decide)).trans ((hF17352.1 231 14 (by decide)).trans ((gI_sW).trans ((gI_sW).trans ((gI_sW).trans ((gI_sI_ne (by decide)).trans ((gI_sW).trans (q17321.1 231 14 (by decide))))))))).trans hv16948))
                  have x17447 := HI.eqI hI17417 (p := 231) (b := 17) ((((hF17418.1 231 17 (by decide)).trans ((hF17352.1 231 17 (by decide)).trans ((gI_sW).trans ((gI_sW).trans ((gI_sW).trans ((gI_sI_ne (by decide)).trans ((gI_sW).trans ((q17321.1 231 17 (by decide)).trans ((hF16931.1 231 17 (by decide)).trans (q15375.1 231 17 (by decide))))))))))).trans hv7))
                  obtain ⟨v17448, hv17448⟩ : ∃ v, gI g0 231 23 = v := ⟨_, rfl⟩
                  have rv17448 := RgF.at hI0.2.1 (p := 231) (b := 23) rfl
                  rw [hv17448] at rv17448
                  dsimp only at rv17448
                  have tv17448 := congrArg Int32.toInt hv17448
                  have x17449 := HI.eqI hI17417 (p := 231) (b := 23) ((((hF17418.1 231 23 (by decide)).trans ((hF17352.1 231 23 (by decide)).trans ((gI_sW).trans ((gI_sW).trans ((gI_sW).trans ((gI_sI_ne (by decide)).trans ((gI_sW).trans ((q17321.1 231 23 (by decide)).trans ((hF16931.1 231 23 (by decide)).trans (q15375.1 231 23 (by decide))))))))))).trans hv17448))
                  refine r_callV 185 rfl [.ref 231, .int 1] [] (Nat.le_of_ble_eq_true rfl) rfl (T_X11_readExpression_231 _ hI17417 1 (by decide) (by refine ⟨?_, ?_, ?_, ?_⟩ <;> omega) (by omega) (by omega) c17436 hK17439) ?_
                  rintro _ _ ⟨g17451, rfl, hI17452, hF17453, rfl, hr17455⟩
                  refine At.stn ?_
                  have hF17456 := Fr.tr hF17421 hF17453 rfl rfl
                  have x17460 := HI.eqI hI17452 (p := 231) (b := 8) ((((hF17453.1 231 8 (by decide)).trans ((hF17418.1 231 8 (by decide)).trans ((hF17352.1 231 8 (by decide)).trans ((gI_sW).trans ((gI_sW).trans ((gI_sW).trans ((gI_sI_ne (by decide)).trans ((gI_sW).trans ((q17321.1 231 8 (by decide)).trans ((hF16931.1 231 8 (by decide)).trans (q15375.1 231 8 (by decide)))))))))))).trans hv1))
                  obtain ⟨v17461, hv17461⟩ : ∃ v, gI g17451 231 9 = v := ⟨_, rfl⟩
                  have rv17461 := RgF.at hI17452.2.1 (p := 231) (b := 9) rfl
                  rw [hv17461] at rv17461
                  dsimp only at rv17461
                  have tv17461 := congrArg Int32.toInt hv17461
                  have x17462 := HI.eqI hI17452 (p := 231) (b := 9) (hv17461)
                  obtain ⟨v17463, hv17463⟩ : ∃ v, gI g17451 231 10 = v := ⟨_, rfl⟩
                  have rv17463 := RgF.at hI17452.2.1 (p := 231) (b := 10) rfl
                  rw [hv17463] at rv17463
                  dsimp only at rv17463
                  have tv17463 := congrArg Int32.toInt hv17463
                  have x17464 := HI.eqI hI17452 (p := 231) (b := 10) (hv17463)
                  obtain ⟨v17465, hv17465⟩ : ∃ v, gI g17451 231 11 = v := ⟨_, rfl⟩
                  have tv17465 := congrArg Int32.toInt hv17465
                  have x17466 := HI.eqI hI17452 (p := 231) (b := 11) (hv17465)
                  obtain ⟨v17467, hv17467⟩ : ∃ v, gJ g17451 231 12 = v := ⟨_, rfl⟩
                  have x17468 := HI.eqJ hI17452 (b := 12) (hv17467)
                  obtain ⟨v17469, hv17469⟩ : ∃ v, gI g17451 231 14 = v := ⟨_, rfl⟩
                  have tv17469 := congrArg Int32.toInt hv17469
                  have x17470 := HI.eqI hI17452 (p := 231) (b := 14) (hv17469)
                  obtain ⟨v17471, hv17471⟩ : ∃ v, gI g17451 231 17 = v := ⟨_, rfl⟩
                  have rv17471 := RgF.at hI17452.2.1 (p := 231) (b := 17) rfl
                  rw [hv17471] at rv17471
                  dsimp only at rv17471
                  have tv17471 := congrArg Int32.toInt hv17471
                  have x17472 := HI.eqI hI17452 (p := 231) (b := 17) (hv17471)
                  obtain ⟨v17473, hv17473⟩ : ∃ v, gI g17451 231 23 = v := ⟨_, rfl⟩
                  have rv17473 := RgF.at hI17452.2.1 (p := 231) (b := 23) rfl
                  rw [hv17473] at rv17473
                  dsimp only at rv17473
                  have tv17473 := congrArg Int32.toInt hv17473
                  have x17474 := HI.eqI hI17452 (p := 231) (b := 23) (hv17473)
                  obtain ⟨c17475, c17476, c17477, c17478, c17479, c17480, c17481, c17482⟩ := hr17455
                  have hK17483 := c17482.1
                  obtain ⟨v17484, hv17484⟩ : ∃ v, gI g17451 231 13 = v := ⟨_, rfl⟩
                  have tv17484 := congrArg Int32.toInt hv17484
                  have x17485 := HI.eqI hI17452 (p := 231) (b := 13) (hv17484)
                  refine At.enter rfl ?_
                  refine r_aload_n e17316 ?_
                  refine q_getR (Sh.ref hI17452.1 kx_231 rfl) ?_
                  refine r_iload_n e17318 ?_
                  refine r_bipush 6 rfl ?_
                  refine q_iadd (v16971.toInt + 6) rfl (by omega) (fun v17487 hv17487 => ?_)
                  refine r_aload_n e17316 ?_
                  refine q_getI (Sh.int hI17452.1 kx_231 rfl) v17471 hv17471 ?_
                  refine q_iast (Sh.arr hI17452.1 ka_237) ((8 * v6.toInt + 6)) (by omega) (by omega) ?_
                  have hI17488 := HI.wA0 hI17452 ka_237 (p := 237) rfl rfl ((8 * v6.toInt + 6)) (v17471)
                  have hF17489 := Fr.wA (p := 237) (j := (8 * v6.toInt + 6)) (v := v17471) hF17456 rfl
                  refine r_vret ?_
                  have x17490 := HI.eqI hI17488 (p := 231) (b := 8) ((((gI_sW).trans ((hF17453.1 231 8 (by decide)).trans ((hF17418.1 231 8 (by decide)).trans ((hF17352.1 231 8 (by decide)).trans ((gI_sW).trans ((gI_sW).trans ((gI_sW).trans ((gI_sI_ne (by decide)).trans ((gI_sW).trans ((q17321.1 231 8 (by decide)).trans ((hF16931.1 231 8 (by decide)).trans (q15375.1 231 8 (by decide))))))))))))).trans hv1))
                  have x17491 := HI.eqI hI17488 (p := 231) (b := 9) (((gI_sW).trans hv17461))
                  have x17492 := HI.eqI hI17488 (p := 231) (b := 10) (((gI_sW).trans hv17463))
                  have x17493 := HI.eqI hI17488 (p := 231) (b := 11) (((gI_sW).trans hv17465))
                  have x17494 := HI.eqI hI17488 (p := 231) (b := 14) (((gI_sW).trans hv17469))
                  have x17495 := HI.eqI hI17488 (p := 231) (b := 15) (((gI_sW).trans ((hF17453.1 231 15 (by decide)).trans ((hF17418.1 231 15 (by decide)).trans ((hF17352.1 231 15 (by decide)).trans ((gI_sW).trans ((gI_sW).trans ((gI_sW).trans (gI_sI_eq hI17326.1 kx_231 rfl _)))))))))
                  have x17496 := HI.eqI hI17488 (p := 231) (b := 17) (((gI_sW).trans hv17471))
                  have x17497 := HI.eqI hI0 (p := 231) (b := 8) (hv1)
                  have x17498 := HI.eqI hI0 (p := 231) (b := 9) (hv2)
                  have x17499 := HI.eqI hI0 (p := 231) (b := 10) (hv3)
                  have x17500 := HI.eqI hI0 (p := 231) (b := 11) (hv4)
                  have x17501 := HI.eqI hI0 (p := 231) (b := 14) (hv5)
                  have x17502 := HI.eqI hI0 (p := 231) (b := 15) (hv6)
                  have x17503 := HI.eqI hI0 (p := 231) (b := 17) (hv7)
                  have w2617504 := W26.cong c17479 hI17488 ((gI_sW)) ((gI_sW)) ((gI_sW)) ((gJ_sW))
                  have x17506 := HI.eqI hI17488 (p := 231) (b := 13) (((gI_sW).trans hv17484))
                  obtain ⟨v17509, hv17509⟩ : ∃ v, gI g17451 231 20 = v := ⟨_, rfl⟩
                  have tv17509 := congrArg Int32.toInt hv17509
                  have x17510 := HI.eqI hI17488 (p := 231) (b := 20) (((gI_sW).trans hv17509))
                  have x17512 := HI.eqI hI0 (p := 231) (b := 13) (hv16958)
                  obtain ⟨v17515, hv17515⟩ : ∃ v, gI g0 231 20 = v := ⟨_, rfl⟩
                  have tv17515 := congrArg Int32.toInt hv17515
                  have x17516 := HI.eqI hI0 (p := 231) (b := 20) (hv17515)
                  have hh := q15376
                  unfold HEI at hh
                  have x17518 := HI.eqI hI17351 (p := 231) (b := 13) ((((hF17352.1 231 13 (by decide)).trans ((gI_sW).trans ((gI_sW).trans ((gI_sW).trans ((gI_sI_ne (by decide)).trans ((gI_sW).trans (q17321.1 231 13 (by decide)))))))).trans hv16961))
                  have x17519 := HI.eqI hI17351 (p := 231) (b := 14) ((((hF17352.1 231 14 (by decide)).trans ((gI_sW).trans ((gI_sW).trans ((gI_sW).trans ((gI_sI_ne (by decide)).trans ((gI_sW).trans (q17321.1 231 14 (by decide)))))))).trans hv16948))
                  have x17520 := HI.eqI hI17351 (p := 231) (b := 15) (((hF17352.1 231 15 (by decide)).trans ((gI_sW).trans ((gI_sW).trans ((gI_sW).trans (gI_sI_eq hI17326.1 kx_231 rfl _))))))
                  have x17521 := HI.eqI hI17351 (p := 231) (b := 20) ((((hF17352.1 231 20 (by decide)).trans ((gI_sW).trans ((gI_sW).trans ((gI_sW).trans ((gI_sI_ne (by decide)).trans ((gI_sW).trans ((q17321.1 231 20 (by decide)).trans ((hF16931.1 231 20 (by decide)).trans (q15375.1 231 20 (by decide)))))))))).trans hv17515))
                  have y17526 : (gI g16929 231 13).toInt = (gI g0 231 13).toInt := (mu16963.2.1 (show (gI g0 231 14).toInt = 0 from by omega) (by omega)).2.1
                  exact ⟨_, rfl, hI17488, hF17489, rfl, ⟨by omega, by omega, by omega, by omega, w2617504, by omega, (fun hbad => by have t0 := (c17481 (by omega)).1; have x0 := (c17481 (by omega)).2; have u0 : (gI _ 231 17).toInt ≤ (gI _ 231 17).toInt := x0.1; exact ⟨by omega, CLS.step (K := (gI g0 231 15).toInt) (n1 := (gI g0 231 17).toInt) (n2 := v7.toInt) hC ⟨by omega, by omega⟩ ⟨by omega, by omega, by omega⟩ (fun i i0 i1 => ((eA_sA_ne (i := i) hI17452.1 ka_237 (by omega) (by omega) (by omega)).trans ((eA_c (hF17453.2.1 237 (by decide))).trans ((eA_c (hF17418.2.1 237 (by decide))).trans ((eA_c (hF17352.2.1 237 (by decide))).trans ((eA_sA_ne (i := i) hI17336.1 ka_237 (by omega) (by omega) (by omega)).trans ((eA_sA_ne (i := i) hI17332.1 ka_237 (by omega) (by omega) (by omega)).trans ((eA_sA_ne (i := i) hI17329.1 ka_237 (by omega) (by omega) (by omega)).trans ((eA_c gA_sI).trans ((eA_sA_ne (i := i) hI17311.1 ka_237 (by omega) (by omega) (by omega)).trans ((q17322 i i0 (by omega)).trans ((eA_c (hF16931.2.1 237 (by decide))).trans (eA_c (q15375.2.1 237 (by decide))))))))))))))) (by show (eA _ 237 (8 * (gI g0 231 15).toInt + 3)).toInt = (gI g0 231 17).toInt; rw [show 8 * (gI g0 231 15).toInt + 3 = (8 * v6.toInt + 3) by omega]; exact (congrArg Int32.toInt (((eA_sA_ne hI17452.1 ka_237 (by first | decide | omega) (by first | decide | omega) (by first | decide | omega)).trans ((eA_c (hF17453.2.1 237 (by decide))).trans ((eA_c (hF17418.2.1 237 (by decide))).trans ((eA_c (hF17352.2.1 237 (by decide))).trans ((eA_sA_ne hI17336.1 ka_237 (by first | decide | omega) (by first | decide | omega) (by first | decide | omega)).trans ((eA_sA_ne hI17332.1 ka_237 (by first | decide | omega) (by first | decide | omega) (by first | decide | omega)).trans (eA_sA_eq hI17329.1 ka_237 (by first | rfl | omega) (by first | decide | omega) (by first | decide | omega)))))))))).trans (by omega)) (by show (eA _ 237 (8 * (gI g0 231 15).toInt + 4)).toInt = v7.toInt; rw [show 8 * (gI g0 231 15).toInt + 4 = (8 * v6.toInt + 4) by omega]; exact (congrArg Int32.toInt (((eA_sA_ne hI17452.1 ka_237 (by first | decide | omega) (by first | decide | omega) (by first | decide | omega)).trans ((eA_c (hF17453.2.1 237 (by decide))).trans ((eA_c (hF17418.2.1 237 (by decide))).trans ((eA_c (hF17352.2.1 237 (by decide))).trans ((eA_sA_ne hI17336.1 ka_237 (by first | decide | omega) (by first | decide | omega) (by first | decide | omega)).trans (eA_sA_eq hI17332.1 ka_237 (by first | rfl | omega) (by first | decide | omega) (by first | decide | omega))))))))).trans (by omega)) (by show (eA _ 237 (8 * (gI g0 231 15).toInt + 5)).toInt = v7.toInt; rw [show 8 * (gI g0 231 15).toInt + 5 = (8 * v6.toInt + 5) by omega]; exact (congrArg Int32.toInt (((eA_sA_ne hI17452.1 ka_237 (by first | decide | omega) (by first | decide | omega) (by first | decide | omega)).trans ((eA_c (hF17453.2.1 237 (by decide))).trans ((eA_c (hF17418.2.1 237 (by decide))).trans ((eA_c (hF17352.2.1 237 (by decide))).trans (eA_sA_eq hI17336.1 ka_237 (by first | rfl | omega) (by first | decide | omega) (by first | decide | omega)))))))).trans (by omega)) (by show (eA _ 237 (8 * (gI g0 231 15).toInt + 6)).toInt = (gI _ 231 17).toInt; rw [show 8 * (gI g0 231 15).toInt + 6 = (8 * v6.toInt + 6) by omega]; exact (congrArg Int32.toInt ((eA_sA_eq hI17452.1 ka_237 (by first | rfl | omega) (by first | decide | omega) (by first | decide | omega)))).trans (by omega)) (show SAME g0 _ (gI g0 231 17).toInt from (SAME.tr (SAME.tr (SAME.c hI17417 (((hF17418.2.1 238 (by decide)).trans ((hF17352.2.1 238 (by decide)).trans ((gA_sA_ne (by decide)).trans ((gA_sA_ne (by decide)).trans ((gA_sA_ne (by decide)).trans ((gA_sI).trans ((gA_sA_ne (by decide)).trans ((q17321.2.1 238 (by decide)).trans ((hF16931.2.1 238 (by decide)).trans (q15375.2.1 238 (by decide)))))))))))) (((hF17418.2.1 239 (by decide)).trans ((hF17352.2.1 239 (by decide)).trans ((gA_sA_ne (by decide)).trans ((gA_sA_ne (by decide)).trans ((gA_sA_ne (by decide)).trans ((gA_sI).trans ((gA_sA_ne (by decide)).trans ((q17321.2.1 239 (by decide)).trans ((hF16931.2.1 239 (by decide)).trans (q15375.2.1 239 (by decide))))))))))))) (EXPR.same x0) (by show _ ≤ (gI _ 231 17).toInt; omega)) (SAME.c hI17488 ((gA_sA_ne (by decide))) ((gA_sA_ne (by decide)))) (Int.le_refl _))) (WfCode.nil' (by omega) (by omega) (by omega)) (EXPR.code x0 (show SAME g17451 _ (gI g17451 231 17).toInt from (SAME.c hI17488 ((gA_sA_ne (by decide))) ((gA_sA_ne (by decide))))) (by show _ = (gI _ 231 17).toInt; omega) (by show _ = (gI _ 231 17).toInt; omega) (by show 0 ≤ (gI _ 231 17).toInt; omega))⟩), (TKM.c hK17483 ((gA_sA_ne (by decide))) ((gI_sW)) ((gI_sW)) ((gI_sW)) ((gI_sW)) ((gJ_sW))), (fun c0 h => by have h2 := CLM.headBH hI17351 h (show (gI g0 231 14).toInt = 0 from by omega) (by rw [(pI.ci hI17351 (((hF17352.1 231 9 (by decide)).trans ((gI_sW).trans ((gI_sW).trans ((gI_sW).trans ((gI_sI_ne (by decide)).trans ((gI_sW).trans (q17321.1 231 9 (by decide))))))))))]; exact (MUSTP.tok hK mu16963 (show (gI g0 231 14).toInt = 0 from by omega) (by omega))) (by omega) (show (gI g0 231 15).toInt < 12 from by omega) (pI.ci hI17351 (((hF17352.1 231 20 (by decide)).trans ((gI_sW).trans ((gI_sW).trans ((gI_sW).trans ((gI_sI_ne (by decide)).trans ((gI_sW).trans ((q17321.1 231 20 (by decide)).trans ((hF16931.1 231 20 (by decide)).trans (q15375.1 231 20 (by decide)))))))))))) (show (gI _ 231 15).toInt = (gI g0 231 15).toInt + 1 from by omega) (show (gI _ 231 14).toInt = 0 from by omega) (show (gI _ 231 13).toInt = (gI g0 231 13).toInt from by omega); have h4 := CLM.ifs (g' := g17416) h2 (show (gI _ 231 14).toInt = 0 from by omega) (by rw [(pI.ci hI17351 (((hF17352.1 231 9 (by decide)).trans ((gI_sW).trans ((gI_sW).trans ((gI_sW).trans ((gI_sI_ne (by decide)).trans ((gI_sW).trans (q17321.1 231 9 (by decide))))))))))]; exact tok17438) (by omega) (pI.c (hF17418.1 231 20 (by decide))) (pI.c (hF17418.1 231 15 (by decide))) (pI.c (hF17418.1 231 13 (by decide))); have h5 := CLM.test (c17482.2.1 4 (Or.inr ⟨rfl, by decide⟩)) (TM.c (((hF17418.2.1 236 (by decide)).trans ((hF17352.2.1 236 (by decide)).trans ((gA_sA_ne (by decide)).trans ((gA_sA_ne (by decide)).trans ((gA_sA_ne (by decide)).trans ((gA_sI).trans ((gA_sA_ne (by decide)).trans ((q17321.2.1 236 (by decide)).trans ((hF16931.2.1 236 (by decide)).trans (q15375.2.1 236 (by decide))))))))))))) (nM.c (((hF17418.1 231 8 (by decide)).trans ((hF17352.1 231 8 (by decide)).trans ((gI_sW).trans ((gI_sW).trans ((gI_sW).trans ((gI_sI_ne (by decide)).trans ((gI_sW).trans ((q17321.1 231 8 (by decide)).trans ((hF16931.1 231 8 (by decide)).trans (q15375.1 231 8 (by decide))))))))))))) h4; exact CLM.eqv h5 (pI.ci hI17488 ((gI_sW))) (pI.ci hI17488 ((gI_sW))) (pI.ci hI17488 ((gI_sW))) (pI.ci hI17488 ((gI_sW))) (pI.ci hI17488 ((gI_sW)))), (fun h14 => ⟨fun n45 => N45_sH n45 (show (gI _ 231 15).toInt = (gI g0 231 15).toInt + 1 from by omega) (fun i i0 i1 => ((eA_sA_ne (i := i) hI17452.1 ka_237 (by omega) (by omega) (by omega)).trans ((eA_c (hF17453.2.1 237 (by decide))).trans ((eA_c (hF17418.2.1 237 (by decide))).trans ((eA_c (hF17352.2.1 237 (by decide))).trans ((eA_sA_ne (i := i) hI17336.1 ka_237 (by omega) (by omega) (by omega)).trans ((eA_sA_ne (i := i) hI17332.1 ka_237 (by omega) (by omega) (by omega)).trans ((eA_sA_ne (i := i) hI17329.1 ka_237 (by omega) (by omega) (by omega)).trans ((eA_c gA_sI).trans ((eA_sA_ne (i := i) hI17311.1 ka_237 (by omega) (by omega) (by omega)).trans ((q17322 i i0 (by omega)).trans ((eA_c (hF16931.2.1 237 (by decide))).trans (eA_c (q15375.2.1 237 (by decide))))))))))))))) (by show (eA _ 237 (8 * (gI g0 231 15).toInt + 4)).toInt = (gI g0 231 17).toInt; rw [show 8 * (gI g0 231 15).toInt + 4 = (8 * v6.toInt + 4) by omega]; exact (congrArg Int32.toInt (((eA_sA_ne hI17452.1 ka_237 (by first | decide | omega) (by first | decide | omega) (by first | decide | omega)).trans ((eA_c (hF17453.2.1 237 (by decide))).trans ((eA_c (hF17418.2.1 237 (by decide))).trans ((eA_c (hF17352.2.1 237 (by decide))).trans ((eA_sA_ne hI17336.1 ka_237 (by first | decide | omega) (by first | decide | omega) (by first | decide | omega)).trans (eA_sA_eq hI17332.1 ka_237 (by first | rfl | omega) (by first | decide | omega) (by first | decide | omega))))))))).trans (by omega)) (by show (eA _ 237 (8 * (gI g0 231 15).toInt + 5)).toInt = (gI g0 231 17).toInt; rw [show 8 * (gI g0 231 15).toInt + 5 = (8 * v6.toInt + 5) by omega]; exact (congrArg Int32.toInt (((eA_sA_ne hI17452.1 ka_237 (by first | decide | omega) (by first | decide | omega) (by first | decide | omega)).trans ((eA_c (hF17453.2.1 237 (by decide))).trans ((eA_c (hF17418.2.1 237 (by decide))).trans ((eA_c (hF17352.2.1 237 (by decide))).trans (eA_sA_eq hI17336.1 ka_237 (by first | rfl | omega) (by first | decide | omega) (by first | decide | omega)))))))).trans (by omega)), fun c0 h => by have hz : (gI _ 231 14).toInt = 0 := h14; have h2 := RGM_headBH hI17351 h (TOK_at hI17351 (MUSTP.tok hK mu16963 (show (gI g0 231 14).toInt = 0 from by omega) (by omega)) (pI.c (((hF17352.1 231 9 (by decide)).trans ((gI_sW).trans ((gI_sW).trans ((gI_sW).trans ((gI_sI_ne (by decide)).trans ((gI_sW).trans (q17321.1 231 9 (by decide))))))))))) (by omega) (SMG_mk (((hF17352.2.1 238 (by decide)).trans ((gA_sA_ne (by decide)).trans ((gA_sA_ne (by decide)).trans ((gA_sA_ne (by decide)).trans ((gA_sI).trans ((gA_sA_ne (by decide)).trans ((q17321.2.1 238 (by decide)).trans ((hF16931.2.1 238 (by decide)).trans (q15375.2.1 238 (by decide))))))))))) (((hF17352.2.1 239 (by decide)).trans ((gA_sA_ne (by decide)).trans ((gA_sA_ne (by decide)).trans ((gA_sA_ne (by decide)).trans ((gA_sI).trans ((gA_sA_ne (by decide)).trans ((q17321.2.1 239 (by decide)).trans ((hF16931.2.1 239 (by decide)).trans (q15375.2.1 239 (by decide))))))))))) (((hF17352.1 231 17 (by decide)).trans ((gI_sW).trans ((gI_sW).trans ((gI_sW).trans ((gI_sI_ne (by decide)).trans ((gI_sW).trans ((q17321.1 231 17 (by decide)).trans ((hF16931.1 231 17 (by decide)).trans (q15375.1 231 17 (by decide)))))))))))); have h4 := RGM_if (g' := g17416) h2 (TOK_fr hI17351 tok17438 (pI.c (((hF17352.1 231 9 (by decide)).trans ((gI_sW).trans ((gI_sW).trans ((gI_sW).trans ((gI_sI_ne (by decide)).trans ((gI_sW).trans (q17321.1 231 9 (by decide))))))))))) (by omega) (SMG_mk (hF17418.2.1 238 (by decide)) (hF17418.2.1 239 (by decide)) (hF17418.1 231 17 (by decide))); have h5 := RGM_eqH hI17417 h4 SMG_rf rfl; have h6 := XPG_test c17482.2.2 rfl (show (gI g17451 231 14).toInt = 0 from by omega) (TM.c (((hF17418.2.1 236 (by decide)).trans ((hF17352.2.1 236 (by decide)).trans ((gA_sA_ne (by decide)).trans ((gA_sA_ne (by decide)).trans ((gA_sA_ne (by decide)).trans ((gA_sI).trans ((gA_sA_ne (by decide)).trans ((q17321.2.1 236 (by decide)).trans ((hF16931.2.1 236 (by decide)).trans (q15375.2.1 236 (by decide))))))))))))) (nM.c (((hF17418.1 231 8 (by decide)).trans ((hF17352.1 231 8 (by decide)).trans ((gI_sW).trans ((gI_sW).trans ((gI_sW).trans ((gI_sI_ne (by decide)).trans ((gI_sW).trans ((q17321.1 231 8 (by decide)).trans ((hF16931.1 231 8 (by decide)).trans (q15375.1 231 8 (by decide))))))))))))) h5; have h7 := RGM_eqH hI17488 h6 (SMG_mk ((gA_sA_ne (by decide))) ((gA_sA_ne (by decide))) ((gI_sW))) (pI.c ((gI_sW))); rw [KLG_sH hI17488 (show 0 ≤ (gI g0 231 15).toInt from by omega) (show (gI _ 231 15).toInt = (gI g0 231 15).toInt + 1 from by omega) (fun i i0 i1 => ((eA_sA_ne (i := i) hI17452.1 ka_237 (by omega) (by omega) (by omega)).trans ((eA_c (hF17453.2.1 237 (by decide))).trans ((eA_c (hF17418.2.1 237 (by decide))).trans ((eA_c (hF17352.2.1 237 (by decide))).trans ((eA_sA_ne (i := i) hI17336.1 ka_237 (by omega) (by omega) (by omega)).trans ((eA_sA_ne (i := i) hI17332.1 ka_237 (by omega) (by omega) (by omega)).trans ((eA_sA_ne (i := i) hI17329.1 ka_237 (by omega) (by omega) (by omega)).trans ((eA_c gA_sI).trans ((eA_sA_ne (i := i) hI17311.1 ka_237 (by omega) (by omega) (by omega)).trans ((q17322 i i0 (by omega)).trans ((eA_c (hF16931.2.1 237 (by decide))).trans (eA_c (q15375.2.1 237 (by decide))))))))))))))) (by show (eA _ 237 (8 * (gI g0 231 15).toInt)).toInt = 2; rw [show 8 * (gI g0 231 15).toInt = (8 * v6.toInt) by omega]; exact (congrArg Int32.toInt (((eA_sA_ne hI17452.1 ka_237 (by first | decide | omega) (by first | decide | omega) (by first | decide | omega)).trans ((eA_c (hF17453.2.1 237 (by decide))).trans ((eA_c (hF17418.2.1 237 (by decide))).trans ((eA_c (hF17352.2.1 237 (by decide))).trans ((eA_sA_ne hI17336.1 ka_237 (by first | decide | omega) (by first | decide | omega) (by first | decide | omega)).trans ((eA_sA_ne hI17332.1 ka_237 (by first | decide | omega) (by first | decide | omega) (by first | decide | omega)).trans ((eA_sA_ne hI17329.1 ka_237 (by first | decide | omega) (by first | decide | omega) (by first | decide | omega)).trans ((eA_c gA_sI).trans (eA_sA_eq hI17311.1 ka_237 (by first | rfl | omega) (by first | decide | omega) (by first | decide | omega)))))))))))).trans (by omega)) (by show (eA _ 237 (8 * (gI g0 231 15).toInt + 3)).toInt = (gI g0 231 17).toInt; rw [show 8 * (gI g0 231 15).toInt + 3 = (8 * v6.toInt + 3) by omega]; exact (congrArg Int32.toInt (((eA_sA_ne hI17452.1 ka_237 (by first | decide | omega) (by first | decide | omega) (by first | decide | omega)).trans ((eA_c (hF17453.2.1 237 (by decide))).trans ((eA_c (hF17418.2.1 237 (by decide))).trans ((eA_c (hF17352.2.1 237 (by decide))).trans ((eA_sA_ne hI17336.1 ka_237 (by first | decide | omega) (by first | decide | omega) (by first | decide | omega)).trans ((eA_sA_ne hI17332.1 ka_237 (by first | decide | omega) (by first | decide | omega) (by first | decide | omega)).trans (eA_sA_eq hI17329.1 ka_237 (by first | rfl | omega) (by first | decide | omega) (by first | decide | omega)))))))))).trans (by omega)) (by show (eA _ 237 (8 * (gI g0 231 15).toInt + 4)).toInt = (gI g0 231 17).toInt; rw [show 8 * (gI g0 231 15).toInt + 4 = (8 * v6.toInt + 4) by omega]; exact (congrArg Int32.toInt (((eA_sA_ne hI17452.1 ka_237 (by first | decide | omega) (by first | decide | omega) (by first | decide | omega)).trans ((eA_c (hF17453.2.1 237 (by decide))).trans ((eA_c (hF17418.2.1 237 (by decide))).trans ((eA_c (hF17352.2.1 237 (by decide))).trans ((eA_sA_ne hI17336.1 ka_237 (by first | decide | omega) (by first | decide | omega) (by first | decide | omega)).trans (eA_sA_eq hI17332.1 ka_237 (by first | rfl | omega) (by first | decide | omega) (by first | decide | omega))))))))).trans (by omega)) (by show (eA _ 237 (8 * (gI g0 231 15).toInt + 6)).toInt = (gI g17451 231 17).toInt; rw [show 8 * (gI g0 231 15).toInt + 6 = (8 * v6.toInt + 6) by omega]; exact (congrArg Int32.toInt ((eA_sA_eq hI17452.1 ka_237 (by first | rfl | omega) (by first | decide | omega) (by first | decide | omega)))).trans (by omega))]; exact h7⟩)⟩⟩
            · have c17334_ : x15362.toInt < 2 := en_i_ge_f c17334
              refine At.enter rfl ?_
              refine r_aload_n e17316 ?_
              refine r_iconst 0 rfl ?_
              have x17532 := HI.eqI hI17332 (p := 231) (b := 8) ((((gI_sW).trans ((gI_sI_ne (by decide)).trans ((gI_sW).trans ((q17321.1 231 8 (by decide)).trans ((hF16931.1 231 8 (by decide)).trans (q15375.1 231 8 (by decide))))))).trans hv1))
              have x17533 := HI.eqI hI17332 (p := 231) (b := 9) ((((gI_sW).trans ((gI_sI_ne (by decide)).trans ((gI_sW).trans (q17321.1 231 9 (by decide))))).trans hv16942))
              have x17534 := HI.eqI hI17332 (p := 231) (b := 10) ((((gI_sW).trans ((gI_sI_ne (by decide)).trans ((gI_sW).trans (q17321.1 231 10 (by decide))))).trans hv16944))
              have x17535 := HI.eqI hI17332 (p := 231) (b := 11) ((((gI_sW).trans ((gI_sI_ne (by decide)).trans ((gI_sW).trans (q17321.1 231 11 (by decide))))).trans hv16946))
              obtain ⟨v17536, hv17536⟩ : ∃ v, gJ g16929 231 12 = v := ⟨_, rfl⟩
              have x17537 := HI.eqJ hI17332 (b := 12) ((((gJ_sW).trans ((gJ_sI_ne (by decide)).trans ((gJ_sW).trans (q17321.2.2 231 12 (by decide))))).trans hv17536))
              have x17538 := HI.eqI hI17332 (p := 231) (b := 14) ((((gI_sW).trans ((gI_sI_ne (by decide)).trans ((gI_sW).trans (q17321.1 231 14 (by decide))))).trans hv16948))
              have x17539 := HI.eqI hI17332 (p := 231) (b := 17) ((((gI_sW).trans ((gI_sI_ne (by decide)).trans ((gI_sW).trans ((q17321.1 231 17 (by decide)).trans ((hF16931.1 231 17 (by decide)).trans (q15375.1 231 17 (by decide))))))).trans hv7))
              obtain ⟨v17540, hv17540⟩ : ∃ v, gI g0 231 23 = v := ⟨_, rfl⟩
              have rv17540 := RgF.at hI0.2.1 (p := 231) (b := 23) rfl
              rw [hv17540] at rv17540
              dsimp only at rv17540
              have tv17540 := congrArg Int32.toInt hv17540
              have x17541 := HI.eqI hI17332 (p := 231) (b := 23) ((((gI_sW).trans ((gI_sI_ne (by decide)).trans ((gI_sW).trans ((q17321.1 231 23 (by decide)).trans ((hF16931.1 231 23 (by decide)).trans (q15375.1 231 23 (by decide))))))).trans hv17540))
              have w2617542 := W26.cong c16955 hI17332 (((gI_sW).trans ((gI_sI_ne (by decide)).trans ((gI_sW).trans (q17321.1 231 9 (by decide)))))) (((gI_sW).trans ((gI_sI_ne (by decide)).trans ((gI_sW).trans (q17321.1 231 10 (by decide)))))) (((gI_sW).trans ((gI_sI_ne (by decide)).trans ((gI_sW).trans (q17321.1 231 11 (by decide)))))) (((gJ_sW).trans ((gJ_sI_ne (by decide)).trans ((gJ_sW).trans (q17321.2.2 231 12 (by decide))))))
              refine r_callV 135 rfl [.ref 231, .int 0] [] (Nat.le_of_ble_eq_true rfl) rfl (T_X11_readExpression_231 _ hI17332 0 (by decide) (by refine ⟨?_, ?_, ?_, ?_⟩ <;> omega) (by omega) (by omega) w2617542 (TKM.c hK16964 (((gA_sA_ne (by decide)).trans ((gA_sI).trans ((gA_sA_ne (by decide)).trans (q17321.2.1 236 (by decide)))))) (((gI_sW).trans ((gI_sI_ne (by decide)).trans ((gI_sW).trans (q17321.1 231 8 (by decide)))))) (((gI_sW).trans ((gI_sI_ne (by decide)).trans ((gI_sW).trans (q17321.1 231 9 (by decide)))))) (((gI_sW).trans ((gI_sI_ne (by decide)).trans ((gI_sW).trans (q17321.1 231 10 (by decide)))))) (((gI_sW).trans ((gI_sI_ne (by decide)).trans ((gI_sW).trans (q17321.1 231 11 (by decide)))))) (((gJ_sW).trans ((gJ_sI_ne (by decide)).trans ((gJ_sW).trans (q17321.2.2 231 12 (by decide)))))))) ?_
              rintro _ _ ⟨g17544, rfl, hI17545, hF17546, rfl, hr17548⟩
              refine At.stn ?_
              have hF17549 := Fr.tr hF17333 hF17546 rfl rfl
              have x17553 := HI.eqI hI17545 (p := 231) (b := 8) ((((hF17546.1 231 8 (by decide)).trans ((gI_sW).trans ((gI_sI_ne (by decide)).trans ((gI_sW).trans ((q17321.1 231 8 (by decide)).trans ((hF16931.1 231 8 (by decide)).trans (q15375.1 231 8 (by decide)))))))).trans hv1))
              obtain ⟨v17554, hv17554⟩ : ∃ v, gI g17544 231 9 = v := ⟨_, rfl⟩
              have rv17554 := RgF.at hI17545.2.1 (p := 231) (b := 9) rfl
              rw [hv17554] at rv17554
              dsimp only at rv17554
              have tv17554 := congrArg Int32.toInt hv17554
              have x17555 := HI.eqI hI17545 (p := 231) (b := 9) (hv17554)
              obtain ⟨v17556, hv17556⟩ : ∃ v, gI g17544 231 10 = v := ⟨_, rfl⟩
              have rv17556 := RgF.at hI17545.2.1 (p := 231) (b := 10) rfl
              rw [hv17556] at rv17556
              dsimp only at rv17556
              have tv17556 := congrArg Int32.toInt hv17556
              have x17557 := HI.eqI hI17545 (p := 231) (b := 10) (hv17556)
              obtain ⟨v17558, hv17558⟩ : ∃ v, gI g17544 231 11 = v := ⟨_, rfl⟩
              have tv17558 := congrArg Int32.toInt hv17558
              have x17559 := HI.eqI hI17545 (p := 231) (b := 11) (hv17558)
              obtain ⟨v17560, hv17560⟩ : ∃ v, gJ g17544 231 12 = v := ⟨_, rfl⟩
              have x17561 := HI.eqJ hI17545 (b := 12) (hv17560)
              obtain ⟨v17562, hv17562⟩ : ∃ v, gI g17544 231 14 = v := ⟨_, rfl⟩
              have tv17562 := congrArg Int32.toInt hv17562
              have x17563 := HI.eqI hI17545 (p := 231) (b := 14) (hv17562)
              obtain ⟨v17564, hv17564⟩ : ∃ v, gI g17544 231 17 = v := ⟨_, rfl⟩
              have rv17564 := RgF.at hI17545.2.1 (p := 231) (b := 17) rfl
              rw [hv17564] at rv17564
              dsimp only at rv17564
              have tv17564 := congrArg Int32.toInt hv17564
              have x17565 := HI.eqI hI17545 (p := 231) (b := 17) (hv17564)
              obtain ⟨v17566, hv17566⟩ : ∃ v, gI g17544 231 23 = v := ⟨_, rfl⟩
              have rv17566 := RgF.at hI17545.2.1 (p := 231) (b := 23) rfl
              rw [hv17566] at rv17566
              dsimp only at rv17566
              have tv17566 := congrArg Int32.toInt hv17566
              have x17567 := HI.eqI hI17545 (p := 231) (b := 23) (hv17566)
              obtain ⟨c17568, c17569, c17570, c17571, c17572, c17573, c17574, c17575⟩ := hr17548
              have hK17576 := c17575.1
              obtain ⟨v17577, hv17577⟩ : ∃ v, gI g17544 231 13 = v := ⟨_, rfl⟩
              have tv17577 := congrArg Int32.toInt hv17577
              have x17578 := HI.eqI hI17545 (p := 231) (b := 13) (hv17577)
              refine At.enter rfl ?_
              refine r_aload_n e17316 ?_
              refine q_getR (Sh.ref hI17545.1 kx_231 rfl) ?_
              refine r_iload_n e17318 ?_
              refine r_iconst 4 rfl ?_
              refine q_iadd (v16971.toInt + 4) rfl (by omega) (fun v17580 hv17580 => ?_)
              refine r_aload_n e17316 ?_
              refine q_getI (Sh.int hI17545.1 kx_231 rfl) v17564 hv17564 ?_
              refine q_iast (Sh.arr hI17545.1 ka_237) ((8 * v6.toInt + 4)) (by omega) (by omega) ?_
              have hI17581 := HI.wA0 hI17545 ka_237 (p := 237) rfl rfl ((8 * v6.toInt + 4)) (v17564)
              have hF17582 := Fr.wA (p := 237) (j := (8 * v6.toInt + 4)) (v := v17564) hF17549 rfl
              refine r_aload_n e17316 ?_
              refine q_getR (Sh.ref hI17581.1 kx_231 rfl) ?_
              refine r_iload_n e17318 ?_
              refine r_iconst 5 rfl ?_
              refine q_iadd (v16971.toInt + 5) rfl (by omega) (fun v17583 hv17583 => ?_)
              refine r_aload_n e17316 ?_
              refine q_getI (Sh.int hI17581.1 kx_231 rfl) v17564 ((gI_sW).trans hv17564) ?_
              refine q_iast (Sh.arr hI17581.1 ka_237) ((8 * v6.toInt + 5)) (by omega) (by omega) ?_
              have hI17584 := HI.wA0 hI17581 ka_237 (p := 237) rfl rfl ((8 * v6.toInt + 5)) (v17564)
              have hF17585 := Fr.wA (p := 237) (j := (8 * v6.toInt + 5)) (v := v17564) hF17582 rfl
              refine r_aload_n e17316 ?_
              refine q_getI (Sh.int hI17584.1 kx_231 rfl) v17562 (((gI_sW).trans (gI_sW)).trans hv17562) ?_
              refine r_ifs 166 rfl (fun c17586 => ?_) (fun c17586 => ?_)
              · have c17586_ : v17562.toInt ≠ 0 := en_k_ne_t c17586
                refine At.enter rfl ?_
                refine r_aload_n e17316 ?_
                refine q_getR (Sh.ref hI17584.1 kx_231 rfl) ?_
                refine r_iload_n e17318 ?_
                refine r_bipush 6 rfl ?_
                refine q_iadd (v16971.toInt + 6) rfl (by omega) (fun v17587 hv17587 => ?_)
                refine r_aload_n e17316 ?_
                refine q_getI (Sh.int hI17584.1 kx_231 rfl) v17564 (((gI_sW).trans (gI_sW)).trans hv17564) ?_
                refine q_iast (Sh.arr hI17584.1 ka_237) ((8 * v6.toInt + 6)) (by omega) (by omega) ?_
                have hI17588 := HI.wA0 hI17584 ka_237 (p := 237) rfl rfl ((8 * v6.toInt + 6)) (v17564)
                have hF17589 := Fr.wA (p := 237) (j := (8 * v6.toInt + 6)) (v := v17564) hF17585 rfl
                refine r_vret ?_
                have x17590 := HI.eqI hI17588 (p := 231) (b := 8) ((((gI_sW).trans ((gI_sW).trans ((gI_sW).trans ((hF17546.1 231 8 (by decide)).trans ((gI_sW).trans ((gI_sI_ne (by decide)).trans ((gI_sW).trans ((q17321.1 231 8 (by decide)).trans ((hF16931.1 231 8 (by decide)).trans (q15375.1 231 8 (by decide))))))))))).trans hv1))
                have x17591 := HI.eqI hI17588 (p := 231) (b := 9) ((((gI_sW).trans ((gI_sW).trans (gI_sW))).trans hv17554))
                have x17592 := HI.eqI hI17588 (p := 231) (b := 10) ((((gI_sW).trans ((gI_sW).trans (gI_sW))).trans hv17556))
                have x17593 := HI.eqI hI17588 (p := 231) (b := 11) ((((gI_sW).trans ((gI_sW).trans (gI_sW))).trans hv17558))
                have x17594 := HI.eqI hI17588 (p := 231) (b := 14) ((((gI_sW).trans ((gI_sW).trans (gI_sW))).trans hv17562))
                have x17595 := HI.eqI hI17588 (p := 231) (b := 15) (((gI_sW).trans ((gI_sW).trans ((gI_sW).trans ((hF17546.1 231 15 (by decide)).trans ((gI_sW).trans (gI_sI_eq hI17326.1 kx_231 rfl _)))))))
                have x17596 := HI.eqI hI17588 (p := 231) (b := 17) ((((gI_sW).trans ((gI_sW).trans (gI_sW))).trans hv17564))
                have x17597 := HI.eqI hI0 (p := 231) (b := 8) (hv1)
                have x17598 := HI.eqI hI0 (p := 231) (b := 9) (hv2)
                have x17599 := HI.eqI hI0 (p := 231) (b := 10) (hv3)
                have x17600 := HI.eqI hI0 (p := 231) (b := 11) (hv4)
                have x17601 := HI.eqI hI0 (p := 231) (b := 14) (hv5)
                have x17602 := HI.eqI hI0 (p := 231) (b := 15) (hv6)
                have x17603 := HI.eqI hI0 (p := 231) (b := 17) (hv7)
                have w2617604 := W26.cong c17572 hI17588 (((gI_sW).trans ((gI_sW).trans (gI_sW)))) (((gI_sW).trans ((gI_sW).trans (gI_sW)))) (((gI_sW).trans ((gI_sW).trans (gI_sW)))) (((gJ_sW).trans ((gJ_sW).trans (gJ_sW))))
                have x17606 := HI.eqI hI17588 (p := 231) (b := 13) ((((gI_sW).trans ((gI_sW).trans (gI_sW))).trans hv17577))
                obtain ⟨v17609, hv17609⟩ : ∃ v, gI g17544 231 20 = v := ⟨_, rfl⟩
                have tv17609 := congrArg Int32.toInt hv17609
                have x17610 := HI.eqI hI17588 (p := 231) (b := 20) ((((gI_sW).trans ((gI_sW).trans (gI_sW))).trans hv17609))
                have x17612 := HI.eqI hI0 (p := 231) (b := 13) (hv16958)
                obtain ⟨v17615, hv17615⟩ : ∃ v, gI g0 231 20 = v := ⟨_, rfl⟩
                have tv17615 := congrArg Int32.toInt hv17615
                have x17616 := HI.eqI hI0 (p := 231) (b := 20) (hv17615)
                have hh := q15376
                unfold HEI at hh
                have x17617 := HI.eqI hI17332 (p := 231) (b := 13) ((((gI_sW).trans ((gI_sI_ne (by decide)).trans ((gI_sW).trans (q17321.1 231 13 (by decide))))).trans hv16961))
                have x17618 := HI.eqI hI17332 (p := 231) (b := 15) (((gI_sW).trans (gI_sI_eq hI17326.1 kx_231 rfl _)))
                have x17619 := HI.eqI hI17332 (p := 231) (b := 20) ((((gI_sW).trans ((gI_sI_ne (by decide)).trans ((gI_sW).trans ((q17321.1 231 20 (by decide)).trans ((hF16931.1 231 20 (by decide)).trans (q15375.1 231 20 (by decide))))))).trans hv17615))
                have y17624 : (gI g16929 231 13).toInt = (gI g0 231 13).toInt := (mu16963.2.1 (show (gI g0 231 14).toInt = 0 from by omega) (by omega)).2.1
                exact ⟨_, rfl, hI17588, hF17589, rfl, ⟨by omega, by omega, by omega, by omega, w2617604, by omega, (fun hbad => by have t0 := (c17574 (by omega)).1; have x0 := (c17574 (by omega)).2; have u0 : (gI _ 231 17).toInt ≤ (gI _ 231 17).toInt := x0.1; exact ⟨by omega, CLS.step (K := (gI g0 231 15).toInt) (n1 := (gI g0 231 17).toInt) (n2 := v17564.toInt) hC ⟨by omega, by omega⟩ ⟨by omega, by omega, by omega⟩ (fun i i0 i1 => ((eA_sA_ne (i := i) hI17584.1 ka_237 (by omega) (by omega) (by omega)).trans ((eA_sA_ne (i := i) hI17581.1 ka_237 (by omega) (by omega) (by omega)).trans ((eA_sA_ne (i := i) hI17545.1 ka_237 (by omega) (by omega) (by omega)).trans ((eA_c (hF17546.2.1 237 (by decide))).trans ((eA_sA_ne (i := i) hI17329.1 ka_237 (by omega) (by omega) (by omega)).trans ((eA_c gA_sI).trans ((eA_sA_ne (i := i) hI17311.1 ka_237 (by omega) (by omega) (by omega)).trans ((q17322 i i0 (by omega)).trans ((eA_c (hF16931.2.1 237 (by decide))).trans (eA_c (q15375.2.1 237 (by decide))))))))))))) (by show (eA _ 237 (8 * (gI g0 231 15).toInt + 3)).toInt = (gI g0 231 17).toInt; rw [show 8 * (gI g0 231 15).toInt + 3 = (8 * v6.toInt + 3) by omega]; exact (congrArg Int32.toInt (((eA_sA_ne hI17584.1 ka_237 (by first | decide | omega) (by first | decide | omega) (by first | decide | omega)).trans ((eA_sA_ne hI17581.1 ka_237 (by first | decide | omega) (by first | decide | omega) (by first | decide | omega)).trans ((eA_sA_ne hI17545.1 ka_237 (by first | decide | omega) (by first | decide | omega) (by first | decide | omega)).trans ((eA_c (hF17546.2.1 237 (by decide))).trans (eA_sA_eq hI17329.1 ka_237 (by first | rfl | omega) (by first | decide | omega) (by first | decide | omega)))))))).trans (by omega)) (by show (eA _ 237 (8 * (gI g0 231 15).toInt + 4)).toInt = v17564.toInt; rw [show 8 * (gI g0 231 15).toInt + 4 = (8 * v6.toInt + 4) by omega]; exact (congrArg Int32.toInt (((eA_sA_ne hI17584.1 ka_237 (by first | decide | omega) (by first | decide | omega) (by first | decide | omega)).trans ((eA_sA_ne hI17581.1 ka_237 (by first | decide | omega) (by first | decide | omega) (by first | decide | omega)).trans (eA_sA_eq hI17545.1 ka_237 (by first | rfl | omega) (by first | decide | omega) (by first | decide | omega)))))).trans (by omega)) (by show (eA _ 237 (8 * (gI g0 231 15).toInt + 5)).toInt = v17564.toInt; rw [show 8 * (gI g0 231 15).toInt + 5 = (8 * v6.toInt + 5) by omega]; exact (congrArg Int32.toInt (((eA_sA_ne hI17584.1 ka_237 (by first | decide | omega) (by first | decide | omega) (by first | decide | omega)).trans (eA_sA_eq hI17581.1 ka_237 (by first | rfl | omega) (by first | decide | omega) (by first | decide | omega))))).trans (by omega)) (by show (eA _ 237 (8 * (gI g0 231 15).toInt + 6)).toInt = (gI _ 231 17).toInt; rw [show 8 * (gI g0 231 15).toInt + 6 = (8 * v6.toInt + 6) by omega]; exact (congrArg Int32.toInt ((eA_sA_eq hI17584.1 ka_237 (by first | rfl | omega) (by first | decide | omega) (by first | decide | omega)))).trans (by omega)) (show SAME g0 _ (gI g0 231 17).toInt from (SAME.tr (SAME.tr (SAME.c hI17332 (((gA_sA_ne (by decide)).trans ((gA_sI).trans ((gA_sA_ne (by decide)).trans ((q17321.2.1 238 (by decide)).trans ((hF16931.2.1 238 (by decide)).trans (q15375.2.1 238 (by decide)))))))) (((gA_sA_ne (by decide)).trans ((gA_sI).trans ((gA_sA_ne (by decide)).trans ((q17321.2.1 239 (by decide)).trans ((hF16931.2.1 239 (by decide)).trans (q15375.2.1 239 (by decide))))))))) (EXPR.same x0) (by show _ ≤ (gI _ 231 17).toInt; omega)) (SAME.c hI17588 (((gA_sA_ne (by decide)).trans ((gA_sA_ne (by decide)).trans (gA_sA_ne (by decide))))) (((gA_sA_ne (by decide)).trans ((gA_sA_ne (by decide)).trans (gA_sA_ne (by decide)))))) (Int.le_refl _))) (EXPR.code x0 (show SAME g17544 _ (gI g17544 231 17).toInt from (SAME.c hI17588 (((gA_sA_ne (by decide)).trans ((gA_sA_ne (by decide)).trans (gA_sA_ne (by decide))))) (((gA_sA_ne (by decide)).trans ((gA_sA_ne (by decide)).trans (gA_sA_ne (by decide))))))) (by show _ = (gI _ 231 17).toInt; omega) (by show _ = (gI _ 231 17).toInt; omega) (by show 0 ≤ (gI _ 231 17).toInt; omega)) (WfCode.nil' (by omega) (by omega) (by omega))⟩), (TKM.c hK17576 (((gA_sA_ne (by decide)).trans ((gA_sA_ne (by decide)).trans (gA_sA_ne (by decide))))) (((gI_sW).trans ((gI_sW).trans (gI_sW)))) (((gI_sW).trans ((gI_sW).trans (gI_sW)))) (((gI_sW).trans ((gI_sW).trans (gI_sW)))) (((gI_sW).trans ((gI_sW).trans (gI_sW)))) (((gJ_sW).trans ((gJ_sW).trans (gJ_sW))))), (fun c0 h => by have h1 := CLM.headH hI17332 h (show (gI g0 231 14).toInt = 0 from by omega) (by rw [(pI.ci hI17332 (((gI_sW).trans ((gI_sI_ne (by decide)).trans ((gI_sW).trans (q17321.1 231 9 (by decide)))))))]; exact (MUSTP.tok hK mu16963 (show (gI g0 231 14).toInt = 0 from by omega) (by omega))) (by omega) (show (gI g0 231 15).toInt < 12 from by omega) (pI.ci hI17332 (((gI_sW).trans ((gI_sI_ne (by decide)).trans ((gI_sW).trans ((q17321.1 231 20 (by decide)).trans ((hF16931.1 231 20 (by decide)).trans (q15375.1 231 20 (by decide))))))))) (show (gI _ 231 15).toInt = (gI g0 231 15).toInt + 1 from by omega) (show (gI _ 231 13).toInt = (gI g0 231 13).toInt from by omega); have h2 := CLM.sum (c17575.2.1 3 (Or.inl ⟨rfl, rfl⟩)) (TM.c (((gA_sA_ne (by decide)).trans ((gA_sI).trans ((gA_sA_ne (by decide)).trans ((q17321.2.1 236 (by decide)).trans ((hF16931.2.1 236 (by decide)).trans (q15375.2.1 236 (by decide))))))))) (nM.c (((gI_sW).trans ((gI_sI_ne (by decide)).trans ((gI_sW).trans ((q17321.1 231 8 (by decide)).trans ((hF16931.1 231 8 (by decide)).trans (q15375.1 231 8 (by decide))))))))) h1; have h3 := CLM.noif h2 (TKM.someC hK17576 (((hF17546.2.1 236 (by decide)).trans ((gA_sA_ne (by decide)).trans ((gA_sI).trans ((gA_sA_ne (by decide)).trans ((q17321.2.1 236 (by decide)).trans ((hF16931.2.1 236 (by decide)).trans (q15375.2.1 236 (by decide))))))))) (((hF17546.1 231 8 (by decide)).trans ((gI_sW).trans ((gI_sI_ne (by decide)).trans ((gI_sW).trans ((q17321.1 231 8 (by decide)).trans ((hF16931.1 231 8 (by decide)).trans (q15375.1 231 8 (by decide)))))))))).choose_spec (fun z => by have z2 : (gI g17544 231 14).toInt = 0 := z; omega); exact CLM.eqv h3 (pI.ci hI17588 (((gI_sW).trans ((gI_sW).trans (gI_sW))))) (pI.ci hI17588 (((gI_sW).trans ((gI_sW).trans (gI_sW))))) (pI.ci hI17588 (((gI_sW).trans ((gI_sW).trans (gI_sW))))) (pI.ci hI17588 (((gI_sW).trans ((gI_sW).trans (gI_sW))))) (pI.ci hI17588 (((gI_sW).trans ((gI_sW).trans (gI_sW)))))), (fun h14 => ⟨fun n45 => N45_sH n45 (show (gI _ 231 15).toInt = (gI g0 231 15).toInt + 1 from by omega) (fun i i0 i1 => ((eA_sA_ne (i := i) hI17584.1 ka_237 (by omega) (by omega) (by omega)).trans ((eA_sA_ne (i := i) hI17581.1 ka_237 (by omega) (by omega) (by omega)).trans ((eA_sA_ne (i := i) hI17545.1 ka_237 (by omega) (by omega) (by omega)).trans ((eA_c (hF17546.2.1 237 (by decide))).trans ((eA_sA_ne (i := i) hI17329.1 ka_237 (by omega) (by omega) (by omega)).trans ((eA_c gA_sI).trans ((eA_sA_ne (i := i) hI17311.1 ka_237 (by omega) (by omega) (by omega)).trans ((q17322 i i0 (by omega)).trans ((eA_c (hF16931.2.1 237 (by decide))).trans (eA_c (q15375.2.1 237 (by decide))))))))))))) (by show (eA _ 237 (8 * (gI g0 231 15).toInt + 4)).toInt = (gI g17544 231 17).toInt; rw [show 8 * (gI g0 231 15).toInt + 4 = (8 * v6.toInt + 4) by omega]; exact (congrArg Int32.toInt (((eA_sA_ne hI17584.1 ka_237 (by first | decide | omega) (by first | decide | omega) (by first | decide | omega)).trans ((eA_sA_ne hI17581.1 ka_237 (by first | decide | omega) (by first | decide | omega) (by first | decide | omega)).trans (eA_sA_eq hI17545.1 ka_237 (by first | rfl | omega) (by first | decide | omega) (by first | decide | omega)))))).trans (by omega)) (by show (eA _ 237 (8 * (gI g0 231 15).toInt + 5)).toInt = (gI g17544 231 17).toInt; rw [show 8 * (gI g0 231 15).toInt + 5 = (8 * v6.toInt + 5) by omega]; exact (congrArg Int32.toInt (((eA_sA_ne hI17584.1 ka_237 (by first | decide | omega) (by first | decide | omega) (by first | decide | omega)).trans (eA_sA_eq hI17581.1 ka_237 (by first | rfl | omega) (by first | decide | omega) (by first | decide | omega))))).trans (by omega)), fun c0 h => by have hz : (gI _ 231 14).toInt = 0 := h14; have h1 := RGM_headH hI17332 h (TOK_at hI17332 (MUSTP.tok hK mu16963 (show (gI g0 231 14).toInt = 0 from by omega) (by omega)) (pI.c (((gI_sW).trans ((gI_sI_ne (by decide)).trans ((gI_sW).trans (q17321.1 231 9 (by decide)))))))) (by omega) (SMG_mk (((gA_sA_ne (by decide)).trans ((gA_sI).trans ((gA_sA_ne (by decide)).trans ((q17321.2.1 238 (by decide)).trans ((hF16931.2.1 238 (by decide)).trans (q15375.2.1 238 (by decide)))))))) (((gA_sA_ne (by decide)).trans ((gA_sI).trans ((gA_sA_ne (by decide)).trans ((q17321.2.1 239 (by decide)).trans ((hF16931.2.1 239 (by decide)).trans (q15375.2.1 239 (by decide)))))))) (((gI_sW).trans ((gI_sI_ne (by decide)).trans ((gI_sW).trans ((q17321.1 231 17 (by decide)).trans ((hF16931.1 231 17 (by decide)).trans (q15375.1 231 17 (by decide))))))))); have h2 := XPG_sum c17575.2.2 (show (gI g17544 231 14).toInt = 0 from by omega) (TM.c (((gA_sA_ne (by decide)).trans ((gA_sI).trans ((gA_sA_ne (by decide)).trans ((q17321.2.1 236 (by decide)).trans ((hF16931.2.1 236 (by decide)).trans (q15375.2.1 236 (by decide))))))))) (nM.c (((gI_sW).trans ((gI_sI_ne (by decide)).trans ((gI_sW).trans ((q17321.1 231 8 (by decide)).trans ((hF16931.1 231 8 (by decide)).trans (q15375.1 231 8 (by decide))))))))) h1; have h3 := RGM_noif h2 (TKM.someC hK17576 (((hF17546.2.1 236 (by decide)).trans ((gA_sA_ne (by decide)).trans ((gA_sI).trans ((gA_sA_ne (by decide)).trans ((q17321.2.1 236 (by decide)).trans ((hF16931.2.1 236 (by decide)).trans (q15375.2.1 236 (by decide))))))))) (((hF17546.1 231 8 (by decide)).trans ((gI_sW).trans ((gI_sI_ne (by decide)).trans ((gI_sW).trans ((q17321.1 231 8 (by decide)).trans ((hF16931.1 231 8 (by decide)).trans (q15375.1 231 8 (by decide)))))))))).choose_spec (by omega); have h7 := RGM_eqH hI17588 h3 (SMG_mk (((gA_sA_ne (by decide)).trans ((gA_sA_ne (by decide)).trans (gA_sA_ne (by decide))))) (((gA_sA_ne (by decide)).trans ((gA_sA_ne (by decide)).trans (gA_sA_ne (by decide))))) (((gI_sW).trans ((gI_sW).trans (gI_sW))))) (pI.c (((gI_sW).trans ((gI_sW).trans (gI_sW))))); rw [KLG_sH hI17588 (show 0 ≤ (gI g0 231 15).toInt from by omega) (show (gI _ 231 15).toInt = (gI g0 231 15).toInt + 1 from by omega) (fun i i0 i1 => ((eA_sA_ne (i := i) hI17584.1 ka_237 (by omega) (by omega) (by omega)).trans ((eA_sA_ne (i := i) hI17581.1 ka_237 (by omega) (by omega) (by omega)).trans ((eA_sA_ne (i := i) hI17545.1 ka_237 (by omega) (by omega) (by omega)).trans ((eA_c (hF17546.2.1 237 (by decide))).trans ((eA_sA_ne (i := i) hI17329.1 ka_237 (by omega) (by omega) (by omega)).trans ((eA_c gA_sI).trans ((eA_sA_ne (i := i) hI17311.1 ka_237 (by omega) (by omega) (by omega)).trans ((q17322 i i0 (by omega)).trans ((eA_c (hF16931.2.1 237 (by decide))).trans (eA_c (q15375.2.1 237 (by decide))))))))))))) (by show (eA _ 237 (8 * (gI g0 231 15).toInt)).toInt = CDM g0 - 11; rw [show 8 * (gI g0 231 15).toInt = (8 * v6.toInt) by omega]; exact (congrArg Int32.toInt (((eA_sA_ne hI17584.1 ka_237 (by first | decide | omega) (by first | decide | omega) (by first | decide | omega)).trans ((eA_sA_ne hI17581.1 ka_237 (by first | decide | omega) (by first | decide | omega) (by first | decide | omega)).trans ((eA_sA_ne hI17545.1 ka_237 (by first | decide | omega) (by first | decide | omega) (by first | decide | omega)).trans ((eA_c (hF17546.2.1 237 (by decide))).trans ((eA_sA_ne hI17329.1 ka_237 (by first | decide | omega) (by first | decide | omega) (by first | decide | omega)).trans ((eA_c gA_sI).trans (eA_sA_eq hI17311.1 ka_237 (by first | rfl | omega) (by first | decide | omega) (by first | decide | omega)))))))))).trans (by omega)) (by show (eA _ 237 (8 * (gI g0 231 15).toInt + 3)).toInt = (gI g0 231 17).toInt; rw [show 8 * (gI g0 231 15).toInt + 3 = (8 * v6.toInt + 3) by omega]; exact (congrArg Int32.toInt (((eA_sA_ne hI17584.1 ka_237 (by first | decide | omega) (by first | decide | omega) (by first | decide | omega)).trans ((eA_sA_ne hI17581.1 ka_237 (by first | decide | omega) (by first | decide | omega) (by first | decide | omega)).trans ((eA_sA_ne hI17545.1 ka_237 (by first | decide | omega) (by first | decide | omega) (by first | decide | omega)).trans ((eA_c (hF17546.2.1 237 (by decide))).trans (eA_sA_eq hI17329.1 ka_237 (by first | rfl | omega) (by first | decide | omega) (by first | decide | omega)))))))).trans (by omega)) (by show (eA _ 237 (8 * (gI g0 231 15).toInt + 4)).toInt = (gI g17544 231 17).toInt; rw [show 8 * (gI g0 231 15).toInt + 4 = (8 * v6.toInt + 4) by omega]; exact (congrArg Int32.toInt (((eA_sA_ne hI17584.1 ka_237 (by first | decide | omega) (by first | decide | omega) (by first | decide | omega)).trans ((eA_sA_ne hI17581.1 ka_237 (by first | decide | omega) (by first | decide | omega) (by first | decide | omega)).trans (eA_sA_eq hI17545.1 ka_237 (by first | rfl | omega) (by first | decide | omega) (by first | decide | omega)))))).trans (by omega)) (by show (eA _ 237 (8 * (gI g0 231 15).toInt + 6)).toInt = (gI g17544 231 17).toInt; rw [show 8 * (gI g0 231 15).toInt + 6 = (8 * v6.toInt + 6) by omega]; exact (congrArg Int32.toInt ((eA_sA_eq hI17584.1 ka_237 (by first | rfl | omega) (by first | decide | omega) (by first | decide | omega)))).trans (by omega))]; exact h7⟩)⟩⟩
              · have c17586_ : v17562.toInt = 0 := en_k_ne_f c17586
                refine At.enter rfl ?_
                refine r_aload_n e17316 ?_
                refine r_ldc2 294 rfl ?_
                have x17630 := HI.eqI hI17584 (p := 231) (b := 11) ((((gI_sW).trans (gI_sW)).trans hv17558))
                have zv17631 : (294 : Int64).toInt = 294 := rfl
                refine r_callV 173 rfl [.ref 231, .long 294] [] (Nat.le_of_ble_eq_true rfl) rfl (T_X11_isWord_231 _ hI17584 294 (by omega)) ?_
                rintro _ _ ⟨g17632, rfl, hI17633, hF17634, v17635, rfl, hr17636⟩
                refine At.sti ?_
                have hF17637 := Fr.tr hF17585 hF17634 rfl rfl
                have x17639 := HI.eqI hI17584 (p := 231) (b := 9) ((((gI_sW).trans (gI_sW)).trans hv17554))
                have x17640 := HI.eqI hI17584 (p := 231) (b := 10) ((((gI_sW).trans (gI_sW)).trans hv17556))
                have x17642 := HI.eqI hI17633 (p := 231) (b := 9) ((((hF17634.1 231 9 (by decide)).trans ((gI_sW).trans (gI_sW))).trans hv17554))
                have x17643 := HI.eqI hI17633 (p := 231) (b := 10) ((((hF17634.1 231 10 (by decide)).trans ((gI_sW).trans (gI_sW))).trans hv17556))
                have x17644 := HI.eqI hI17633 (p := 231) (b := 11) ((((hF17634.1 231 11 (by decide)).trans ((gI_sW).trans (gI_sW))).trans hv17558))
                obtain ⟨c17648, c17645, isw17646, ib17647⟩ := hr17636
                have w2617649 := W26.cong c17572 hI17584 (((gI_sW).trans (gI_sW))) (((gI_sW).trans (gI_sW))) (((gI_sW).trans (gI_sW))) (((gJ_sW).trans (gJ_sW)))
                have hb17650 : BL (CDM g17544 = 10) v17635.toInt := by have z := ISM.word (c := 10) ib17647 (TKM.c hK17576 (((gA_sA_ne (by decide)).trans (gA_sA_ne (by decide)))) (((gI_sW).trans (gI_sW))) (((gI_sW).trans (gI_sW))) (((gI_sW).trans (gI_sW))) (((gI_sW).trans (gI_sW))) (((gJ_sW).trans (gJ_sW)))) (isWC_d (by omega)) (by decide +kernel) (by decide); rw [CDM.c (((gA_sA_ne (by decide)).trans (gA_sA_ne (by decide)))) (((gI_sW).trans (gI_sW))) (((gI_sW).trans (gI_sW))) (((gI_sW).trans (gI_sW)))] at z; exact z
                refine At.enter rfl ?_
                refine r_ifs 176 rfl (fun c17651 => ?_) (fun c17651 => ?_)
                · have c17651_ : v17635.toInt = 0 := en_k_eq_t c17651
                  have i17652 := BL.no hb17650 (by omega)
                  refine At.enter rfl ?_
                  refine r_aload_n e17316 ?_
                  refine q_getR (Sh.ref hI17633.1 kx_231 rfl) ?_
                  refine r_iload_n e17318 ?_
                  refine r_bipush 6 rfl ?_
                  refine q_iadd (v16971.toInt + 6) rfl (by omega) (fun v17653 hv17653 => ?_)
                  refine r_aload_n e17316 ?_
                  refine q_getI (Sh.int hI17633.1 kx_231 rfl) v17564 (((hF17634.1 231 17 (by decide)).trans ((gI_sW).trans (gI_sW))).trans hv17564) ?_
                  refine q_iast (Sh.arr hI17633.1 ka_237) ((8 * v6.toInt + 6)) (by omega) (by omega) ?_
                  have hI17654 := HI.wA0 hI17633 ka_237 (p := 237) rfl rfl ((8 * v6.toInt + 6)) (v17564)
                  have hF17655 := Fr.wA (p := 237) (j := (8 * v6.toInt + 6)) (v := v17564) hF17637 rfl
                  refine r_vret ?_
                  have x17656 := HI.eqI hI17654 (p := 231) (b := 8) ((((gI_sW).trans ((hF17634.1 231 8 (by decide)).trans ((gI_sW).trans ((gI_sW).trans ((hF17546.1 231 8 (by decide)).trans ((gI_sW).trans ((gI_sI_ne (by decide)).trans ((gI_sW).trans ((q17321.1 231 8 (by decide)).trans ((hF16931.1 231 8 (by decide)).trans (q15375.1 231 8 (by decide)))))))))))).trans hv1))
                  have x17657 := HI.eqI hI17654 (p := 231) (b := 9) ((((gI_sW).trans ((hF17634.1 231 9 (by decide)).trans ((gI_sW).trans (gI_sW)))).trans hv17554))
                  have x17658 := HI.eqI hI17654 (p := 231) (b := 10) ((((gI_sW).trans ((hF17634.1 231 10 (by decide)).trans ((gI_sW).trans (gI_sW)))).trans hv17556))
                  have x17659 := HI.eqI hI17654 (p := 231) (b := 11) ((((gI_sW).trans ((hF17634.1 231 11 (by decide)).trans ((gI_sW).trans (gI_sW)))).trans hv17558))
                  have x17660 := HI.eqI hI17654 (p := 231) (b := 14) ((((gI_sW).trans ((hF17634.1 231 14 (by decide)).trans ((gI_sW).trans (gI_sW)))).trans hv17562))
                  have x17661 := HI.eqI hI17654 (p := 231) (b := 15) (((gI_sW).trans ((hF17634.1 231 15 (by decide)).trans ((gI_sW).trans ((gI_sW).trans ((hF17546.1 231 15 (by decide)).trans ((gI_sW).trans (gI_sI_eq hI17326.1 kx_231 rfl _))))))))
                  have x17662 := HI.eqI hI17654 (p := 231) (b := 17) ((((gI_sW).trans ((hF17634.1 231 17 (by decide)).trans ((gI_sW).trans (gI_sW)))).trans hv17564))
                  have x17663 := HI.eqI hI0 (p := 231) (b := 8) (hv1)
                  have x17664 := HI.eqI hI0 (p := 231) (b := 9) (hv2)
                  have x17665 := HI.eqI hI0 (p := 231) (b := 10) (hv3)
                  have x17666 := HI.eqI hI0 (p := 231) (b := 11) (hv4)
                  have x17667 := HI.eqI hI0 (p := 231) (b := 14) (hv5)
                  have x17668 := HI.eqI hI0 (p := 231) (b := 15) (hv6)
                  have x17669 := HI.eqI hI0 (p := 231) (b := 17) (hv7)
                  have w2617670 := W26.cong c17572 hI17654 (((gI_sW).trans ((hF17634.1 231 9 (by decide)).trans ((gI_sW).trans (gI_sW))))) (((gI_sW).trans ((hF17634.1 231 10 (by decide)).trans ((gI_sW).trans (gI_sW))))) (((gI_sW).trans ((hF17634.1 231 11 (by decide)).trans ((gI_sW).trans (gI_sW))))) (((gJ_sW).trans ((hF17634.2.2 231 12 (by decide)).trans ((gJ_sW).trans (gJ_sW)))))
                  have x17672 := HI.eqI hI17654 (p := 231) (b := 13) ((((gI_sW).trans ((hF17634.1 231 13 (by decide)).trans ((gI_sW).trans (gI_sW)))).trans hv17577))
                  obtain ⟨v17675, hv17675⟩ : ∃ v, gI g17544 231 20 = v := ⟨_, rfl⟩
                  have tv17675 := congrArg Int32.toInt hv17675
                  have x17676 := HI.eqI hI17654 (p := 231) (b := 20) ((((gI_sW).trans ((hF17634.1 231 20 (by decide)).trans ((gI_sW).trans (gI_sW)))).trans hv17675))
                  have x17678 := HI.eqI hI0 (p := 231) (b := 13) (hv16958)
                  obtain ⟨v17681, hv17681⟩ : ∃ v, gI g0 231 20 = v := ⟨_, rfl⟩
                  have tv17681 := congrArg Int32.toInt hv17681
                  have x17682 := HI.eqI hI0 (p := 231) (b := 20) (hv17681)
                  have hh := q15376
                  unfold HEI at hh
                  have x17683 := HI.eqI hI17332 (p := 231) (b := 13) ((((gI_sW).trans ((gI_sI_ne (by decide)).trans ((gI_sW).trans (q17321.1 231 13 (by decide))))).trans hv16961))
                  have x17684 := HI.eqI hI17332 (p := 231) (b := 15) (((gI_sW).trans (gI_sI_eq hI17326.1 kx_231 rfl _)))
                  have x17685 := HI.eqI hI17332 (p := 231) (b := 20) ((((gI_sW).trans ((gI_sI_ne (by decide)).trans ((gI_sW).trans ((q17321.1 231 20 (by decide)).trans ((hF16931.1 231 20 (by decide)).trans (q15375.1 231 20 (by decide))))))).trans hv17681))
                  have y17690 : (gI g16929 231 13).toInt = (gI g0 231 13).toInt := (mu16963.2.1 (show (gI g0 231 14).toInt = 0 from by omega) (by omega)).2.1
                  exact ⟨_, rfl, hI17654, hF17655, rfl, ⟨by omega, by omega, by omega, by omega, w2617670, by omega, (fun hbad => by have t0 := (c17574 (by omega)).1; have x0 := (c17574 (by omega)).2; have u0 : (gI _ 231 17).toInt ≤ (gI _ 231 17).toInt := x0.1; exact ⟨by omega, CLS.step (K := (gI g0 231 15).toInt) (n1 := (gI g0 231 17).toInt) (n2 := v17564.toInt) hC ⟨by omega, by omega⟩ ⟨by omega, by omega, by omega⟩ (fun i i0 i1 => ((eA_sA_ne (i := i) hI17633.1 ka_237 (by omega) (by omega) (by omega)).trans ((eA_c (hF17634.2.1 237 (by decide))).trans ((eA_sA_ne (i := i) hI17581.1 ka_237 (by omega) (by omega) (by omega)).trans ((eA_sA_ne (i := i) hI17545.1 ka_237 (by omega) (by omega) (by omega)).trans ((eA_c (hF17546.2.1 237 (by decide))).trans ((eA_sA_ne (i := i) hI17329.1 ka_237 (by omega) (by omega) (by omega)).trans ((eA_c gA_sI).trans ((eA_sA_ne (i := i) hI17311.1 ka_237 (by omega) (by omega) (by omega)).trans ((q17322 i i0 (by omega)).trans ((eA_c (hF16931.2.1 237 (by decide))).trans (eA_c (q15375.2.1 237 (by decide)))))))))))))) (by show (eA _ 237 (8 * (gI g0 231 15).toInt + 3)).toInt = (gI g0 231 17).toInt; rw [show 8 * (gI g0 231 15).toInt + 3 = (8 * v6.toInt + 3) by omega]; exact (congrArg Int32.toInt (((eA_sA_ne hI17633.1 ka_237 (by first | decide | omega) (by first | decide | omega) (by first | decide | omega)).trans ((eA_c (hF17634.2.1 237 (by decide))).trans ((eA_sA_ne hI17581.1 ka_237 (by first | decide | omega) (by first | decide | omega) (by first | decide | omega)).trans ((eA_sA_ne hI17545.1 ka_237 (by first | decide | omega) (by first | decide | omega) (by first | decide | omega)).trans ((eA_c (hF17546.2.1 237 (by decide))).trans (eA_sA_eq hI17329.1 ka_237 (by first | rfl | omega) (by first | decide | omega) (by first | decide | omega))))))))).trans (by omega)) (by show (eA _ 237 (8 * (gI g0 231 15).toInt + 4)).toInt = v17564.toInt; rw [show 8 * (gI g0 231 15).toInt + 4 = (8 * v6.toInt + 4) by omega]; exact (congrArg Int32.toInt (((eA_sA_ne hI17633.1 ka_237 (by first | decide | omega) (by first | decide | omega) (by first | decide | omega)).trans ((eA_c (hF17634.2.1 237 (by decide))).trans ((eA_sA_ne hI17581.1 ka_237 (by first | decide | omega) (by first | decide | omega) (by first | decide | omega)).trans (eA_sA_eq hI17545.1 ka_237 (by first | rfl | omega) (by first | decide | omega) (by first | decide | omega))))))).trans (by omega)) (by show (eA _ 237 (8 * (gI g0 231 15).toInt + 5)).toInt = v17564.toInt; rw [show 8 * (gI g0 231 15).toInt + 5 = (8 * v6.toInt + 5) by omega]; exact (congrArg Int32.toInt (((eA_sA_ne hI17633.1 ka_237 (by first | decide | omega) (by first | decide | omega) (by first | decide | omega)).trans ((eA_c (hF17634.2.1 237 (by decide))).trans (eA_sA_eq hI17581.1 ka_237 (by first | rfl | omega) (by first | decide | omega) (by first | decide | omega)))))).trans (by omega)) (by show (eA _ 237 (8 * (gI g0 231 15).toInt + 6)).toInt = (gI _ 231 17).toInt; rw [show 8 * (gI g0 231 15).toInt + 6 = (8 * v6.toInt + 6) by omega]; exact (congrArg Int32.toInt ((eA_sA_eq hI17633.1 ka_237 (by first | rfl | omega) (by first | decide | omega) (by first | decide | omega)))).trans (by omega)) (show SAME g0 _ (gI g0 231 17).toInt from (SAME.tr (SAME.tr (SAME.c hI17332 (((gA_sA_ne (by decide)).trans ((gA_sI).trans ((gA_sA_ne (by decide)).trans ((q17321.2.1 238 (by decide)).trans ((hF16931.2.1 238 (by decide)).trans (q15375.2.1 238 (by decide)))))))) (((gA_sA_ne (by decide)).trans ((gA_sI).trans ((gA_sA_ne (by decide)).trans ((q17321.2.1 239 (by decide)).trans ((hF16931.2.1 239 (by decide)).trans (q15375.2.1 239 (by decide))))))))) (EXPR.same x0) (by show _ ≤ (gI _ 231 17).toInt; omega)) (SAME.c hI17654 (((gA_sA_ne (by decide)).trans ((hF17634.2.1 238 (by decide)).trans ((gA_sA_ne (by decide)).trans (gA_sA_ne (by decide)))))) (((gA_sA_ne (by decide)).trans ((hF17634.2.1 239 (by decide)).trans ((gA_sA_ne (by decide)).trans (gA_sA_ne (by decide))))))) (Int.le_refl _))) (EXPR.code x0 (show SAME g17544 _ (gI g17544 231 17).toInt from (SAME.c hI17654 (((gA_sA_ne (by decide)).trans ((hF17634.2.1 238 (by decide)).trans ((gA_sA_ne (by decide)).trans (gA_sA_ne (by decide)))))) (((gA_sA_ne (by decide)).trans ((hF17634.2.1 239 (by decide)).trans ((gA_sA_ne (by decide)).trans (gA_sA_ne (by decide)))))))) (by show _ = (gI _ 231 17).toInt; omega) (by show _ = (gI _ 231 17).toInt; omega) (by show 0 ≤ (gI _ 231 17).toInt; omega)) (WfCode.nil' (by omega) (by omega) (by omega))⟩), (TKM.c hK17576 (((gA_sA_ne (by decide)).trans ((hF17634.2.1 236 (by decide)).trans ((gA_sA_ne (by decide)).trans (gA_sA_ne (by decide)))))) (((gI_sW).trans ((hF17634.1 231 8 (by decide)).trans ((gI_sW).trans (gI_sW))))) (((gI_sW).trans ((hF17634.1 231 9 (by decide)).trans ((gI_sW).trans (gI_sW))))) (((gI_sW).trans ((hF17634.1 231 10 (by decide)).trans ((gI_sW).trans (gI_sW))))) (((gI_sW).trans ((hF17634.1 231 11 (by decide)).trans ((gI_sW).trans (gI_sW))))) (((gJ_sW).trans ((hF17634.2.2 231 12 (by decide)).trans ((gJ_sW).trans (gJ_sW)))))), (fun c0 h => by have h1 := CLM.headH hI17332 h (show (gI g0 231 14).toInt = 0 from by omega) (by rw [(pI.ci hI17332 (((gI_sW).trans ((gI_sI_ne (by decide)).trans ((gI_sW).trans (q17321.1 231 9 (by decide)))))))]; exact (MUSTP.tok hK mu16963 (show (gI g0 231 14).toInt = 0 from by omega) (by omega))) (by omega) (show (gI g0 231 15).toInt < 12 from by omega) (pI.ci hI17332 (((gI_sW).trans ((gI_sI_ne (by decide)).trans ((gI_sW).trans ((q17321.1 231 20 (by decide)).trans ((hF16931.1 231 20 (by decide)).trans (q15375.1 231 20 (by decide))))))))) (show (gI _ 231 15).toInt = (gI g0 231 15).toInt + 1 from by omega) (show (gI _ 231 13).toInt = (gI g0 231 13).toInt from by omega); have h2 := CLM.sum (c17575.2.1 3 (Or.inl ⟨rfl, rfl⟩)) (TM.c (((gA_sA_ne (by decide)).trans ((gA_sI).trans ((gA_sA_ne (by decide)).trans ((q17321.2.1 236 (by decide)).trans ((hF16931.2.1 236 (by decide)).trans (q15375.2.1 236 (by decide))))))))) (nM.c (((gI_sW).trans ((gI_sI_ne (by decide)).trans ((gI_sW).trans ((q17321.1 231 8 (by decide)).trans ((hF16931.1 231 8 (by decide)).trans (q15375.1 231 8 (by decide))))))))) h1; have h3 := CLM.noif h2 (TKM.someC hK17576 (((hF17546.2.1 236 (by decide)).trans ((gA_sA_ne (by decide)).trans ((gA_sI).trans ((gA_sA_ne (by decide)).trans ((q17321.2.1 236 (by decide)).trans ((hF16931.2.1 236 (by decide)).trans (q15375.2.1 236 (by decide))))))))) (((hF17546.1 231 8 (by decide)).trans ((gI_sW).trans ((gI_sI_ne (by decide)).trans ((gI_sW).trans ((q17321.1 231 8 (by decide)).trans ((hF16931.1 231 8 (by decide)).trans (q15375.1 231 8 (by decide)))))))))).choose_spec (fun z => by have z2 : (gI g17544 231 14).toInt = 0 := z; omega); exact CLM.eqv h3 (pI.ci hI17654 (((gI_sW).trans ((hF17634.1 231 9 (by decide)).trans ((gI_sW).trans (gI_sW)))))) (pI.ci hI17654 (((gI_sW).trans ((hF17634.1 231 13 (by decide)).trans ((gI_sW).trans (gI_sW)))))) (pI.ci hI17654 (((gI_sW).trans ((hF17634.1 231 14 (by decide)).trans ((gI_sW).trans (gI_sW)))))) (pI.ci hI17654 (((gI_sW).trans ((hF17634.1 231 15 (by decide)).trans ((gI_sW).trans (gI_sW)))))) (pI.ci hI17654 (((gI_sW).trans ((hF17634.1 231 20 (by decide)).trans ((gI_sW).trans (gI_sW))))))), (fun h14 => ⟨fun n45 => N45_sH n45 (show (gI _ 231 15).toInt = (gI g0 231 15).toInt + 1 from by omega) (fun i i0 i1 => ((eA_sA_ne (i := i) hI17633.1 ka_237 (by omega) (by omega) (by omega)).trans ((eA_c (hF17634.2.1 237 (by decide))).trans ((eA_sA_ne (i := i) hI17581.1 ka_237 (by omega) (by omega) (by omega)).trans ((eA_sA_ne (i := i) hI17545.1 ka_237 (by omega) (by omega) (by omega)).trans ((eA_c (hF17546.2.1 237 (by decide))).trans ((eA_sA_ne (i := i) hI17329.1 ka_237 (by omega) (by omega) (by omega)).trans ((eA_c gA_sI).trans ((eA_sA_ne (i := i) hI17311.1 ka_237 (by omega) (by omega) (by omega)).trans ((q17322 i i0 (by omega)).trans ((eA_c (hF16931.2.1 237 (by decide))).trans (eA_c (q15375.2.1 237 (by decide)))))))))))))) (by show (eA _ 237 (8 * (gI g0 231 15).toInt + 4)).toInt = (gI g17544 231 17).toInt; rw [show 8 * (gI g0 231 15).toInt + 4 = (8 * v6.toInt + 4) by omega]; exact (congrArg Int32.toInt (((eA_sA_ne hI17633.1 ka_237 (by first | decide | omega) (by first | decide | omega) (by first | decide | omega)).trans ((eA_c (hF17634.2.1 237 (by decide))).trans ((eA_sA_ne hI17581.1 ka_237 (by first | decide | omega) (by first | decide | omega) (by first | decide | omega)).trans (eA_sA_eq hI17545.1 ka_237 (by first | rfl | omega) (by first | decide | omega) (by first | decide | omega))))))).trans (by omega)) (by show (eA _ 237 (8 * (gI g0 231 15).toInt + 5)).toInt = (gI g17544 231 17).toInt; rw [show 8 * (gI g0 231 15).toInt + 5 = (8 * v6.toInt + 5) by omega]; exact (congrArg Int32.toInt (((eA_sA_ne hI17633.1 ka_237 (by first | decide | omega) (by first | decide | omega) (by first | decide | omega)).trans ((eA_c (hF17634.2.1 237 (by decide))).trans (eA_sA_eq hI17581.1 ka_237 (by first | rfl | omega) (by first | decide | omega) (by first | decide | omega)))))).trans (by omega)), fun c0 h => by have hz : (gI _ 231 14).toInt = 0 := h14; have h1 := RGM_headH hI17332 h (TOK_at hI17332 (MUSTP.tok hK mu16963 (show (gI g0 231 14).toInt = 0 from by omega) (by omega)) (pI.c (((gI_sW).trans ((gI_sI_ne (by decide)).trans ((gI_sW).trans (q17321.1 231 9 (by decide)))))))) (by omega) (SMG_mk (((gA_sA_ne (by decide)).trans ((gA_sI).trans ((gA_sA_ne (by decide)).trans ((q17321.2.1 238 (by decide)).trans ((hF16931.2.1 238 (by decide)).trans (q15375.2.1 238 (by decide)))))))) (((gA_sA_ne (by decide)).trans ((gA_sI).trans ((gA_sA_ne (by decide)).trans ((q17321.2.1 239 (by decide)).trans ((hF16931.2.1 239 (by decide)).trans (q15375.2.1 239 (by decide)))))))) (((gI_sW).trans ((gI_sI_ne (by decide)).trans ((gI_sW).trans ((q17321.1 231 17 (by decide)).trans ((hF16931.1 231 17 (by decide)).trans (q15375.1 231 17 (by decide))))))))); have h2 := XPG_sum c17575.2.2 (show (gI g17544 231 14).toInt = 0 from by omega) (TM.c (((gA_sA_ne (by decide)).trans ((gA_sI).trans ((gA_sA_ne (by decide)).trans ((q17321.2.1 236 (by decide)).trans ((hF16931.2.1 236 (by decide)).trans (q15375.2.1 236 (by decide))))))))) (nM.c (((gI_sW).trans ((gI_sI_ne (by decide)).trans ((gI_sW).trans ((q17321.1 231 8 (by decide)).trans ((hF16931.1 231 8 (by decide)).trans (q15375.1 231 8 (by decide))))))))) h1; have h3 := RGM_noif h2 (TKM.someC hK17576 (((hF17546.2.1 236 (by decide)).trans ((gA_sA_ne (by decide)).trans ((gA_sI).trans ((gA_sA_ne (by decide)).trans ((q17321.2.1 236 (by decide)).trans ((hF16931.2.1 236 (by decide)).trans (q15375.2.1 236 (by decide))))))))) (((hF17546.1 231 8 (by decide)).trans ((gI_sW).trans ((gI_sI_ne (by decide)).trans ((gI_sW).trans ((q17321.1 231 8 (by decide)).trans ((hF16931.1 231 8 (by decide)).trans (q15375.1 231 8 (by decide)))))))))).choose_spec (by omega); have h7 := RGM_eqH hI17654 h3 (SMG_mk (((gA_sA_ne (by decide)).trans ((hF17634.2.1 238 (by decide)).trans ((gA_sA_ne (by decide)).trans (gA_sA_ne (by decide)))))) (((gA_sA_ne (by decide)).trans ((hF17634.2.1 239 (by decide)).trans ((gA_sA_ne (by decide)).trans (gA_sA_ne (by decide)))))) (((gI_sW).trans ((hF17634.1 231 17 (by decide)).trans ((gI_sW).trans (gI_sW)))))) (pI.c (((gI_sW).trans ((hF17634.1 231 9 (by decide)).trans ((gI_sW).trans (gI_sW)))))); rw [KLG_sH hI17654 (show 0 ≤ (gI g0 231 15).toInt from by omega) (show (gI _ 231 15).toInt = (gI g0 231 15).toInt + 1 from by omega) (fun i i0 i1 => ((eA_sA_ne (i := i) hI17633.1 ka_237 (by omega) (by omega) (by omega)).trans ((eA_c (hF17634.2.1 237 (by decide))).trans ((eA_sA_ne (i := i) hI17581.1 ka_237 (by omega) (by omega) (by omega)).trans ((eA_sA_ne (i := i) hI17545.1 ka_237 (by omega) (by omega) (by omega)).trans ((eA_c (hF17546.2.1 237 (by decide))).trans ((eA_sA_ne (i := i) hI17329.1 ka_237 (by omega) (by omega) (by omega)).trans ((eA_c gA_sI).trans ((eA_sA_ne (i := i) hI17311.1 ka_237 (by omega) (by omega) (by omega)).trans ((q17322 i i0 (by omega)).trans ((eA_c (hF16931.2.1 237 (by decide))).trans (eA_c (q15375.2.1 237 (by decide)))))))))))))) (by show (eA _ 237 (8 * (gI g0 231 15).toInt)).toInt = CDM g0 - 11; rw [show 8 * (gI g0 231 15).toInt = (8 * v6.toInt) by omega]; exact (congrArg Int32.toInt (((eA_sA_ne hI17633.1 ka_237 (by first | decide | omega) (by first | decide | omega) (by first | decide | omega)).trans ((eA_c (hF17634.2.1 237 (by decide))).trans ((eA_sA_ne hI17581.1 ka_237 (by first | decide | omega) (by first | decide | omega) (by first | decide | omega)).trans ((eA_sA_ne hI17545.1 ka_237 (by first | decide | omega) (by first | decide | omega) (by first | decide | omega)).trans ((eA_c (hF17546.2.1 237 (by decide))).trans ((eA_sA_ne hI17329.1 ka_237 (by first | decide | omega) (by first | decide | omega) (by first | decide | omega)).trans ((eA_c gA_sI).trans (eA_sA_eq hI17311.1 ka_237 (by first | rfl | omega) (by first | decide | omega) (by first | decide | omega))))))))))).trans (by omega)) (by show (eA _ 237 (8 * (gI g0 231 15).toInt + 3)).toInt = (gI g0 231 17).toInt; rw [show 8 * (gI g0 231 15).toInt + 3 = (8 * v6.toInt + 3) by omega]; exact (congrArg Int32.toInt (((eA_sA_ne hI17633.1 ka_237 (by first | decide | omega) (by first | decide | omega) (by first | decide | omega)).trans ((eA_c (hF17634.2.1 237 (by decide))).trans ((eA_sA_ne hI17581.1 ka_237 (by first | decide | omega) (by first | decide | omega) (by first | decide | omega)).trans ((eA_sA_ne hI17545.1 ka_237 (by first | decide | omega) (by first | decide | omega) (by first | decide | omega)).trans ((eA_c (hF17546.2.1 237 (by decide))).trans (eA_sA_eq hI17329.1 ka_237 (by first | rfl | omega) (by first | decide | omega) (by first | decide | omega))))))))).trans (by omega)) (by show (eA _ 237 (8 * (gI g0 231 15).toInt + 4)).toInt = (gI g17544 231 17).toInt; rw [show 8 * (gI g0 231 15).toInt + 4 = (8 * v6.toInt + 4) by omega]; exact (congrArg Int32.toInt (((eA_sA_ne hI17633.1 ka_237 (by first | decide | omega) (by first | decide | omega) (by first | decide | omega)).trans ((eA_c (hF17634.2.1 237 (by decide))).trans ((eA_sA_ne hI17581.1 ka_237 (by first | decide | omega) (by first | decide | omega) (by first | decide | omega)).trans (eA_sA_eq hI17545.1 ka_237 (by first | rfl | omega) (by first | decide | omega) (by first | decide | omega))))))).trans (by omega)) (by show (eA _ 237 (8 * (gI g0 231 15).toInt + 6)).toInt = (gI g17544 231 17).toInt; rw [show 8 * (gI g0 231 15).toInt + 6 = (8 * v6.toInt + 6) by omega]; exact (congrArg Int32.toInt ((eA_sA_eq hI17633.1 ka_237 (by first | rfl | omega) (by first | decide | omega) (by first | decide | omega)))).trans (by omega))]; exact h7⟩)⟩⟩
                · have c17651_ : v17635.toInt ≠ 0 := en_k_eq_f c17651
                  have i17696 := W26.two w2617649 isw17646 (by omega) (by decide)
                  have i17697 := BL.yes hb17650 (by omega)
                  refine At.enter rfl ?_
                  refine r_aload_n e17316 ?_
                  have x17698 := HI.eqI hI17633 (p := 231) (b := 8) ((((hF17634.1 231 8 (by decide)).trans ((gI_sW).trans ((gI_sW).trans ((hF17546.1 231 8 (by decide)).trans ((gI_sW).trans ((gI_sI_ne (by decide)).trans ((gI_sW).trans ((q17321.1 231 8 (by decide)).trans ((hF16931.1 231 8 (by decide)).trans (q15375.1 231 8 (by decide))))))))))).trans hv1))
                  refine r_callV 180 rfl [.ref 231] [] (Nat.le_of_ble_eq_true rfl) rfl (T_X11_next_231 _ hI17633 (by omega)) ?_
                  rintro _ _ ⟨g17700, rfl, hI17701, hF17702, rfl, hr17704⟩
                  refine At.stn ?_
                  have hF17705 := Fr.tr hF17637 hF17702 rfl rfl
                  have x17708 := HI.eqI hI17701 (p := 231) (b := 8) ((((hF17702.1 231 8 (by decide)).trans ((hF17634.1 231 8 (by decide)).trans ((gI_sW).trans ((gI_sW).trans ((hF17546.1 231 8 (by decide)).trans ((gI_sW).trans ((gI_sI_ne (by decide)).trans ((gI_sW).trans ((q17321.1 231 8 (by decide)).trans ((hF16931.1 231 8 (by decide)).trans (q15375.1 231 8 (by decide)))))))))))).trans hv1))
                  obtain ⟨v17709, hv17709⟩ : ∃ v, gI g17700 231 9 = v := ⟨_, rfl⟩
                  have rv17709 := RgF.at hI17701.2.1 (p := 231) (b := 9) rfl
                  rw [hv17709] at rv17709
                  dsimp only at rv17709
                  have tv17709 := congrArg Int32.toInt hv17709
                  have x17710 := HI.eqI hI17701 (p := 231) (b := 9) (hv17709)
                  obtain ⟨v17711, hv17711⟩ : ∃ v, gI g17700 231 10 = v := ⟨_, rfl⟩
                  have rv17711 := RgF.at hI17701.2.1 (p := 231) (b := 10) rfl
                  rw [hv17711] at rv17711
                  dsimp only at rv17711
                  have tv17711 := congrArg Int32.toInt hv17711
                  have x17712 := HI.eqI hI17701 (p := 231) (b := 10) (hv17711)
                  obtain ⟨v17713, hv17713⟩ : ∃ v, gI g17700 231 11 = v := ⟨_, rfl⟩
                  have tv17713 := congrArg Int32.toInt hv17713
                  have x17714 := HI.eqI hI17701 (p := 231) (b := 11) (hv17713)
                  obtain ⟨c17715, c17716, c17717, c17718, c17719, c17720, c17721⟩ := hr17704
                  have tok17722_ := c17721.2
                  rw [TM.c (((hF17634.2.1 236 (by decide)).trans ((gA_sA_ne (by decide)).trans (gA_sA_ne (by decide))))), nM.c (((hF17634.1 231 8 (by decide)).trans ((gI_sW).trans (gI_sW)))), pI.c (b := 10) (((hF17634.1 231 10 (by decide)).trans ((gI_sW).trans (gI_sW))))] at tok17722_
                  have tok17722 := TKM.tok hK17576 tok17722_
                  rw [TM.c (((hF17546.2.1 236 (by decide)).trans ((gA_sA_ne (by decide)).trans ((gA_sI).trans ((gA_sA_ne (by decide)).trans ((q17321.2.1 236 (by decide)).trans ((hF16931.2.1 236 (by decide)).trans (q15375.2.1 236 (by decide))))))))), nM.c (((hF17546.1 231 8 (by decide)).trans ((gI_sW).trans ((gI_sI_ne (by decide)).trans ((gI_sW).trans ((q17321.1 231 8 (by decide)).trans ((hF16931.1 231 8 (by decide)).trans (q15375.1 231 8 (by decide)))))))))] at tok17722
                  have hK17723 := c17721.1
                  refine At.enter rfl ?_
                  refine r_aload_n e17316 ?_
                  refine r_iconst 1 rfl ?_
                  obtain ⟨v17728, hv17728⟩ : ∃ v, gJ g17700 231 12 = v := ⟨_, rfl⟩
                  have x17729 := HI.eqJ hI17701 (b := 12) (hv17728)
                  have x17730 := HI.eqI hI17701 (p := 231) (b := 14) ((((hF17702.1 231 14 (by decide)).trans ((hF17634.1 231 14 (by decide)).trans ((gI_sW).trans (gI_sW)))).trans hv17562))
                  have x17731 := HI.eqI hI17701 (p := 231) (b := 17) ((((hF17702.1 231 17 (by decide)).trans ((hF17634.1 231 17 (by decide)).trans ((gI_sW).trans (gI_sW)))).trans hv17564))
                  have x17732 := HI.eqI hI17701 (p := 231) (b := 23) ((((hF17702.1 231 23 (by decide)).trans ((hF17634.1 231 23 (by decide)).trans ((gI_sW).trans (gI_sW)))).trans hv17566))
                  have y17733 := (c17574 (by omega)).1
                  refine r_callV 185 rfl [.ref 231, .int 1] [] (Nat.le_of_ble_eq_true rfl) rfl (T_X11_readExpression_231 _ hI17701 1 (by decide) (by refine ⟨?_, ?_, ?_, ?_⟩ <;> omega) (by omega) (by omega) c17720 hK17723) ?_
                  rintro _ _ ⟨g17735, rfl, hI17736, hF17737, rfl, hr17739⟩
                  refine At.stn ?_
                  have hF17740 := Fr.tr hF17705 hF17737 rfl rfl
                  have x17744 := HI.eqI hI17736 (p := 231) (b := 8) ((((hF17737.1 231 8 (by decide)).trans ((hF17702.1 231 8 (by decide)).trans ((hF17634.1 231 8 (by decide)).trans ((gI_sW).trans ((gI_sW).trans ((hF17546.1 231 8 (by decide)).trans ((gI_sW).trans ((gI_sI_ne (by decide)).trans ((gI_sW).trans ((q17321.1 231 8 (by decide)).trans ((hF16931.1 231 8 (by decide)).trans (q15375.1 231 8 (by decide))))))))))))).trans hv1))
                  obtain ⟨v17745, hv17745⟩ : ∃ v, gI g17735 231 9 = v := ⟨_, rfl⟩
                  have rv17745 := RgF.at hI17736.2.1 (p := 231) (b := 9) rfl
                  rw [hv17745] at rv17745
                  dsimp only at rv17745
                  have tv17745 := congrArg Int32.toInt hv17745
                  have x17746 := HI.eqI hI17736 (p := 231) (b := 9) (hv17745)
                  obtain ⟨v17747, hv17747⟩ : ∃ v, gI g17735 231 10 = v := ⟨_, rfl⟩
                  have rv17747 := RgF.at hI17736.2.1 (p := 231) (b := 10) rfl
                  rw [hv17747] at rv17747
                  dsimp only at rv17747
                  have tv17747 := congrArg Int32.toInt hv17747
                  have x17748 := HI.eqI hI17736 (p := 231) (b := 10) (hv17747)
                  obtain ⟨v17749, hv17749⟩ : ∃ v, gI g17735 231 11 = v := ⟨_, rfl⟩
                  have tv17749 := congrArg Int32.toInt hv17749
                  have x17750 := HI.eqI hI17736 (p := 231) (b := 11) (hv17749)
                  obtain ⟨v17751, hv17751⟩ : ∃ v, gJ g17735 231 12 = v := ⟨_, rfl⟩
                  have x17752 := HI.eqJ hI17736 (b := 12) (hv17751)
                  obtain ⟨v17753, hv17753⟩ : ∃ v, gI g17735 231 14 = v := ⟨_, rfl⟩
                  have tv17753 := congrArg Int32.toInt hv17753
                  have x17754 := HI.eqI hI17736 (p := 231) (b := 14) (hv17753)
                  obtain ⟨v17755, hv17755⟩ : ∃ v, gI g17735 231 17 = v := ⟨_, rfl⟩
                  have rv17755 := RgF.at hI17736.2.1 (p := 231) (b := 17) rfl
                  rw [hv17755] at rv17755
                  dsimp only at rv17755
                  have tv17755 := congrArg Int32.toInt hv17755
                  have x17756 := HI.eqI hI17736 (p := 231) (b := 17) (hv17755)
                  obtain ⟨v17757, hv17757⟩ : ∃ v, gI g17735 231 23 = v := ⟨_, rfl⟩
                  have rv17757 := RgF.at hI17736.2.1 (p := 231) (b := 23) rfl
                  rw [hv17757] at rv17757
                  dsimp only at rv17757
                  have tv17757 := congrArg Int32.toInt hv17757
                  have x17758 := HI.eqI hI17736 (p := 231) (b := 23) (hv17757)
                  obtain ⟨c17759, c17760, c17761, c17762, c17763, c17764, c17765, c17766⟩ := hr17739
                  have hK17767 := c17766.1
                  obtain ⟨v17768, hv17768⟩ : ∃ v, gI g17735 231 13 = v := ⟨_, rfl⟩
                  have tv17768 := congrArg Int32.toInt hv17768
                  have x17769 := HI.eqI hI17736 (p := 231) (b := 13) (hv17768)
                  refine At.enter rfl ?_
                  refine r_aload_n e17316 ?_
                  refine q_getR (Sh.ref hI17736.1 kx_231 rfl) ?_
                  refine r_iload_n e17318 ?_
                  refine r_bipush 6 rfl ?_
                  refine q_iadd (v16971.toInt + 6) rfl (by omega) (fun v17771 hv17771 => ?_)
                  refine r_aload_n e17316 ?_
                  refine q_getI (Sh.int hI17736.1 kx_231 rfl) v17755 hv17755 ?_
                  refine q_iast (Sh.arr hI17736.1 ka_237) ((8 * v6.toInt + 6)) (by omega) (by omega) ?_
                  have hI17772 := HI.wA0 hI17736 ka_237 (p := 237) rfl rfl ((8 * v6.toInt + 6)) (v17755)
                  have hF17773 := Fr.wA (p := 237) (j := (8 * v6.toInt + 6)) (v := v17755) hF17740 rfl
                  refine r_vret ?_
                  have x17774 := HI.eqI hI17772 (p := 231) (b := 8) ((((gI_sW).trans ((hF17737.1 231 8 (by decide)).trans ((hF17702.1 231 8 (by decide)).trans ((hF17634.1 231 8 (by decide)).trans ((gI_sW).trans ((gI_sW).trans ((hF17546.1 231 8 (by decide)).trans ((gI_sW).trans ((gI_sI_ne (by decide)).trans ((gI_sW).trans ((q17321.1 231 8 (by decide)).trans ((hF16931.1 231 8 (by decide)).trans (q15375.1 231 8 (by decide)))))))))))))).trans hv1))
                  have x17775 := HI.eqI hI17772 (p := 231) (b := 9) (((gI_sW).trans hv17745))
                  have x17776 := HI.eqI hI17772 (p := 231) (b := 10) (((gI_sW).trans hv17747))
                  have x17777 := HI.eqI hI17772 (p := 231) (b := 11) (((gI_sW).trans hv17749))
                  have x17778 := HI.eqI hI17772 (p := 231) (b := 14) (((gI_sW).trans hv17753))
                  have x17779 := HI.eqI hI17772 (p := 231) (b := 15) (((gI_sW).trans ((hF17737.1 231 15 (by decide)).trans ((hF17702.1 231 15 (by decide)).trans ((hF17634.1 231 15 (by decide)).trans ((gI_sW).trans ((gI_sW).trans ((hF17546.1 231 15 (by decide)).trans ((gI_sW).trans (gI_sI_eq hI17326.1 kx_231 rfl _))))))))))
                  have x17780 := HI.eqI hI17772 (p := 231) (b := 17) (((gI_sW).trans hv17755))
                  have x17781 := HI.eqI hI0 (p := 231) (b := 8) (hv1)
                  have x17782 := HI.eqI hI0 (p := 231) (b := 9) (hv2)
                  have x17783 := HI.eqI hI0 (p := 231) (b := 10) (hv3)
                  have x17784 := HI.eqI hI0 (p := 231) (b := 11) (hv4)
                  have x17785 := HI.eqI hI0 (p := 231) (b := 14) (hv5)
                  have x17786 := HI.eqI hI0 (p := 231) (b := 15) (hv6)
                  have x17787 := HI.eqI hI0 (p := 231) (b := 17) (hv7)
                  have w2617788 := W26.cong c17763 hI17772 ((gI_sW)) ((gI_sW)) ((gI_sW)) ((gJ_sW))
                  have x17790 := HI.eqI hI17772 (p := 231) (b := 13) (((gI_sW).trans hv17768))
                  obtain ⟨v17793, hv17793⟩ : ∃ v, gI g17735 231 20 = v := ⟨_, rfl⟩
                  have tv17793 := congrArg Int32.toInt hv17793
                  have x17794 := HI.eqI hI17772 (p := 231) (b := 20) (((gI_sW).trans hv17793))
                  have x17796 := HI.eqI hI0 (p := 231) (b := 13) (hv16958)
                  obtain ⟨v17799, hv17799⟩ : ∃ v, gI g0 231 20 = v := ⟨_, rfl⟩
                  have tv17799 := congrArg Int32.toInt hv17799
                  have x17800 := HI.eqI hI0 (p := 231) (b := 20) (hv17799)
                  have hh := q15376
                  unfold HEI at hh
                  have x17801 := HI.eqI hI17332 (p := 231) (b := 13) ((((gI_sW).trans ((gI_sI_ne (by decide)).trans ((gI_sW).trans (q17321.1 231 13 (by decide))))).trans hv16961))
                  have x17802 := HI.eqI hI17332 (p := 231) (b := 15) (((gI_sW).trans (gI_sI_eq hI17326.1 kx_231 rfl _)))
                  have x17803 := HI.eqI hI17332 (p := 231) (b := 20) ((((gI_sW).trans ((gI_sI_ne (by decide)).trans ((gI_sW).trans ((q17321.1 231 20 (by decide)).trans ((hF16931.1 231 20 (by decide)).trans (q15375.1 231 20 (by decide))))))).trans hv17799))
                  have y17808 : (gI g16929 231 13).toInt = (gI g0 231 13).toInt := (mu16963.2.1 (show (gI g0 231 14).toInt = 0 from by omega) (by omega)).2.1
                  have x17810 := HI.eqI hI17633 (p := 231) (b := 14) ((((hF17634.1 231 14 (by decide)).trans ((gI_sW).trans (gI_sW))).trans hv17562))
                  exact ⟨_, rfl, hI17772, hF17773, rfl, ⟨by omega, by omega, by omega, by omega, w2617788, by omega, (fun hbad => by have t0 := (c17574 (by omega)).1; have x0 := (c17574 (by omega)).2; have u0 : (gI _ 231 17).toInt ≤ (gI _ 231 17).toInt := x0.1; have t1 := (c17765 (by omega)).1; have x1 := (c17765 (by omega)).2; have u1 : (gI _ 231 17).toInt ≤ (gI _ 231 17).toInt := x1.1; exact ⟨by omega, CLS.step (K := (gI g0 231 15).toInt) (n1 := (gI g0 231 17).toInt) (n2 := v17564.toInt) hC ⟨by omega, by omega⟩ ⟨by omega, by omega, by omega⟩ (fun i i0 i1 => ((eA_sA_ne (i := i) hI17736.1 ka_237 (by omega) (by omega) (by omega)).trans ((eA_c (hF17737.2.1 237 (by decide))).trans ((eA_c (hF17702.2.1 237 (by decide))).trans ((eA_c (hF17634.2.1 237 (by decide))).trans ((eA_sA_ne (i := i) hI17581.1 ka_237 (by omega) (by omega) (by omega)).trans ((eA_sA_ne (i := i) hI17545.1 ka_237 (by omega) (by omega) (by omega)).trans ((eA_c (hF17546.2.1 237 (by decide))).trans ((eA_sA_ne (i := i) hI17329.1 ka_237 (by omega) (by omega) (by omega)).trans ((eA_c gA_sI).trans ((eA_sA_ne (i := i) hI17311.1 ka_237 (by omega) (by omega) (by omega)).trans ((q17322 i i0 (by omega)).trans ((eA_c (hF16931.2.1 237 (by decide))).trans (eA_c (q15375.2.1 237 (by decide)))))))))))))))) (by show (eA _ 237 (8 * (gI g0 231 15).toInt + 3)).toInt = (gI g0 231 17).toInt; rw [show 8 * (gI g0 231 15).toInt + 3 = (8 * v6.toInt + 3) by omega]; exact (congrArg Int32.toInt (((eA_sA_ne hI17736.1 ka_237 (by first | decide | omega) (by first | decide | omega) (by first | decide | omega)).trans ((eA_c (hF17737.2.1 237 (by decide))).trans ((eA_c (hF17702.2.1 237 (by decide))).trans ((eA_c (hF17634.2.1 237 (by decide))).trans ((eA_sA_ne hI17581.1 ka_237 (by first | decide | omega) (by first | decide | omega) (by first | decide | omega)).trans ((eA_sA_ne hI17545.1 ka_237 (by first | decide | omega) (by first | decide | omega) (by first | decide | omega)).trans ((eA_c (hF17546.2.1 237 (by decide))).trans (eA_sA_eq hI17329.1 ka_237 (by first | rfl | omega) (by first | decide | omega) (by first | decide | omega))))))))))).trans (by omega)) (by show (eA _ 237 (8 * (gI g0 231 15).toInt + 4)).toInt = v17564.toInt; rw [show 8 * (gI g0 231 15).toInt + 4 = (8 * v6.toInt + 4) by omega]; exact (congrArg Int32.toInt (((eA_sA_ne hI17736.1 ka_237 (by first | decide | omega) (by first | decide | omega) (by first | decide | omega)).trans ((eA_c (hF17737.2.1 237 (by decide))).trans ((eA_c (hF17702.2.1 237 (by decide))).trans ((eA_c (hF17634.2.1 237 (by decide))).trans ((eA_sA_ne hI17581.1 ka_237 (by first | decide | omega) (by first | decide | omega) (by first | decide | omega)).trans (eA_sA_eq hI17545.1 ka_237 (by first | rfl | omega) (by first | decide | omega) (by first | decide | omega))))))))).trans (by omega)) (by show (eA _ 237 (8 * (gI g0 231 15).toInt + 5)).toInt = v17564.toInt; rw [show 8 * (gI g0 231 15).toInt + 5 = (8 * v6.toInt + 5) by omega]; exact (congrArg Int32.toInt (((eA_sA_ne hI17736.1 ka_237 (by first | decide | omega) (by first | decide | omega) (by first | decide | omega)).trans ((eA_c (hF17737.2.1 237 (by decide))).trans ((eA_c (hF17702.2.1 237 (by decide))).trans ((eA_c (hF17634.2.1 237 (by decide))).trans (eA_sA_eq hI17581.1 ka_237 (by first | rfl | omega) (by first | decide | omega) (by first | decide | omega)))))))).trans (by omega)) (by show (eA _ 237 (8 * (gI g0 231 15).toInt + 6)).toInt = (gI _ 231 17).toInt; rw [show 8 * (gI g0 231 15).toInt + 6 = (8 * v6.toInt + 6) by omega]; exact (congrArg Int32.toInt ((eA_sA_eq hI17736.1 ka_237 (by first | rfl | omega) (by first | decide | omega) (by first | decide | omega)))).trans (by omega)) (show SAME g0 _ (gI g0 231 17).toInt from (SAME.tr (SAME.tr (SAME.tr (SAME.tr (SAME.c hI17332 (((gA_sA_ne (by decide)).trans ((gA_sI).trans ((gA_sA_ne (by decide)).trans ((q17321.2.1 238 (by decide)).trans ((hF16931.2.1 238 (by decide)).trans (q15375.2.1 238 (by decide)))))))) (((gA_sA_ne (by decide)).trans ((gA_sI).trans ((gA_sA_ne (by decide)).trans ((q17321.2.1 239 (by decide)).trans ((hF16931.2.1 239 (by decide)).trans (q15375.2.1 239 (by decide))))))))) (EXPR.same x0) (by show _ ≤ (gI _ 231 17).toInt; omega)) (SAME.c hI17701 (((hF17702.2.1 238 (by decide)).trans ((hF17634.2.1 238 (by decide)).trans ((gA_sA_ne (by decide)).trans (gA_sA_ne (by decide)))))) (((hF17702.2.1 239 (by decide)).trans ((hF17634.2.1 239 (by decide)).trans ((gA_sA_ne (by decide)).trans (gA_sA_ne (by decide))))))) (by omega)) (EXPR.same x1) (by show _ ≤ (gI _ 231 17).toInt; omega)) (SAME.c hI17772 ((gA_sA_ne (by decide))) ((gA_sA_ne (by decide)))) (Int.le_refl _))) (EXPR.code x0 (show SAME g17544 _ (gI g17544 231 17).toInt from (SAME.tr (SAME.tr (SAME.c hI17701 (((hF17702.2.1 238 (by decide)).trans ((hF17634.2.1 238 (by decide)).trans ((gA_sA_ne (by decide)).trans (gA_sA_ne (by decide)))))) (((hF17702.2.1 239 (by decide)).trans ((hF17634.2.1 239 (by decide)).trans ((gA_sA_ne (by decide)).trans (gA_sA_ne (by decide))))))) (EXPR.same x1) (by show _ ≤ (gI _ 231 17).toInt; omega)) (SAME.c hI17772 ((gA_sA_ne (by decide))) ((gA_sA_ne (by decide)))) (Int.le_refl _))) (by show _ = (gI _ 231 17).toInt; omega) (by show _ = (gI _ 231 17).toInt; omega) (by show 0 ≤ (gI _ 231 17).toInt; omega)) (EXPR.code x1 (show SAME g17735 _ (gI g17735 231 17).toInt from (SAME.c hI17772 ((gA_sA_ne (by decide))) ((gA_sA_ne (by decide))))) (by show _ = (gI _ 231 17).toInt; omega) (by show _ = (gI _ 231 17).toInt; omega) (by show 0 ≤ (gI _ 231 17).toInt; omega))⟩), (TKM.c hK17767 ((gA_sA_ne (by decide))) ((gI_sW)) ((gI_sW)) ((gI_sW)) ((gI_sW)) ((gJ_sW))), (fun c0 h => by have h1 := CLM.headH hI17332 h (show (gI g0 231 14).toInt = 0 from by omega) (by rw [(pI.ci hI17332 (((gI_sW).trans ((gI_sI_ne (by decide)).trans ((gI_sW).trans (q17321.1 231 9 (by decide)))))))]; exact (MUSTP.tok hK mu16963 (show (gI g0 231 14).toInt = 0 from by omega) (by omega))) (by omega) (show (gI g0 231 15).toInt < 12 from by omega) (pI.ci hI17332 (((gI_sW).trans ((gI_sI_ne (by decide)).trans ((gI_sW).trans ((q17321.1 231 20 (by decide)).trans ((hF16931.1 231 20 (by decide)).trans (q15375.1 231 20 (by decide))))))))) (show (gI _ 231 15).toInt = (gI g0 231 15).toInt + 1 from by omega) (show (gI _ 231 13).toInt = (gI g0 231 13).toInt from by omega); have h2 := CLM.sum (c17575.2.1 3 (Or.inl ⟨rfl, rfl⟩)) (TM.c (((gA_sA_ne (by decide)).trans ((gA_sI).trans ((gA_sA_ne (by decide)).trans ((q17321.2.1 236 (by decide)).trans ((hF16931.2.1 236 (by decide)).trans (q15375.2.1 236 (by decide))))))))) (nM.c (((gI_sW).trans ((gI_sI_ne (by decide)).trans ((gI_sW).trans ((q17321.1 231 8 (by decide)).trans ((hF16931.1 231 8 (by decide)).trans (q15375.1 231 8 (by decide))))))))) h1; have h3 := CLM.eqvH hI17633 h2 (pI.ci hI17633 (((hF17634.1 231 9 (by decide)).trans ((gI_sW).trans (gI_sW))))) (pI.ci hI17633 (((hF17634.1 231 13 (by decide)).trans ((gI_sW).trans (gI_sW))))) (pI.ci hI17633 (((hF17634.1 231 14 (by decide)).trans ((gI_sW).trans (gI_sW))))) (pI.ci hI17633 (((hF17634.1 231 15 (by decide)).trans ((gI_sW).trans (gI_sW))))) (pI.ci hI17633 (((hF17634.1 231 20 (by decide)).trans ((gI_sW).trans (gI_sW))))); have h4 := CLM.ifs (g' := g17700) h3 (show (gI _ 231 14).toInt = 0 from by omega) (by rw [(pI.ci hI17633 (((hF17634.1 231 9 (by decide)).trans ((gI_sW).trans (gI_sW)))))]; exact tok17722) (by omega) (pI.c (hF17702.1 231 20 (by decide))) (pI.c (hF17702.1 231 15 (by decide))) (pI.c (hF17702.1 231 13 (by decide))); have h5 := CLM.test (c17766.2.1 4 (Or.inr ⟨rfl, by decide⟩)) (TM.c (((hF17702.2.1 236 (by decide)).trans ((hF17634.2.1 236 (by decide)).trans ((gA_sA_ne (by decide)).trans ((gA_sA_ne (by decide)).trans ((hF17546.2.1 236 (by decide)).trans ((gA_sA_ne (by decide)).trans ((gA_sI).trans ((gA_sA_ne (by decide)).trans ((q17321.2.1 236 (by decide)).trans ((hF16931.2.1 236 (by decide)).trans (q15375.2.1 236 (by decide)))))))))))))) (nM.c (((hF17702.1 231 8 (by decide)).trans ((hF17634.1 231 8 (by decide)).trans ((gI_sW).trans ((gI_sW).trans ((hF17546.1 231 8 (by decide)).trans ((gI_sW).trans ((gI_sI_ne (by decide)).trans ((gI_sW).trans ((q17321.1 231 8 (by decide)).trans ((hF16931.1 231 8 (by decide)).trans (q15375.1 231 8 (by decide)))))))))))))) h4; exact CLM.eqv h5 (pI.ci hI17772 ((gI_sW))) (pI.ci hI17772 ((gI_sW))) (pI.ci hI17772 ((gI_sW))) (pI.ci hI17772 ((gI_sW))) (pI.ci hI17772 ((gI_sW)))), (fun h14 => ⟨fun n45 => N45_sH n45 (show (gI _ 231 15).toInt = (gI g0 231 15).toInt + 1 from by omega) (fun i i0 i1 => ((eA_sA_ne (i := i) hI17736.1 ka_237 (by omega) (by omega) (by omega)).trans ((eA_c (hF17737.2.1 237 (by decide))).trans ((eA_c (hF17702.2.1 237 (by decide))).trans ((eA_c (hF17634.2.1 237 (by decide))).trans ((eA_sA_ne (i := i) hI17581.1 ka_237 (by omega) (by omega) (by omega)).trans ((eA_sA_ne (i := i) hI17545.1 ka_237 (by omega) (by omega) (by omega)).trans ((eA_c (hF17546.2.1 237 (by decide))).trans ((eA_sA_ne (i := i) hI17329.1 ka_237 (by omega) (by omega) (by omega)).trans ((eA_c gA_sI).trans ((eA_sA_ne (i := i) hI17311.1 ka_237 (by omega) (by omega) (by omega)).trans ((q17322 i i0 (by omega)).trans ((eA_c (hF16931.2.1 237 (by decide))).trans (eA_c (q15375.2.1 237 (by decide)))))))))))))))) (by show (eA _ 237 (8 * (gI g0 231 15).toInt + 4)).toInt = (gI g17544 231 17).toInt; rw [show 8 * (gI g0 231 15).toInt + 4 = (8 * v6.toInt + 4) by omega]; exact (congrArg Int32.toInt (((eA_sA_ne hI17736.1 ka_237 (by first | decide | omega) (by first | decide | omega) (by first | decide | omega)).trans ((eA_c (hF17737.2.1 237 (by decide))).trans ((eA_c (hF17702.2.1 237 (by decide))).trans ((eA_c (hF17634.2.1 237 (by decide))).trans ((eA_sA_ne hI17581.1 ka_237 (by first | decide | omega) (by first | decide | omega) (by first | decide | omega)).trans (eA_sA_eq hI17545.1 ka_237 (by first | rfl | omega) (by first | decide | omega) (by first | decide | omega))))))))).trans (by omega)) (by show (eA _ 237 (8 * (gI g0 231 15).toInt + 5)).toInt = (gI g17544 231 17).toInt; rw [show 8 * (gI g0 231 15).toInt + 5 = (8 * v6.toInt + 5) by omega]; exact (congrArg Int32.toInt (((eA_sA_ne hI17736.1 ka_237 (by first | decide | omega) (by first | decide | omega) (by first | decide | omega)).trans ((eA_c (hF17737.2.1 237 (by decide))).trans ((eA_c (hF17702.2.1 237 (by decide))).trans ((eA_c (hF17634.2.1 237 (by decide))).trans (eA_sA_eq hI17581.1 ka_237 (by first | rfl | omega) (by first | decide | omega) (by first | decide | omega)))))))).trans (by omega)), fun c0 h => by have hz : (gI _ 231 14).toInt = 0 := h14; have h1 := RGM_headH hI17332 h (TOK_at hI17332 (MUSTP.tok hK mu16963 (show (gI g0 231 14).toInt = 0 from by omega) (by omega)) (pI.c (((gI_sW).trans ((gI_sI_ne (by decide)).trans ((gI_sW).trans (q17321.1 231 9 (by decide)))))))) (by omega) (SMG_mk (((gA_sA_ne (by decide)).trans ((gA_sI).trans ((gA_sA_ne (by decide)).trans ((q17321.2.1 238 (by decide)).trans ((hF16931.2.1 238 (by decide)).trans (q15375.2.1 238 (by decide)))))))) (((gA_sA_ne (by decide)).trans ((gA_sI).trans ((gA_sA_ne (by decide)).trans ((q17321.2.1 239 (by decide)).trans ((hF16931.2.1 239 (by decide)).trans (q15375.2.1 239 (by decide)))))))) (((gI_sW).trans ((gI_sI_ne (by decide)).trans ((gI_sW).trans ((q17321.1 231 17 (by decide)).trans ((hF16931.1 231 17 (by decide)).trans (q15375.1 231 17 (by decide))))))))); have h2 := XPG_sum c17575.2.2 (show (gI g17544 231 14).toInt = 0 from by omega) (TM.c (((gA_sA_ne (by decide)).trans ((gA_sI).trans ((gA_sA_ne (by decide)).trans ((q17321.2.1 236 (by decide)).trans ((hF16931.2.1 236 (by decide)).trans (q15375.2.1 236 (by decide))))))))) (nM.c (((gI_sW).trans ((gI_sI_ne (by decide)).trans ((gI_sW).trans ((q17321.1 231 8 (by decide)).trans ((hF16931.1 231 8 (by decide)).trans (q15375.1 231 8 (by decide))))))))) h1; have h3 := RGM_eqH hI17633 h2 (SMG_mk (((hF17634.2.1 238 (by decide)).trans ((gA_sA_ne (by decide)).trans (gA_sA_ne (by decide))))) (((hF17634.2.1 239 (by decide)).trans ((gA_sA_ne (by decide)).trans (gA_sA_ne (by decide))))) (((hF17634.1 231 17 (by decide)).trans ((gI_sW).trans (gI_sW))))) (pI.c (((hF17634.1 231 9 (by decide)).trans ((gI_sW).trans (gI_sW))))); have h4 := RGM_if (g' := g17700) h3 (TOK_fr hI17633 tok17722 (pI.c (((hF17634.1 231 9 (by decide)).trans ((gI_sW).trans (gI_sW)))))) (by omega) (SMG_mk (hF17702.2.1 238 (by decide)) (hF17702.2.1 239 (by decide)) (hF17702.1 231 17 (by decide))); have h5 := RGM_eqH hI17701 h4 SMG_rf rfl; have h6 := XPG_test c17766.2.2 rfl (show (gI g17735 231 14).toInt = 0 from by omega) (TM.c (((hF17702.2.1 236 (by decide)).trans ((hF17634.2.1 236 (by decide)).trans ((gA_sA_ne (by decide)).trans ((gA_sA_ne (by decide)).trans ((hF17546.2.1 236 (by decide)).trans ((gA_sA_ne (by decide)).trans ((gA_sI).trans ((gA_sA_ne (by decide)).trans ((q17321.2.1 236 (by decide)).trans ((hF16931.2.1 236 (by decide)).trans (q15375.2.1 236 (by decide)))))))))))))) (nM.c (((hF17702.1 231 8 (by decide)).trans ((hF17634.1 231 8 (by decide)).trans ((gI_sW).trans ((gI_sW).trans ((hF17546.1 231 8 (by decide)).trans ((gI_sW).trans ((gI_sI_ne (by decide)).trans ((gI_sW).trans ((q17321.1 231 8 (by decide)).trans ((hF16931.1 231 8 (by decide)).trans (q15375.1 231 8 (by decide)))))))))))))) h5; have h7 := RGM_eqH hI17772 h6 (SMG_mk ((gA_sA_ne (by decide))) ((gA_sA_ne (by decide))) ((gI_sW))) (pI.c ((gI_sW))); rw [KLG_sH hI17772 (show 0 ≤ (gI g0 231 15).toInt from by omega) (show (gI _ 231 15).toInt = (gI g0 231 15).toInt + 1 from by omega) (fun i i0 i1 => ((eA_sA_ne (i := i) hI17736.1 ka_237 (by omega) (by omega) (by omega)).trans ((eA_c (hF17737.2.1 237 (by decide))).trans ((eA_c (hF17702.2.1 237 (by decide))).trans ((eA_c (hF17634.2.1 237 (by decide))).trans ((eA_sA_ne (i := i) hI17581.1 ka_237 (by omega) (by omega) (by omega)).trans ((eA_sA_ne (i := i) hI17545.1 ka_237 (by omega) (by omega) (by omega)).trans ((eA_c (hF17546.2.1 237 (by decide))).trans ((eA_sA_ne (i := i) hI17329.1 ka_237 (by omega) (by omega) (by omega)).trans ((eA_c gA_sI).trans ((eA_sA_ne (i := i) hI17311.1 ka_237 (by omega) (by omega) (by omega)).trans ((q17322 i i0 (by omega)).trans ((eA_c (hF16931.2.1 237 (by decide))).trans (eA_c (q15375.2.1 237 (by decide)))))))))))))))) (by show (eA _ 237 (8 * (gI g0 231 15).toInt)).toInt = CDM g0 - 11; rw [show 8 * (gI g0 231 15).toInt = (8 * v6.toInt) by omega]; exact (congrArg Int32.toInt (((eA_sA_ne hI17736.1 ka_237 (by first | decide | omega) (by first | decide | omega) (by first | decide | omega)).trans ((eA_c (hF17737.2.1 237 (by decide))).trans ((eA_c (hF17702.2.1 237 (by decide))).trans ((eA_c (hF17634.2.1 237 (by decide))).trans ((eA_sA_ne hI17581.1 ka_237 (by first | decide | omega) (by first | decide | omega) (by first | decide | omega)).trans ((eA_sA_ne hI17545.1 ka_237 (by first | decide | omega) (by first | decide | omega) (by first | decide | omega)).trans ((eA_c (hF17546.2.1 237 (by decide))).trans ((eA_sA_ne hI17329.1 ka_237 (by first | decide | omega) (by first | decide | omega) (by first | decide | omega)).trans ((eA_c gA_sI).trans (eA_sA_eq hI17311.1 ka_237 (by first | rfl | omega) (by first | decide | omega) (by first | decide | omega))))))))))))).trans (by omega)) (by show (eA _ 237 (8 * (gI g0 231 15).toInt + 3)).toInt = (gI g0 231 17).toInt; rw [show 8 * (gI g0 231 15).toInt + 3 = (8 * v6.toInt + 3) by omega]; exact (congrArg Int32.toInt (((eA_sA_ne hI17736.1 ka_237 (by first | decide | omega) (by first | decide | omega) (by first | decide | omega)).trans ((eA_c (hF17737.2.1 237 (by decide))).trans ((eA_c (hF17702.2.1 237 (by decide))).trans ((eA_c (hF17634.2.1 237 (by decide))).trans ((eA_sA_ne hI17581.1 ka_237 (by first | decide | omega) (by first | decide | omega) (by first | decide | omega)).trans ((eA_sA_ne hI17545.1 ka_237 (by first | decide | omega) (by first | decide | omega) (by first | decide | omega)).trans ((eA_c (hF17546.2.1 237 (by decide))).trans (eA_sA_eq hI17329.1 ka_237 (by first | rfl | omega) (by first | decide | omega) (by first | decide | omega))))))))))).trans (by omega)) (by show (eA _ 237 (8 * (gI g0 231 15).toInt + 4)).toInt = (gI g17544 231 17).toInt; rw [show 8 * (gI g0 231 15).toInt + 4 = (8 * v6.toInt + 4) by omega]; exact (congrArg Int32.toInt (((eA_sA_ne hI17736.1 ka_237 (by first | decide | omega) (by first | decide | omega) (by first | decide | omega)).trans ((eA_c (hF17737.2.1 237 (by decide))).trans ((eA_c (hF17702.2.1 237 (by decide))).trans ((eA_c (hF17634.2.1 237 (by decide))).trans ((eA_sA_ne hI17581.1 ka_237 (by first | decide | omega) (by first | decide | omega) (by first | decide | omega)).trans (eA_sA_eq hI17545.1 ka_237 (by first | rfl | omega) (by first | decide | omega) (by first | decide | omega))))))))).trans (by omega)) (by show (eA _ 237 (8 * (gI g0 231 15).toInt + 6)).toInt = (gI g17735 231 17).toInt; rw [show 8 * (gI g0 231 15).toInt + 6 = (8 * v6.toInt + 6) by omega]; exact (congrArg Int32.toInt ((eA_sA_eq hI17736.1 ka_237 (by first | rfl | omega) (by first | decide | omega) (by first | decide | omega)))).trans (by omega))]; exact h7⟩)⟩⟩
          · have c17325_ : x17309.toInt < 8 := en_i_ge_f c17325
            refine At.enter rfl ?_
            refine r_aload_n e17316 ?_
            refine q_getR (Sh.ref hI17311.1 kx_231 rfl) ?_
            refine r_iload_n e17318 ?_
            refine r_iload_n e17319 ?_
            refine q_iadd (v16971.toInt + x17309.toInt) rfl (by omega) (fun v17817 hv17817 => ?_)
            refine r_iconst 0 rfl ?_
            refine q_iast (Sh.arr hI17311.1 ka_237) ((8 * v6.toInt + x17309.toInt)) (by omega) (by omega) ?_
            have hI17818 := HI.wA0 hI17311 ka_237 (p := 237) rfl rfl ((8 * v6.toInt + x17309.toInt)) (0)
            have hF17819 := Fr.wA (p := 237) (j := (8 * v6.toInt + x17309.toInt)) (v := 0) hF17312 rfl
            refine q_iinc e17319 (x17309.toInt + 1) rfl (by omega) (fun v17820 hv17820 => ?_)
            refine r_goto ?_
            exact ih17315 (8 - v17820.toInt) _ _ ⟨v17820, by first | rfl | omega, hI17818, hF17819, (w_p1 (by decide) (Or.inr rfl) e17316), (w_p1 (by decide) (Or.inr rfl) e17317), (w_p1 (by decide) (Or.inr rfl) e17318), (w_e1 _ _ _), by omega, (Fr.wA (p := 237) q17321 rfl), (fun i i0 i1 => (eA_sA_ne (i := i) hI17311.1 ka_237 (by omega) (by omega) (by omega)).trans (q17322 i i0 i1))⟩ ⟨by omega, by omega⟩
        · have c16965_ : v16948.toInt ≠ 0 := en_k_eq_f c16965
          clear c16956
          have i17821 := MUSTP.w mu16963 (by omega)
          refine At.enter rfl ?_
          refine r_vret ?_
          have x17827 := HI.eqI hI16930 (p := 231) (b := 15) ((((hF16931.1 231 15 (by decide)).trans (q15375.1 231 15 (by decide))).trans hv6))
          have x17828 := HI.eqI hI16930 (p := 231) (b := 17) ((((hF16931.1 231 17 (by decide)).trans (q15375.1 231 17 (by decide))).trans hv7))
          have x17829 := HI.eqI hI0 (p := 231) (b := 8) (hv1)
          have x17830 := HI.eqI hI0 (p := 231) (b := 9) (hv2)
          have x17831 := HI.eqI hI0 (p := 231) (b := 10) (hv3)
          have x17832 := HI.eqI hI0 (p := 231) (b := 11) (hv4)
          have x17833 := HI.eqI hI0 (p := 231) (b := 14) (hv5)
          have x17834 := HI.eqI hI0 (p := 231) (b := 15) (hv6)
          have x17835 := HI.eqI hI0 (p := 231) (b := 17) (hv7)
          obtain ⟨v17840, hv17840⟩ : ∃ v, gI g0 231 20 = v := ⟨_, rfl⟩
          have tv17840 := congrArg Int32.toInt hv17840
          have x17841 := HI.eqI hI16930 (p := 231) (b := 20) ((((hF16931.1 231 20 (by decide)).trans (q15375.1 231 20 (by decide))).trans hv17840))
          have x17843 := HI.eqI hI0 (p := 231) (b := 13) (hv16958)
          have x17846 := HI.eqI hI0 (p := 231) (b := 20) (hv17840)
          have hh := q15376
          unfold HEI at hh
          have mf17847 := mu16963.2.2.1 (show (gI g0 231 14).toInt = 0 from by omega) (by omega)
          have y17848 : (gI _ 231 14).toInt ≠ 0 := mf17847.1
          have y17849 : (gI _ 231 13).toInt = (gI g0 231 9).toInt := mf17847.2
          exact ⟨_, rfl, hI16930, hF16934, rfl, ⟨by omega, by omega, by omega, by omega, c16955, by omega, (fun hbad => False.elim (by omega)), hK16964, (fun c0 h => CLM.headF h (show (gI g0 231 14).toInt = 0 from by omega) (TKM.some hK).choose_spec (fun z => by have z1 := z.1; have z2 : (gI g0 231 15).toInt < 12 := z.2; omega) (show (gI _ 231 14).toInt ≠ 0 from by omega) (show (gI _ 231 13).toInt = (gI g0 231 9).toInt from by omega) _), (fun h14 => absurd (show (gI _ 231 14).toInt = 0 from h14) (by omega))⟩⟩
  · have c15380_ : x15363.toInt < 3 := en_i_ge_f c15380
    refine At.enter rfl ?_
    refine r_aload_n e15370 ?_
    refine r_aload_n e15370 ?_
    refine q_getR (Sh.ref hI15365.1 kx_231 rfl) ?_
    refine r_iload_n e15372 ?_
    refine q_laldE (Sh.lar hI15365.1 ka_243) (x15363.toInt) rfl (by omega) (fun v17850 hv17850 => ?_)
    have wwv17850 := WDV.b hI15365 hv17850 (by omega)
    have x17851 := HI.eqI hI15365 (p := 231) (b := 11) (((q15375.1 231 11 (by decide)).trans hv4))
    refine r_callV 19 rfl [.ref 231, .long v17850] [] (Nat.le_of_ble_eq_true rfl) rfl (T_X11_isWord_231 _ hI15365 v17850 (by omega)) ?_
    rintro _ _ ⟨g17852, rfl, hI17853, hF17854, v17855, rfl, hr17856⟩
    refine At.sti ?_
    have hF17857 := Fr.tr hF15366 hF17854 rfl rfl
    have x17858 := HI.eqI hI15365 (p := 231) (b := 9) (((q15375.1 231 9 (by decide)).trans hv2))
    have x17859 := HI.eqI hI15365 (p := 231) (b := 10) (((q15375.1 231 10 (by decide)).trans hv3))
    have x17861 := HI.eqI hI17853 (p := 231) (b := 9) ((((hF17854.1 231 9 (by decide)).trans (q15375.1 231 9 (by decide))).trans hv2))
    have x17862 := HI.eqI hI17853 (p := 231) (b := 10) ((((hF17854.1 231 10 (by decide)).trans (q15375.1 231 10 (by decide))).trans hv3))
    have x17863 := HI.eqI hI17853 (p := 231) (b := 11) ((((hF17854.1 231 11 (by decide)).trans (q15375.1 231 11 (by decide))).trans hv4))
    obtain ⟨c17867, c17864, isw17865, ib17866⟩ := hr17856
    have hb17868 : BL (CDM g0 = 11 + x15363.toInt) v17855.toInt := by have z := ISM.word (c := 11 + x15363.toInt) ib17866 (TKM.c hK ((q15375.2.1 236 (by decide))) ((q15375.1 231 8 (by decide))) ((q15375.1 231 9 (by decide))) ((q15375.1 231 10 (by decide))) ((q15375.1 231 11 (by decide))) ((q15375.2.2 231 12 (by decide)))) (isWC_d (by omega)) wwv17850.1.symm wwv17850.2; rw [CDM.c ((q15375.2.1 236 (by decide))) ((q15375.1 231 9 (by decide))) ((q15375.1 231 10 (by decide))) ((q15375.1 231 11 (by decide)))] at z; exact z
    refine At.enter rfl ?_
    refine r_ifs 22 rfl (fun c17869 => ?_) (fun c17869 => ?_)
    · have c17869_ : v17855.toInt = 0 := en_k_eq_t c17869
      have i17870 := BL.no hb17868 (by omega)
      refine At.enter rfl ?_
      refine r_iload_n e15371 ?_
      refine Ar.fall 27 rfl ?_
      refine At.enter rfl ?_
      refine r_istore_n _ rfl ?_
      refine q_iinc (w_p1 (by decide) (Or.inr rfl) e15372) (x15363.toInt + 1) rfl (by omega) (fun v17871 hv17871 => ?_)
      refine r_goto ?_
      exact ih15369 (3 - v17871.toInt) _ _ ⟨x15362, v17871, by first | rfl | omega, hI17853, hF17857, (w_p1 (by decide) (Or.inr rfl) (w_p1 (by decide) (Or.inr rfl) e15370)), (w_p1 (by decide) (Or.inr rfl) (w_e1 _ _ _)), (w_e1 _ _ _), by omega, by omega, (Fr.tr q15375 hF17854 rfl rfl), (HEI.st q15376 (show v17871.toInt = x15363.toInt + 1 from by omega) (by omega) hb17868 rfl (by omega))⟩ ⟨by omega, by omega⟩
    · have c17869_ : v17855.toInt ≠ 0 := en_k_eq_f c17869
      have i17872 := BL.yes hb17868 (by omega)
      refine At.enter rfl ?_
      refine r_iload_n e15372 ?_
      refine r_goto ?_
      refine At.enter rfl ?_
      refine r_istore_n _ rfl ?_
      refine q_iinc (w_p1 (by decide) (Or.inr rfl) e15372) (x15363.toInt + 1) rfl (by omega) (fun v17873 hv17873 => ?_)
      refine r_goto ?_
      exact ih15369 (3 - v17873.toInt) _ _ ⟨x15363, v17873, by first | rfl | omega, hI17853, hF17857, (w_p1 (by decide) (Or.inr rfl) (w_p1 (by decide) (Or.inr rfl) e15370)), (w_p1 (by decide) (Or.inr rfl) (w_e1 _ _ _)), (w_e1 _ _ _), by omega, by omega, (Fr.tr q15375 hF17854 rfl rfl), (HEI.st q15376 (show v17873.toInt = x15363.toInt + 1 from by omega) (by omega) hb17868 rfl (by omega))⟩ ⟨by omega, by omega⟩
