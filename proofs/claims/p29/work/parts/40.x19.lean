def F_X2_gets_223 : List (Nat × Nat) := [(185, 3)]
def A_X2_gets_223 : List Nat := [226]
theorem mf_X3_tells_185_223_5 : memF F_X3_tells_185 223 5 = false := by decide
theorem mf_X3_tells_185_223_6 : memF F_X3_tells_185 223 6 = false := by decide
theorem ma_X3_tells_185_226 : memA A_X3_tells_185 226 = false := by decide
set_option maxRecDepth 100000 in
set_option maxHeartbeats 4000000 in
theorem T_X2_gets_223 (d : Nat) {N : Nat} {g0 : List en_E} (hI0 : HI g0) (a1 : Int32) (a2 : Int32) (a3 : Int32) : Ev (d + 4) 49 [.ref 223, .int a1, .int a2, .int a3] (g0, N) (fun w h' => ∃ g', h' = (g', N) ∧ HI g' ∧ Fr F_X2_gets_223 A_X2_gets_223 g0 g' ∧ ∃ r : Int32, w = some (.int r) ∧ True ∧ GETX g0 g' a1.toInt a2.toInt a3.toInt r.toInt) := by
  have hF0 : Fr F_X2_gets_223 A_X2_gets_223 g0 g0 := Fr.rf
  refine Ev.mk rfl rfl ⟨Nat.le_of_ble_eq_true rfl, Or.inr (q_rc hI0.1 kx_223 rfl)⟩ ?_
  show At _ none _ _ (0, [(0, .ref 223), (1, .int a1), (2, .int a2), (3, .int a3)], [], (_, _)) _
  refine At.enter rfl ?_
  refine r_aload_n rfl ?_
  obtain ⟨v75, hv75⟩ : ∃ v, gI g0 223 6 = v := ⟨_, rfl⟩
  refine q_getI (Sh.int hI0.1 kx_223 rfl) v75 hv75 ?_
  refine r_ifs 7 rfl (fun c76 => ?_) (fun c76 => ?_)
  · have c76_ : v75.toInt = 0 := en_k_eq_t c76
    refine At.enter rfl ?_
    refine r_iload_n rfl ?_
    refine r_ireti ?_
    have y77 := congrArg Int32.toInt hv75
    exact ⟨_, rfl, hI0, hF0, _, rfl, trivial, (by first | exact GETX_no (by rw [hv75]; omega) rfl | exact GETX_out (by omega))⟩
  · have c76_ : v75.toInt ≠ 0 := en_k_eq_f c76
    refine At.enter rfl ?_
    refine r_aload_n rfl ?_
    refine q_getR (Sh.ref hI0.1 kx_223 rfl) ?_
    refine r_iload_n rfl ?_
    refine q_inlV 15 rfl [.ref 1, .int a1] [] (Nat.le_of_ble_eq_true rfl) rfl ?_
    refine Ev.mk rfl rfl ⟨Nat.le_of_ble_eq_true rfl, Or.inr (q_rc hI0.1 kx_1 rfl)⟩ ?_
    show At _ none _ _ (0, [(0, .ref 1), (1, .int a1)], [], (_, _)) _
    refine At.enter rfl ?_
    refine r_iload_n rfl ?_
    refine r_ifs 4 rfl (fun c78 => ?_) (fun c78 => ?_)
    · have c78_ : a1.toInt < 0 := en_k_lt_t c78
      refine At.enter rfl ?_
      refine r_iconst 0 rfl ?_
      refine Ar.fall 17 rfl ?_
      refine At.enter rfl ?_
      refine q_iretz (by decide) ?_
      refine At.enter rfl ?_
      refine r_ift (by decide) ?_
      refine At.enter rfl ?_
      refine r_iload_n rfl ?_
      refine r_ireti ?_
      have y79 := congrArg Int32.toInt hv75
      exact ⟨_, rfl, hI0, hF0, _, rfl, trivial, (by first | exact GETX_no (by rw [hv75]; omega) rfl | exact GETX_out (by omega))⟩
    · have c78_ : a1.toInt ≥ 0 := en_k_lt_f c78
      refine At.enter rfl ?_
      refine r_iload_n rfl ?_
      refine r_aload_n rfl ?_
      obtain ⟨v80, hv80⟩ : ∃ v, gI g0 1 4 = v := ⟨_, rfl⟩
      have rv80 := RgF.at hI0.2.1 (p := 1) (b := 4) rfl
      rw [hv80] at rv80
      dsimp only at rv80
      refine q_getI (Sh.int hI0.1 kx_1 rfl) v80 hv80 ?_
      have bv82 := q_bnd a1
      have bv83 := q_bnd v80
      refine r_ics 12 rfl (fun c81 => ?_) (fun c81 => ?_)
      · have c81_ : a1.toInt ≥ v80.toInt := en_i_ge_t c81
        refine At.enter rfl ?_
        refine r_iconst 0 rfl ?_
        refine Ar.fall 17 rfl ?_
        refine At.enter rfl ?_
        refine q_iretz (by decide) ?_
        refine At.enter rfl ?_
        refine r_ift (by decide) ?_
        refine At.enter rfl ?_
        refine r_iload_n rfl ?_
        refine r_ireti ?_
        have y84 := congrArg Int32.toInt hv80
        have y85 := congrArg Int32.toInt hv75
        exact ⟨_, rfl, hI0, hF0, _, rfl, trivial, (by first | exact GETX_no (by rw [hv75]; omega) rfl | exact GETX_out (by omega))⟩
      · have c81_ : a1.toInt < v80.toInt := en_i_ge_f c81
        refine At.enter rfl ?_
        refine r_iconst 1 rfl ?_
        refine r_goto ?_
        refine At.enter rfl ?_
        refine q_iretz (by decide) ?_
        refine At.enter rfl ?_
        refine r_iff 18 rfl (by decide) ?_
        refine At.enter rfl ?_
        refine r_aload_n rfl ?_
        refine q_getR (Sh.ref hI0.1 kx_223 rfl) ?_
        refine r_iload_n rfl ?_
        refine q_inlV 26 rfl [.ref 1, .int a2] [] (Nat.le_of_ble_eq_true rfl) rfl ?_
        refine Ev.mk rfl rfl ⟨Nat.le_of_ble_eq_true rfl, Or.inr (q_rc hI0.1 kx_1 rfl)⟩ ?_
        show At _ none _ _ (0, [(0, .ref 1), (1, .int a2)], [], (_, _)) _
        refine At.enter rfl ?_
        refine r_iload_n rfl ?_
        refine r_ifs 4 rfl (fun c86 => ?_) (fun c86 => ?_)
        · have c86_ : a2.toInt < 0 := en_k_lt_t c86
          refine At.enter rfl ?_
          refine r_iconst 0 rfl ?_
          refine Ar.fall 17 rfl ?_
          refine At.enter rfl ?_
          refine q_iretz (by decide) ?_
          refine At.enter rfl ?_
          refine r_ift (by decide) ?_
          refine At.enter rfl ?_
          refine r_iload_n rfl ?_
          refine r_ireti ?_
          have y87 := congrArg Int32.toInt hv80
          have y88 := congrArg Int32.toInt hv75
          exact ⟨_, rfl, hI0, hF0, _, rfl, trivial, (by first | exact GETX_no (by rw [hv75]; omega) rfl | exact GETX_out (by omega))⟩
        · have c86_ : a2.toInt ≥ 0 := en_k_lt_f c86
          refine At.enter rfl ?_
          refine r_iload_n rfl ?_
          refine r_aload_n rfl ?_
          obtain ⟨v89, hv89⟩ : ∃ v, gI g0 1 0 = v := ⟨_, rfl⟩
          have rv89 := RgF.at hI0.2.1 (p := 1) (b := 0) rfl
          rw [hv89] at rv89
          dsimp only at rv89
          refine q_getI (Sh.int hI0.1 kx_1 rfl) v89 hv89 ?_
          have bv91 := q_bnd a2
          have bv92 := q_bnd v89
          refine r_ics 12 rfl (fun c90 => ?_) (fun c90 => ?_)
          · have c90_ : a2.toInt ≥ v89.toInt := en_i_ge_t c90
            refine At.enter rfl ?_
            refine r_iconst 0 rfl ?_
            refine Ar.fall 17 rfl ?_
            refine At.enter rfl ?_
            refine q_iretz (by decide) ?_
            refine At.enter rfl ?_
            refine r_ift (by decide) ?_
            refine At.enter rfl ?_
            refine r_iload_n rfl ?_
            refine r_ireti ?_
            have y93 := congrArg Int32.toInt hv80
            have y94 := congrArg Int32.toInt hv89
            have y95 := congrArg Int32.toInt hv75
            exact ⟨_, rfl, hI0, hF0, _, rfl, trivial, (by first | exact GETX_no (by rw [hv75]; omega) rfl | exact GETX_out (by omega))⟩
          · have c90_ : a2.toInt < v89.toInt := en_i_ge_f c90
            refine At.enter rfl ?_
            refine r_iconst 1 rfl ?_
            refine r_goto ?_
            refine At.enter rfl ?_
            refine q_iretz (by decide) ?_
            refine At.enter rfl ?_
            refine r_iff 29 rfl (by decide) ?_
            refine At.enter rfl ?_
            refine r_iload_n rfl ?_
            refine q_inlS 33 rfl [.int a3] [] (Nat.le_of_ble_eq_true rfl) rfl ?_
            refine Ev.mk rfl rfl ⟨Nat.le_of_ble_eq_true rfl, Or.inl rfl⟩ ?_
            show At _ none _ _ (0, [(0, .int a3)], [], (_, _)) _
            refine At.enter rfl ?_
            refine r_iload_n rfl ?_
            refine r_iconst 0 rfl ?_
            refine r_bipush 99 rfl ?_
            refine q_inlS 7 rfl [.int a3, .int 0, .int 99] [] (Nat.le_of_ble_eq_true rfl) rfl ?_
            refine Ev.mk rfl rfl ⟨Nat.le_of_ble_eq_true rfl, Or.inl rfl⟩ ?_
            show At _ none _ _ (0, [(0, .int a3), (1, .int 0), (2, .int 99)], [], (_, _)) _
            refine At.enter rfl ?_
            refine r_iload_n rfl ?_
            refine r_iload_n rfl ?_
            refine r_ics 5 rfl (fun c96 => ?_) (fun c96 => ?_)
            · have c96_ : a3.toInt < 0 := en_i_lt_t c96
              refine At.enter rfl ?_
              refine r_iconst 0 rfl ?_
              refine Ar.fall 15 rfl ?_
              refine At.enter rfl ?_
              refine q_iretz (by decide) ?_
              refine At.enter rfl ?_
              refine q_iretz (by decide) ?_
              refine At.enter rfl ?_
              refine r_iff 36 rfl (by decide) ?_
              refine At.enter rfl ?_
              refine r_iload_n rfl ?_
              refine r_ireti ?_
              have y97 := congrArg Int32.toInt hv80
              have y98 := congrArg Int32.toInt hv89
              have y99 := congrArg Int32.toInt hv75
              exact ⟨_, rfl, hI0, hF0, _, rfl, trivial, (by first | exact GETX_no (by rw [hv75]; omega) rfl | exact GETX_out (by omega))⟩
            · have c96_ : a3.toInt ≥ 0 := en_i_lt_f c96
              refine At.enter rfl ?_
              refine r_iload_n rfl ?_
              refine r_iload_n rfl ?_
              refine r_ics 10 rfl (fun c100 => ?_) (fun c100 => ?_)
              · have c100_ : a3.toInt > 99 := en_i_gt_t c100
                refine At.enter rfl ?_
                refine r_iconst 0 rfl ?_
                refine Ar.fall 15 rfl ?_
                refine At.enter rfl ?_
                refine q_iretz (by decide) ?_
                refine At.enter rfl ?_
                refine q_iretz (by decide) ?_
                refine At.enter rfl ?_
                refine r_iff 36 rfl (by decide) ?_
                refine At.enter rfl ?_
                refine r_iload_n rfl ?_
                refine r_ireti ?_
                have y101 := congrArg Int32.toInt hv80
                have y102 := congrArg Int32.toInt hv89
                have y103 := congrArg Int32.toInt hv75
                exact ⟨_, rfl, hI0, hF0, _, rfl, trivial, (by first | exact GETX_no (by rw [hv75]; omega) rfl | exact GETX_out (by omega))⟩
              · have c100_ : a3.toInt ≤ 99 := en_i_gt_f c100
                refine At.enter rfl ?_
                refine r_iconst 1 rfl ?_
                refine r_goto ?_
                refine At.enter rfl ?_
                refine q_iretz (by decide) ?_
                refine At.enter rfl ?_
                refine q_iretz (by decide) ?_
                refine At.enter rfl ?_
                refine r_ift (by decide) ?_
                refine At.enter rfl ?_
                refine r_iload_n rfl ?_
                refine r_bipush 12 rfl ?_
                refine q_imul (a1.toInt * 12) rfl (by omega) (fun v104 hv104 => ?_)
                refine r_iload_n rfl ?_
                refine q_iadd (v104.toInt + a2.toInt) rfl (by omega) (fun v105 hv105 => ?_)
                refine r_bipush 100 rfl ?_
                refine q_imul (v105.toInt * 100) rfl (by omega) (fun v106 hv106 => ?_)
                refine r_iload_n rfl ?_
                refine q_iadd (v106.toInt + a3.toInt) rfl (by omega) (fun v107 hv107 => ?_)
                refine r_istore ([(4, .int v107), (0, .ref 223), (1, .int a1), (2, .int a2), (3, .int a3)]) rfl ?_
                refine r_aload_n rfl ?_
                refine q_getR (Sh.ref hI0.1 kx_223 rfl) ?_
                refine r_iload rfl ?_
                obtain ⟨v108, hv108⟩ : ∃ v, eA g0 226 (1200 * a1.toInt + 100 * a2.toInt + a3.toInt) = v := ⟨_, rfl⟩
                refine q_iald (Sh.arr hI0.1 ka_226) (1200 * a1.toInt + 100 * a2.toInt + a3.toInt) (by omega) (by omega) v108 hv108 ?_
                refine r_iconst (-1) rfl ?_
                refine r_ics 62 rfl (fun c109 => ?_) (fun c109 => ?_)
                · have c109_ : v108.toInt ≠ (-1) := en_i_ne_t c109
                  refine At.enter rfl ?_
                  refine r_aload_n rfl ?_
                  refine q_getR (Sh.ref hI0.1 kx_223 rfl) ?_
                  refine r_iload rfl ?_
                  refine q_iald (Sh.arr hI0.1 ka_226) (1200 * a1.toInt + 100 * a2.toInt + a3.toInt) (by omega) (by omega) v108 hv108 ?_
                  refine r_ireti ?_
                  have y110 := congrArg Int32.toInt hv80
                  have y111 := congrArg Int32.toInt hv89
                  have y112 := congrArg Int32.toInt hv75
                  exact ⟨_, rfl, hI0, hF0, _, rfl, trivial, (GETX_told (i := (1200 * a1.toInt + 100 * a2.toInt + a3.toInt)) (by rw [hv75]; omega) ⟨by omega, by omega⟩ (by omega) (congrArg Int32.toInt hv108) (by omega))⟩
                · have c109_ : v108.toInt = (-1) := en_i_ne_f c109
                  refine At.enter rfl ?_
                  refine r_aload_n rfl ?_
                  refine q_getR (Sh.ref hI0.1 kx_223 rfl) ?_
                  refine r_iconst 1 rfl ?_
                  refine r_iload_n rfl ?_
                  refine r_iload_n rfl ?_
                  refine r_iconst 0 rfl ?_
                  refine r_iconst 0 rfl ?_
                  refine r_aload_n rfl ?_
                  refine q_getR (Sh.ref hI0.1 kx_223 rfl) ?_
                  refine q_getR (Sh.ref hI0.1 kx_1 rfl) ?_
                  refine r_iload_n rfl ?_
                  obtain ⟨v113, hv113⟩ : ∃ v, eA g0 3 a2.toInt = v := ⟨_, rfl⟩
                  refine q_iald (Sh.arr hI0.1 ka_3) a2.toInt rfl (by omega) v113 hv113 ?_
                  refine r_iload_n rfl ?_
                  refine r_callV 84 rfl [.ref 185, .int 1, .int a1, .int a2, .int 0, .int 0, .int v113, .int a3] [] (Nat.le_of_ble_eq_true rfl) rfl (T_X3_tells_185 _ hI0 1 a1 a2 0 0 v113 a3) ?_
                  rintro _ _ ⟨g114, rfl, hI115, hF116, v117, rfl, hr118⟩
                  refine At.stl ?_
                  have hF119 := Fr.tr hF0 hF116 rfl rfl
                  have zv120 : (1 : Int32).toInt = 1 := rfl
                  have zv121 : (0 : Int32).toInt = 0 := rfl
                  have zv122 : (0 : Int32).toInt = 0 := rfl
                  refine At.enter rfl ?_
                  refine r_lstore ([(5, .long v117), (4, .int v107), (0, .ref 223), (1, .int a1), (2, .int a2), (3, .int a3)]) rfl ?_
                  refine r_aload_n rfl ?_
                  refine q_getR (Sh.ref hI115.1 kx_223 rfl) ?_
                  refine r_iload rfl ?_
                  refine r_lconst 0 rfl ?_
                  refine r_ldc2 999 rfl ?_
                  refine r_lload rfl ?_
                  refine q_lmin rfl (Nat.le_of_ble_eq_true rfl) (fun v123 hv123 => ?_)
                  have zv124 : (999 : Int64).toInt = 999 := rfl
                  refine q_lmax rfl (Nat.le_of_ble_eq_true rfl) (fun v125 hv125 => ?_)
                  have zv126 : (0 : Int64).toInt = 0 := rfl
                  refine q_l2iO (fun v127 hv127 => ?_)
                  refine q_iast (Sh.arr hI115.1 ka_226) ((1200 * a1.toInt + 100 * a2.toInt + a3.toInt)) (by omega) (by omega) ?_
                  have hI128 := HI.wA0 hI115 ka_226 (p := 226) rfl rfl ((1200 * a1.toInt + 100 * a2.toInt + a3.toInt)) (v127)
                  have hF129 := Fr.wA (p := 226) (j := (1200 * a1.toInt + 100 * a2.toInt + a3.toInt)) (v := v127) hF119 rfl
                  refine Ar.fall 106 rfl ?_
                  refine At.enter rfl ?_
                  refine r_aload_n rfl ?_
                  refine q_getR (Sh.ref hI128.1 kx_223 rfl) ?_
                  refine r_iload rfl ?_
                  refine q_iald (Sh.arr hI128.1 ka_226) (1200 * a1.toInt + 100 * a2.toInt + a3.toInt) (by omega) (by omega) v127 (eA_sA_eq hI115.1 ka_226 (by first | rfl | omega) (by first | decide | omega) (by first | decide | omega)) ?_
                  refine r_ireti ?_
                  have y130 := congrArg Int32.toInt hv80
                  have y131 := congrArg Int32.toInt hv89
                  have y132 := congrArg Int32.toInt hv75
                  have k133 := l2i_e hv127 (by omega) (by omega)
                  exact ⟨_, rfl, hI128, hF129, _, rfl, trivial, (GETX_new (y := v123.toInt) (z := v125.toInt) (fe := v117.toInt) (FSX_fr hF116 rfl) (hF116.1 223 5 mf_X3_tells_185_223_5) (hF116.1 223 6 mf_X3_tells_185_223_6) (hF116.2.1 226 ma_X3_tells_185_226) hI115.1 (by have x := hr118.2; rw [← hv113] at x; exact x) (by omega) (by omega) (by omega) (by omega) (by omega) (by omega) (by omega) k133 (by omega) ⟨by omega, by omega, by omega, by omega, by omega, by omega⟩)⟩

def F_X2_costBeside_223 : List (Nat × Nat) := [(185, 3)]
def A_X2_costBeside_223 : List Nat := [226]
theorem ma_X0_handsOf_1_5 : memA A_X0_handsOf_1 5 = false := by decide
theorem mf_X0_handsOf_1_1_4 : memF F_X0_handsOf_1 1 4 = false := by decide
theorem mf_X0_about_1_223_5 : memF F_X0_about_1 223 5 = false := by decide
theorem mf_X0_handsOf_1_223_5 : memF F_X0_handsOf_1 223 5 = false := by decide
theorem mf_X0_about_1_223_6 : memF F_X0_about_1 223 6 = false := by decide
theorem mf_X0_handsOf_1_223_6 : memF F_X0_handsOf_1 223 6 = false := by decide
theorem ma_X0_about_1_226 : memA A_X0_about_1 226 = false := by decide
theorem ma_X0_handsOf_1_226 : memA A_X0_handsOf_1 226 = false := by decide
theorem ma_X2_gets_223_2 : memA A_X2_gets_223 2 = false := by decide
theorem mf_X2_gets_223_1_0 : memF F_X2_gets_223 1 0 = false := by decide
theorem mf_X0_next_1_223_5 : memF F_X0_next_1 223 5 = false := by decide
theorem mf_X0_next_1_223_6 : memF F_X0_next_1 223 6 = false := by decide
theorem ma_X0_next_1_226 : memA A_X0_next_1 226 = false := by decide
set_option maxRecDepth 100000 in
set_option maxHeartbeats 4000000 in
theorem T_X2_costBeside_223 (d : Nat) {N : Nat} {g0 : List en_E} (hI0 : HI g0) (a1 : Int32) (a2 : Int32) : Ev (d + 5) 48 [.ref 223, .int a1, .int a2] (g0, N) (fun w h' => ∃ g', h' = (g', N) ∧ HI g' ∧ Fr F_X2_costBeside_223 A_X2_costBeside_223 g0 g' ∧ ∃ r : Int32, w = some (.int r) ∧ True ∧ CBP g0 g' a1.toInt a2.toInt r.toInt) := by
  have hF0 : Fr F_X2_costBeside_223 A_X2_costBeside_223 g0 g0 := Fr.rf
  refine Ev.mk rfl rfl ⟨Nat.le_of_ble_eq_true rfl, Or.inr (q_rc hI0.1 kx_223 rfl)⟩ ?_
  show At _ none _ _ (0, [(0, .ref 223), (1, .int a1), (2, .int a2)], [], (_, _)) _
  refine At.enter rfl ?_
  refine r_aload_n rfl ?_
  refine q_getR (Sh.ref hI0.1 kx_223 rfl) ?_
  refine r_iload_n rfl ?_
  refine r_callV 8 rfl [.ref 1, .int a1] [] (Nat.le_of_ble_eq_true rfl) rfl (T_X0_handsOf_1 _ hI0 a1) ?_
  rintro _ _ ⟨g1639, rfl, hI1640, hF1641, v1642, rfl, hr1643⟩
  refine At.sti ?_
  have hF1644 := Fr.tr hF0 hF1641 rfl rfl
  refine At.enter rfl ?_
  refine r_istore_n ([(3, .int v1642), (0, .ref 223), (1, .int a1), (2, .int a2)]) rfl ?_
  refine r_iload_n rfl ?_
  refine r_iconst (-1) rfl ?_
  refine r_ics 14 rfl (fun c1645 => ?_) (fun c1645 => ?_)
  · have c1645_ : a2.toInt ≠ (-1) := en_i_ne_t c1645
    refine At.enter rfl ?_
    refine r_iconst 0 rfl ?_
    refine Ar.fall 24 rfl ?_
    refine At.enter rfl ?_
    refine r_istore ([(4, .int 0), (3, .int v1642), (0, .ref 223), (1, .int a1), (2, .int a2)]) rfl ?_
    refine r_iconst 0 rfl ?_
    refine r_istore ([(5, .int 0), (4, .int 0), (3, .int v1642), (0, .ref 223), (1, .int a1), (2, .int a2)]) rfl ?_
    refine r_aload_n rfl ?_
    refine q_getR (Sh.ref hI1640.1 kx_223 rfl) ?_
    refine r_iload_n rfl ?_
    refine r_iconst 1 rfl ?_
    refine r_callV 38 rfl [.ref 1, .int a1, .int 1] [] (Nat.le_of_ble_eq_true rfl) rfl (T_X0_about_1 _ hI1640 a1 1) ?_
    rintro _ _ ⟨g1646, rfl, hI1647, hF1648, v1649, rfl, hr1650⟩
    refine At.sti ?_
    have ks1653 := hr1650.2.2
    have hr1652 : _ ∧ _ := ⟨hr1650.1, hr1650.2.1⟩
    have hF1651 := Fr.tr hF1644 hF1648 rfl rfl
    have zv1654 : (1 : Int32).toInt = 1 := rfl
    have ab1655_ := ABX.c ((hF1641.2.1 5 ma_X0_handsOf_1_5)) ((hF1641.1 1 4 mf_X0_handsOf_1_1_4)) hr1652.2
    have ab1655 : ABX g0 a1.toInt 1 v1649.toInt := ab1655_
    refine At.enter rfl ?_
    refine r_istore ([(6, .int v1649), (5, .int 0), (4, .int 0), (3, .int v1642), (0, .ref 223), (1, .int a1), (2, .int a2)]) rfl ?_
    refine r_iconst 0 rfl ?_
    refine r_istore ([(7, .int 0), (6, .int v1649), (5, .int 0), (4, .int 0), (3, .int v1642), (0, .ref 223), (1, .int a1), (2, .int a2)]) rfl ?_
    refine Ar.fall 43 rfl ?_
    have z_2025 : (0 : Int32).toInt = 0 := rfl
    have z_2026 : (0 : Int32).toInt = 0 := rfl
    have z_2027 : (0 : Int32).toInt = 0 := rfl
    refine w_loopI (fun n_ l_ g_ => ∃ x2000 : Int32, ∃ x2001 : Int32, ∃ x2002 : Int32, ∃ x2003 : Int32, n_ = 11 - x2003.toInt ∧ HI g_ ∧ Fr F_X2_costBeside_223 A_X2_costBeside_223 g0 g_ ∧ en_get 0 l_ = some (.ref 223) ∧ en_get 1 l_ = some (.int a1) ∧ en_get 2 l_ = some (.int a2) ∧ en_get 3 l_ = some (.int v1642) ∧ en_get 4 l_ = some (.int x2000) ∧ en_get 5 l_ = some (.int x2001) ∧ en_get 6 l_ = some (.int x2002) ∧ en_get 7 l_ = some (.int x2003) ∧ (0 ≤ x2000.toInt ∧ x2000.toInt ≤ 1) ∧ (0 ≤ x2003.toInt ∧ x2003.toInt ≤ 11) ∧ (CBL g0 g_ a1.toInt a2.toInt x2003.toInt v1649.toInt x2001.toInt) ∧ (x2002.toInt = itI (NX g0) x2003.toInt v1649.toInt) ∧ (x2000.toInt = PSI (NX g0) a2.toInt x2003.toInt v1649.toInt) ∧ (0 ≤ x2003.toInt) ∧ (x2003.toInt ≤ v1642.toInt ∨ x2003.toInt = 0)) ?_ (11 - 0) ⟨0, 0, v1649, 0, by first | rfl | omega, hI1647, hF1651, rfl, rfl, rfl, rfl, rfl, rfl, rfl, rfl, by decide, by decide, (CBL_z (FSX_fr hF1651 rfl) (((hF1648.1 223 5 mf_X0_about_1_223_5).trans (hF1641.1 223 5 mf_X0_handsOf_1_223_5))) (((hF1648.1 223 6 mf_X0_about_1_223_6).trans (hF1641.1 223 6 mf_X0_handsOf_1_223_6))) (((hF1648.2.1 226 ma_X0_about_1_226).trans (hF1641.2.1 226 ma_X0_handsOf_1_226))) rfl rfl), (itI_n _ (by first | decide | omega) _).symm, (PSI_z (by first | decide | omega)).symm, by omega, by omega⟩
    rintro n2008 l2007 g2004 ⟨x2000, x2001, x2002, x2003, hm2028, hI2005, hF2006, e2010, e2011, e2012, e2013, e2014, e2015, e2016, e2017, r2018, r2019, q2020, q2021, q2022, q2023, q2024⟩ ih2009
    refine At.enter rfl ?_
    refine r_iload e2017 ?_
    refine r_iload_n e2013 ?_
    have bv2030 := q_bnd x2003
    have bv2031 := q_bnd v1642
    refine r_ics 49 rfl (fun c2029 => ?_) (fun c2029 => ?_)
    · have c2029_ : x2003.toInt ≥ v1642.toInt := en_i_ge_t c2029
      refine At.enter rfl ?_
      refine r_iload e2014 ?_
      refine r_ifs 114 rfl (fun c2032 => ?_) (fun c2032 => ?_)
      · have c2032_ : x2000.toInt = 0 := en_k_eq_t c2032
        refine At.enter rfl ?_
        refine r_iconst (-1) rfl ?_
        refine Ar.fall 120 rfl ?_
        refine At.enter rfl ?_
        refine r_ireti ?_
        have zv2033 : ((-1) : Int32).toInt = (-1) := rfl
        exact ⟨_, rfl, hI2005, hF2006, _, rfl, trivial, (CBP_mk (p := x2000.toInt) hr1643.2 ab1655 q2020 q2021 (by first | exact Or.inl (by omega) | exact Or.inr (fun z => by omega)) (by omega) (by omega) (by first | exact Or.inl ⟨by omega, fun _ => by omega, fun _ => by omega⟩ | exact Or.inl ⟨by omega, fun z => absurd (by omega) z, fun _ => (by rw [q2022]; exact PSI_z (by omega))⟩ | exact Or.inr ⟨by omega, q2022⟩) (by first | exact Or.inl ⟨by omega, by omega⟩ | exact Or.inr ⟨by omega, by omega⟩))⟩
      · have c2032_ : x2000.toInt ≠ 0 := en_k_eq_f c2032
        refine At.enter rfl ?_
        refine r_iload e2015 ?_
        refine r_goto ?_
        refine At.enter rfl ?_
        refine r_ireti ?_
        exact ⟨_, rfl, hI2005, hF2006, _, rfl, trivial, (CBP_mk (p := x2000.toInt) hr1643.2 ab1655 q2020 q2021 (by first | exact Or.inl (by omega) | exact Or.inr (fun z => by omega)) (by omega) (by omega) (by first | exact Or.inl ⟨by omega, fun _ => by omega, fun _ => by omega⟩ | exact Or.inl ⟨by omega, fun z => absurd (by omega) z, fun _ => (by rw [q2022]; exact PSI_z (by omega))⟩ | exact Or.inr ⟨by omega, q2022⟩) (by first | exact Or.inl ⟨by omega, by omega⟩ | exact Or.inr ⟨by omega, by omega⟩))⟩
    · have c2029_ : x2003.toInt < v1642.toInt := en_i_ge_f c2029
      refine At.enter rfl ?_
      refine r_aload_n e2010 ?_
      refine q_getR (Sh.ref hI2005.1 kx_223 rfl) ?_
      refine r_iload e2016 ?_
      refine q_inlV 58 rfl [.ref 1, .int x2002] [] (Nat.le_of_ble_eq_true rfl) rfl ?_
      refine Ev.mk rfl rfl ⟨Nat.le_of_ble_eq_true rfl, Or.inr (q_rc hI2005.1 kx_1 rfl)⟩ ?_
      show At _ none _ _ (0, [(0, .ref 1), (1, .int x2002)], [], (_, _)) _
      refine At.enter rfl ?_
      refine r_iload_n rfl ?_
      refine r_ifs 4 rfl (fun c2034 => ?_) (fun c2034 => ?_)
      · have c2034_ : x2002.toInt < 0 := en_k_lt_t c2034
        refine At.enter rfl ?_
        refine r_iconst 0 rfl ?_
        refine Ar.fall 17 rfl ?_
        refine At.enter rfl ?_
        refine q_iretz (by decide) ?_
        refine At.enter rfl ?_
        refine r_ift (by decide) ?_
        refine At.enter rfl ?_
        refine r_iload e2014 ?_
        refine r_ifs 114 rfl (fun c2035 => ?_) (fun c2035 => ?_)
        · have c2035_ : x2000.toInt = 0 := en_k_eq_t c2035
          refine At.enter rfl ?_
          refine r_iconst (-1) rfl ?_
          refine Ar.fall 120 rfl ?_
          refine At.enter rfl ?_
          refine r_ireti ?_
          have zv2036 : ((-1) : Int32).toInt = (-1) := rfl
          exact ⟨_, rfl, hI2005, hF2006, _, rfl, trivial, (CBP_mk (p := x2000.toInt) hr1643.2 ab1655 q2020 q2021 (by first | exact Or.inl (by omega) | exact Or.inr (fun z => by omega)) (by omega) (by omega) (by first | exact Or.inl ⟨by omega, fun _ => by omega, fun _ => by omega⟩ | exact Or.inl ⟨by omega, fun z => absurd (by omega) z, fun _ => (by rw [q2022]; exact PSI_z (by omega))⟩ | exact Or.inr ⟨by omega, q2022⟩) (by first | exact Or.inl ⟨by omega, by omega⟩ | exact Or.inr ⟨by omega, by omega⟩))⟩
        · have c2035_ : x2000.toInt ≠ 0 := en_k_eq_f c2035
          refine At.enter rfl ?_
          refine r_iload e2015 ?_
          refine r_goto ?_
          refine At.enter rfl ?_
          refine r_ireti ?_
          exact ⟨_, rfl, hI2005, hF2006, _, rfl, trivial, (CBP_mk (p := x2000.toInt) hr1643.2 ab1655 q2020 q2021 (by first | exact Or.inl (by omega) | exact Or.inr (fun z => by omega)) (by omega) (by omega) (by first | exact Or.inl ⟨by omega, fun _ => by omega, fun _ => by omega⟩ | exact Or.inl ⟨by omega, fun z => absurd (by omega) z, fun _ => (by rw [q2022]; exact PSI_z (by omega))⟩ | exact Or.inr ⟨by omega, q2022⟩) (by first | exact Or.inl ⟨by omega, by omega⟩ | exact Or.inr ⟨by omega, by omega⟩))⟩
      · have c2034_ : x2002.toInt ≥ 0 := en_k_lt_f c2034
        refine At.enter rfl ?_
        refine r_iload_n rfl ?_
        refine r_aload_n rfl ?_
        obtain ⟨v2037, hv2037⟩ : ∃ v, gI g0 1 0 = v := ⟨_, rfl⟩
        have rv2037 := RgF.at hI0.2.1 (p := 1) (b := 0) rfl
        rw [hv2037] at rv2037
        dsimp only at rv2037
        refine q_getI (Sh.int hI2005.1 kx_1 rfl) v2037 ((hF2006.1 1 0 (by decide)).trans hv2037) ?_
        have bv2039 := q_bnd x2002
        have bv2040 := q_bnd v2037
        refine r_ics 12 rfl (fun c2038 => ?_) (fun c2038 => ?_)
        · have c2038_ : x2002.toInt ≥ v2037.toInt := en_i_ge_t c2038
          refine At.enter rfl ?_
          refine r_iconst 0 rfl ?_
          refine Ar.fall 17 rfl ?_
          refine At.enter rfl ?_
          refine q_iretz (by decide) ?_
          refine At.enter rfl ?_
          refine r_ift (by decide) ?_
          refine At.enter rfl ?_
          refine r_iload e2014 ?_
          refine r_ifs 114 rfl (fun c2041 => ?_) (fun c2041 => ?_)
          · have c2041_ : x2000.toInt = 0 := en_k_eq_t c2041
            refine At.enter rfl ?_
            refine r_iconst (-1) rfl ?_
            refine Ar.fall 120 rfl ?_
            refine At.enter rfl ?_
            refine r_ireti ?_
            have zv2042 : ((-1) : Int32).toInt = (-1) := rfl
            have y2043 := congrArg Int32.toInt hv2037
            exact ⟨_, rfl, hI2005, hF2006, _, rfl, trivial, (CBP_mk (p := x2000.toInt) hr1643.2 ab1655 q2020 q2021 (by first | exact Or.inl (by omega) | exact Or.inr (fun z => by omega)) (by omega) (by omega) (by first | exact Or.inl ⟨by omega, fun _ => by omega, fun _ => by omega⟩ | exact Or.inl ⟨by omega, fun z => absurd (by omega) z, fun _ => (by rw [q2022]; exact PSI_z (by omega))⟩ | exact Or.inr ⟨by omega, q2022⟩) (by first | exact Or.inl ⟨by omega, by omega⟩ | exact Or.inr ⟨by omega, by omega⟩))⟩
          · have c2041_ : x2000.toInt ≠ 0 := en_k_eq_f c2041
            refine At.enter rfl ?_
            refine r_iload e2015 ?_
            refine r_goto ?_
            refine At.enter rfl ?_
            refine r_ireti ?_
            have y2044 := congrArg Int32.toInt hv2037
            exact ⟨_, rfl, hI2005, hF2006, _, rfl, trivial, (CBP_mk (p := x2000.toInt) hr1643.2 ab1655 q2020 q2021 (by first | exact Or.inl (by omega) | exact Or.inr (fun z => by omega)) (by omega) (by omega) (by first | exact Or.inl ⟨by omega, fun _ => by omega, fun _ => by omega⟩ | exact Or.inl ⟨by omega, fun z => absurd (by omega) z, fun _ => (by rw [q2022]; exact PSI_z (by omega))⟩ | exact Or.inr ⟨by omega, q2022⟩) (by first | exact Or.inl ⟨by omega, by omega⟩ | exact Or.inr ⟨by omega, by omega⟩))⟩
        · have c2038_ : x2002.toInt < v2037.toInt := en_i_ge_f c2038
          refine At.enter rfl ?_
          refine r_iconst 1 rfl ?_
          refine r_goto ?_
          refine At.enter rfl ?_
          refine q_iretz (by decide) ?_
          refine At.enter rfl ?_
          refine r_iff 61 rfl (by decide) ?_
          refine At.enter rfl ?_
          refine r_iload e2016 ?_
          refine r_iload_n e2012 ?_
          refine r_ics 67 rfl (fun c2045 => ?_) (fun c2045 => ?_)
          · have c2045_ : x2002.toInt ≠ a2.toInt := en_i_ne_t c2045
            refine At.enter rfl ?_
            refine r_iload e2015 ?_
            refine r_aload_n e2010 ?_
            refine r_iload_n e2011 ?_
            refine r_iload e2016 ?_
            refine r_aload_n e2010 ?_
            refine q_getR (Sh.ref hI2005.1 kx_223 rfl) ?_
            refine r_iload e2016 ?_
            obtain ⟨v2046, hv2046⟩ : ∃ v, eA g0 224 x2002.toInt = v := ⟨_, rfl⟩
            refine q_iald (Sh.arr hI2005.1 ka_224) x2002.toInt rfl (by omega) v2046 ((eA_c (hF2006.2.1 224 (by decide))).trans hv2046) ?_
            refine r_callV 89 rfl [.ref 223, .int a1, .int x2002, .int v2046] [.int x2001] (Nat.le_of_ble_eq_true rfl) rfl (T_X2_gets_223 _ hI2005 a1 x2002 v2046) ?_
            rintro _ _ ⟨g2047, rfl, hI2048, hF2049, v2050, rfl, hr2051⟩
            refine At.sti ?_
            have hF2052 := Fr.tr hF2006 hF2049 rfl rfl
            refine At.enter rfl ?_
            refine q_iaddO (fun v2053 ov2053 => ?_)
            refine r_istore _ rfl ?_
            refine Ar.fall 92 rfl ?_
            refine At.enter rfl ?_
            refine r_aload_n (w_p1 (by decide) (Or.inr rfl) e2010) ?_
            refine q_getR (Sh.ref hI2048.1 kx_223 rfl) ?_
            refine r_iload (w_p1 (by decide) (Or.inr rfl) e2016) ?_
            refine r_callV 101 rfl [.ref 1, .int x2002] [] (Nat.le_of_ble_eq_true rfl) rfl (T_X0_next_1 _ hI2048 x2002) ?_
            rintro _ _ ⟨g2054, rfl, hI2055, hF2056, v2057, rfl, hr2058⟩
            refine At.sti ?_
            have ks2061 := hr2058.2.2
            have hr2060 : _ ∧ _ := ⟨hr2058.1, hr2058.2.1⟩
            have hF2059 := Fr.tr hF2052 hF2056 rfl rfl
            rw [NX.c (((hF2049.2.1 2 ma_X2_gets_223_2).trans (hF2006.2.1 2 (by decide)))) (((hF2049.1 1 0 mf_X2_gets_223_1_0).trans (hF2006.1 1 0 (by decide))))] at hr2060
            refine At.enter rfl ?_
            refine r_istore _ rfl ?_
            refine q_iinc (w_p1 (by decide) (Or.inr rfl) (w_p1 (by decide) (Or.inr rfl) e2017)) (x2003.toInt + 1) rfl (by omega) (fun v2062 hv2062 => ?_)
            refine r_goto ?_
            have bv2063 := q_bnd v2053
            have bv2064 := q_bnd v2057
            exact ih2009 (11 - v2062.toInt) _ _ ⟨x2000, v2053, v2057, v2062, by first | rfl | omega, hI2055, hF2059, (w_p1 (by decide) (Or.inr rfl) (w_p1 (by decide) (Or.inr rfl) (w_p1 (by decide) (Or.inr rfl) e2010))), (w_p1 (by decide) (Or.inr rfl) (w_p1 (by decide) (Or.inr rfl) (w_p1 (by decide) (Or.inr rfl) e2011))), (w_p1 (by decide) (Or.inr rfl) (w_p1 (by decide) (Or.inr rfl) (w_p1 (by decide) (Or.inr rfl) e2012))), (w_p1 (by decide) (Or.inr rfl) (w_p1 (by decide) (Or.inr rfl) (w_p1 (by decide) (Or.inr rfl) e2013))), (w_p1 (by decide) (Or.inr rfl) (w_p1 (by decide) (Or.inr rfl) (w_p1 (by decide) (Or.inr rfl) e2014))), (w_p1 (by decide) (Or.inr rfl) (w_p1 (by decide) (Or.inr rfl) (w_e1 _ _ _))), (w_p1 (by decide) (Or.inr rfl) (w_e1 _ _ _)), (w_e1 _ _ _), by omega, by omega, (CBL_ne q2020 (FSX_fr hF2006 rfl) (by rw [hv2046]; exact hr2051.2) (FSX_fr hF2056 rfl) (hF2056.1 223 5 mf_X0_next_1_223_5) (hF2056.1 223 6 mf_X0_next_1_223_6) (hF2056.2.1 226 ma_X0_next_1_226) q2021 (by omega) ⟨by omega, by rw [hv2037]; omega⟩ (by omega) (by omega) (by omega) ov2053), (by rw [show v2062.toInt = x2003.toInt + 1 from by omega, itI_s (NX g0) (by omega), ← q2021]; omega), (q2022.trans (PSI_ne (by omega) (show v2062.toInt = x2003.toInt + 1 from by omega) q2021 (by omega)).symm), by omega, by omega⟩ ⟨by omega, by omega⟩
          · have c2045_ : x2002.toInt = a2.toInt := en_i_ne_f c2045
            refine At.enter rfl ?_
            refine r_iconst 1 rfl ?_
            refine r_istore _ rfl ?_
            refine r_goto ?_
            refine At.enter rfl ?_
            refine r_aload_n (w_p1 (by decide) (Or.inr rfl) e2010) ?_
            refine q_getR (Sh.ref hI2005.1 kx_223 rfl) ?_
            refine r_iload (w_p1 (by decide) (Or.inr rfl) e2016) ?_
            refine r_callV 101 rfl [.ref 1, .int x2002] [] (Nat.le_of_ble_eq_true rfl) rfl (T_X0_next_1 _ hI2005 x2002) ?_
            rintro _ _ ⟨g2065, rfl, hI2066, hF2067, v2068, rfl, hr2069⟩
            refine At.sti ?_
            have ks2072 := hr2069.2.2
            have hr2071 : _ ∧ _ := ⟨hr2069.1, hr2069.2.1⟩
            have hF2070 := Fr.tr hF2006 hF2067 rfl rfl
            rw [NX.c ((hF2006.2.1 2 (by decide))) ((hF2006.1 1 0 (by decide)))] at hr2071
            refine At.enter rfl ?_
            refine r_istore _ rfl ?_
            refine q_iinc (w_p1 (by decide) (Or.inr rfl) (w_p1 (by decide) (Or.inr rfl) e2017)) (x2003.toInt + 1) rfl (by omega) (fun v2073 hv2073 => ?_)
            refine r_goto ?_
            have zv2074 : (1 : Int32).toInt = 1 := rfl
            have bv2075 := q_bnd x2001
            have bv2076 := q_bnd v2068
            exact ih2009 (11 - v2073.toInt) _ _ ⟨1, x2001, v2068, v2073, by first | rfl | omega, hI2066, hF2070, (w_p1 (by decide) (Or.inr rfl) (w_p1 (by decide) (Or.inr rfl) (w_p1 (by decide) (Or.inr rfl) e2010))), (w_p1 (by decide) (Or.inr rfl) (w_p1 (by decide) (Or.inr rfl) (w_p1 (by decide) (Or.inr rfl) e2011))), (w_p1 (by decide) (Or.inr rfl) (w_p1 (by decide) (Or.inr rfl) (w_p1 (by decide) (Or.inr rfl) e2012))), (w_p1 (by decide) (Or.inr rfl) (w_p1 (by decide) (Or.inr rfl) (w_p1 (by decide) (Or.inr rfl) e2013))), (w_p1 (by decide) (Or.inr rfl) (w_p1 (by decide) (Or.inr rfl) (w_e1 _ _ _))), (w_p1 (by decide) (Or.inr rfl) (w_p1 (by decide) (Or.inr rfl) (w_p1 (by decide) (Or.inr rfl) e2015))), (w_p1 (by decide) (Or.inr rfl) (w_e1 _ _ _)), (w_e1 _ _ _), by decide, by omega, (CBL_eq q2020 (FSX_fr hF2067 rfl) (hF2067.1 223 5 mf_X0_next_1_223_5) (hF2067.1 223 6 mf_X0_next_1_223_6) (hF2067.2.1 226 ma_X0_next_1_226) q2021 (by omega) (by omega) (by omega) rfl), (by rw [show v2073.toInt = x2003.toInt + 1 from by omega, itI_s (NX g0) (by omega), ← q2021]; omega), (PSI_eq (by omega) (show v2073.toInt = x2003.toInt + 1 from by omega) q2021 (by omega)).symm, by omega, by omega⟩ ⟨by omega, by omega⟩
  · have c1645_ : a2.toInt = (-1) := en_i_ne_f c1645
    refine At.enter rfl ?_
    refine r_iload_n rfl ?_
    refine r_iconst (-1) rfl ?_
    refine r_ics 19 rfl (fun c2077 => ?_) (fun c2077 => ?_)
    · have c2077_ : v1642.toInt = (-1) := en_i_eq_t c2077
      refine At.enter rfl ?_
      refine r_iconst 0 rfl ?_
      refine Ar.fall 24 rfl ?_
      refine At.enter rfl ?_
      refine r_istore ([(4, .int 0), (3, .int v1642), (0, .ref 223), (1, .int a1), (2, .int a2)]) rfl ?_
      refine r_iconst 0 rfl ?_
      refine r_istore ([(5, .int 0), (4, .int 0), (3, .int v1642), (0, .ref 223), (1, .int a1), (2, .int a2)]) rfl ?_
      refine r_aload_n rfl ?_
      refine q_getR (Sh.ref hI1640.1 kx_223 rfl) ?_
      refine r_iload_n rfl ?_
      refine r_iconst 1 rfl ?_
      refine r_callV 38 rfl [.ref 1, .int a1, .int 1] [] (Nat.le_of_ble_eq_true rfl) rfl (T_X0_about_1 _ hI1640 a1 1) ?_
      rintro _ _ ⟨g2078, rfl, hI2079, hF2080, v2081, rfl, hr2082⟩
      refine At.sti ?_
      have ks2085 := hr2082.2.2
      have hr2084 : _ ∧ _ := ⟨hr2082.1, hr2082.2.1⟩
      have hF2083 := Fr.tr hF1644 hF2080 rfl rfl
      have zv2086 : (1 : Int32).toInt = 1 := rfl
      have ab2087_ := ABX.c ((hF1641.2.1 5 ma_X0_handsOf_1_5)) ((hF1641.1 1 4 mf_X0_handsOf_1_1_4)) hr2084.2
      have ab2087 : ABX g0 a1.toInt 1 v2081.toInt := ab2087_
      refine At.enter rfl ?_
      refine r_istore ([(6, .int v2081), (5, .int 0), (4, .int 0), (3, .int v1642), (0, .ref 223), (1, .int a1), (2, .int a2)]) rfl ?_
      refine r_iconst 0 rfl ?_
      refine r_istore ([(7, .int 0), (6, .int v2081), (5, .int 0), (4, .int 0), (3, .int v1642), (0, .ref 223), (1, .int a1), (2, .int a2)]) rfl ?_
      refine Ar.fall 43 rfl ?_
      have z_2123 : (0 : Int32).toInt = 0 := rfl
      have z_2124 : (0 : Int32).toInt = 0 := rfl
      have z_2125 : (0 : Int32).toInt = 0 := rfl
      refine w_loopI (fun n_ l_ g_ => ∃ x2097 : Int32, ∃ x2098 : Int32, ∃ x2099 : Int32, ∃ x2100 : Int32, n_ = 0 ∧ HI g_ ∧ Fr F_X2_costBeside_223 A_X2_costBeside_223 g0 g_ ∧ en_get 0 l_ = some (.ref 223) ∧ en_get 1 l_ = some (.int a1) ∧ en_get 2 l_ = some (.int a2) ∧ en_get 3 l_ = some (.int v1642) ∧ en_get 4 l_ = some (.int x2097) ∧ en_get 5 l_ = some (.int x2098) ∧ en_get 6 l_ = some (.int x2099) ∧ en_get 7 l_ = some (.int x2100) ∧ (0 ≤ x2097.toInt ∧ x2097.toInt ≤ 0) ∧ (0 ≤ x2098.toInt ∧ x2098.toInt ≤ 0) ∧ (0 ≤ x2100.toInt ∧ x2100.toInt ≤ 0) ∧ (CBL g0 g_ a1.toInt a2.toInt x2100.toInt v2081.toInt x2098.toInt) ∧ (x2099.toInt = itI (NX g0) x2100.toInt v2081.toInt) ∧ (x2097.toInt = PSI (NX g0) a2.toInt x2100.toInt v2081.toInt) ∧ (0 ≤ x2100.toInt) ∧ (x2100.toInt ≤ v1642.toInt ∨ x2100.toInt = 0)) ?_ (0) ⟨0, 0, v2081, 0, by first | rfl | omega, hI2079, hF2083, rfl, rfl, rfl, rfl, rfl, rfl, rfl, rfl, by decide, by decide, by decide, (CBL_z (FSX_fr hF2083 rfl) (((hF2080.1 223 5 mf_X0_about_1_223_5).trans (hF1641.1 223 5 mf_X0_handsOf_1_223_5))) (((hF2080.1 223 6 mf_X0_about_1_223_6).trans (hF1641.1 223 6 mf_X0_handsOf_1_223_6))) (((hF2080.2.1 226 ma_X0_about_1_226).trans (hF1641.2.1 226 ma_X0_handsOf_1_226))) rfl rfl), (itI_n _ (by first | decide | omega) _).symm, (PSI_z (by first | decide | omega)).symm, by omega, by omega⟩
      rintro n2105 l2104 g2101 ⟨x2097, x2098, x2099, x2100, hm2126, hI2102, hF2103, e2107, e2108, e2109, e2110, e2111, e2112, e2113, e2114, r2115, r2116, r2117, q2118, q2119, q2120, q2121, q2122⟩ ih2106
      refine At.enter rfl ?_
      refine r_iload e2114 ?_
      refine r_iload_n e2110 ?_
      have bv2128 := q_bnd x2100
      have bv2129 := q_bnd v1642
      refine r_ics 49 rfl (fun c2127 => ?_) (fun c2127 => ?_)
      · have c2127_ : x2100.toInt ≥ v1642.toInt := en_i_ge_t c2127
        refine At.enter rfl ?_
        refine r_iload e2111 ?_
        refine r_ifs 114 rfl (fun c2130 => ?_) (fun c2130 => ?_)
        · have c2130_ : x2097.toInt = 0 := en_k_eq_t c2130
          refine At.enter rfl ?_
          refine r_iconst (-1) rfl ?_
          refine Ar.fall 120 rfl ?_
          refine At.enter rfl ?_
          refine r_ireti ?_
          have zv2131 : ((-1) : Int32).toInt = (-1) := rfl
          exact ⟨_, rfl, hI2102, hF2103, _, rfl, trivial, (CBP_mk (p := x2097.toInt) hr1643.2 ab2087 q2118 q2119 (by first | exact Or.inl (by omega) | exact Or.inr (fun z => by omega)) (by omega) (by omega) (by first | exact Or.inl ⟨by omega, fun _ => by omega, fun _ => by omega⟩ | exact Or.inl ⟨by omega, fun z => absurd (by omega) z, fun _ => (by rw [q2120]; exact PSI_z (by omega))⟩ | exact Or.inr ⟨by omega, q2120⟩) (by first | exact Or.inl ⟨by omega, by omega⟩ | exact Or.inr ⟨by omega, by omega⟩))⟩
        · have c2130_ : x2097.toInt ≠ 0 := en_k_eq_f c2130
          exfalso; omega
      · have c2127_ : x2100.toInt < v1642.toInt := en_i_ge_f c2127
        exfalso; omega
    · have c2077_ : v1642.toInt ≠ (-1) := en_i_eq_f c2077
      refine At.enter rfl ?_
      refine r_iconst 1 rfl ?_
      refine r_goto ?_
      refine At.enter rfl ?_
      refine r_istore ([(4, .int 1), (3, .int v1642), (0, .ref 223), (1, .int a1), (2, .int a2)]) rfl ?_
      refine r_iconst 0 rfl ?_
      refine r_istore ([(5, .int 0), (4, .int 1), (3, .int v1642), (0, .ref 223), (1, .int a1), (2, .int a2)]) rfl ?_
      refine r_aload_n rfl ?_
      refine q_getR (Sh.ref hI1640.1 kx_223 rfl) ?_
      refine r_iload_n rfl ?_
      refine r_iconst 1 rfl ?_
      refine r_callV 38 rfl [.ref 1, .int a1, .int 1] [] (Nat.le_of_ble_eq_true rfl) rfl (T_X0_about_1 _ hI1640 a1 1) ?_
      rintro _ _ ⟨g2132, rfl, hI2133, hF2134, v2135, rfl, hr2136⟩
      refine At.sti ?_
      have ks2139 := hr2136.2.2
      have hr2138 : _ ∧ _ := ⟨hr2136.1, hr2136.2.1⟩
      have hF2137 := Fr.tr hF1644 hF2134 rfl rfl
      have zv2140 : (1 : Int32).toInt = 1 := rfl
      have ab2141_ := ABX.c ((hF1641.2.1 5 ma_X0_handsOf_1_5)) ((hF1641.1 1 4 mf_X0_handsOf_1_1_4)) hr2138.2
      have ab2141 : ABX g0 a1.toInt 1 v2135.toInt := ab2141_
      refine At.enter rfl ?_
      refine r_istore ([(6, .int v2135), (5, .int 0), (4, .int 1), (3, .int v1642), (0, .ref 223), (1, .int a1), (2, .int a2)]) rfl ?_
      refine r_iconst 0 rfl ?_
      refine r_istore ([(7, .int 0), (6, .int v2135), (5, .int 0), (4, .int 1), (3, .int v1642), (0, .ref 223), (1, .int a1), (2, .int a2)]) rfl ?_
      refine Ar.fall 43 rfl ?_
      have z_2439 : (1 : Int32).toInt = 1 := rfl
      have z_2440 : (0 : Int32).toInt = 0 := rfl
      have z_2441 : (0 : Int32).toInt = 0 := rfl
      refine w_loopI (fun n_ l_ g_ => ∃ x2414 : Int32, ∃ x2415 : Int32, ∃ x2416 : Int32, ∃ x2417 : Int32, n_ = 11 - x2417.toInt ∧ HI g_ ∧ Fr F_X2_costBeside_223 A_X2_costBeside_223 g0 g_ ∧ en_get 0 l_ = some (.ref 223) ∧ en_get 1 l_ = some (.int a1) ∧ en_get 2 l_ = some (.int a2) ∧ en_get 3 l_ = some (.int v1642) ∧ en_get 4 l_ = some (.int x2414) ∧ en_get 5 l_ = some (.int x2415) ∧ en_get 6 l_ = some (.int x2416) ∧ en_get 7 l_ = some (.int x2417) ∧ (1 ≤ x2414.toInt ∧ x2414.toInt ≤ 1) ∧ (0 ≤ x2417.toInt ∧ x2417.toInt ≤ 11) ∧ (CBL g0 g_ a1.toInt a2.toInt x2417.toInt v2135.toInt x2415.toInt) ∧ (x2416.toInt = itI (NX g0) x2417.toInt v2135.toInt) ∧ (x2414.toInt = 1) ∧ (0 ≤ x2417.toInt) ∧ (x2417.toInt ≤ v1642.toInt ∨ x2417.toInt = 0)) ?_ (11 - 0) ⟨1, 0, v2135, 0, by first | rfl | omega, hI2133, hF2137, rfl, rfl, rfl, rfl, rfl, rfl, rfl, rfl, by decide, by decide, (CBL_z (FSX_fr hF2137 rfl) (((hF2134.1 223 5 mf_X0_about_1_223_5).trans (hF1641.1 223 5 mf_X0_handsOf_1_223_5))) (((hF2134.1 223 6 mf_X0_about_1_223_6).trans (hF1641.1 223 6 mf_X0_handsOf_1_223_6))) (((hF2134.2.1 226 ma_X0_about_1_226).trans (hF1641.2.1 226 ma_X0_handsOf_1_226))) rfl rfl), (itI_n _ (by first | decide | omega) _).symm, by first | rfl | omega, by omega, by omega⟩
      rintro n2422 l2421 g2418 ⟨x2414, x2415, x2416, x2417, hm2442, hI2419, hF2420, e2424, e2425, e2426, e2427, e2428, e2429, e2430, e2431, r2432, r2433, q2434, q2435, q2436, q2437, q2438⟩ ih2423
      refine At.enter rfl ?_
      refine r_iload e2431 ?_
      refine r_iload_n e2427 ?_
      have bv2444 := q_bnd x2417
      have bv2445 := q_bnd v1642
      refine r_ics 49 rfl (fun c2443 => ?_) (fun c2443 => ?_)
      · have c2443_ : x2417.toInt ≥ v1642.toInt := en_i_ge_t c2443
        refine At.enter rfl ?_
        refine r_iload e2428 ?_
        refine r_ifs 114 rfl (fun c2446 => ?_) (fun c2446 => ?_)
        · have c2446_ : x2414.toInt = 0 := en_k_eq_t c2446
          exfalso; omega
        · have c2446_ : x2414.toInt ≠ 0 := en_k_eq_f c2446
          refine At.enter rfl ?_
          refine r_iload e2429 ?_
          refine r_goto ?_
          refine At.enter rfl ?_
          refine r_ireti ?_
          exact ⟨_, rfl, hI2419, hF2420, _, rfl, trivial, (CBP_mk (p := x2414.toInt) hr1643.2 ab2141 q2434 q2435 (by first | exact Or.inl (by omega) | exact Or.inr (fun z => by omega)) (by omega) (by omega) (by first | exact Or.inl ⟨by omega, fun _ => by omega, fun _ => by omega⟩ | exact Or.inl ⟨by omega, fun z => absurd (by omega) z, fun _ => (by rw [q2436]; exact PSI_z (by omega))⟩ | exact Or.inr ⟨by omega, q2436⟩) (by first | exact Or.inl ⟨by omega, by omega⟩ | exact Or.inr ⟨by omega, by omega⟩))⟩
      · have c2443_ : x2417.toInt < v1642.toInt := en_i_ge_f c2443
        refine At.enter rfl ?_
        refine r_aload_n e2424 ?_
        refine q_getR (Sh.ref hI2419.1 kx_223 rfl) ?_
        refine r_iload e2430 ?_
        refine q_inlV 58 rfl [.ref 1, .int x2416] [] (Nat.le_of_ble_eq_true rfl) rfl ?_
        refine Ev.mk rfl rfl ⟨Nat.le_of_ble_eq_true rfl, Or.inr (q_rc hI2419.1 kx_1 rfl)⟩ ?_
        show At _ none _ _ (0, [(0, .ref 1), (1, .int x2416)], [], (_, _)) _
        refine At.enter rfl ?_
        refine r_iload_n rfl ?_
        refine r_ifs 4 rfl (fun c2447 => ?_) (fun c2447 => ?_)
        · have c2447_ : x2416.toInt < 0 := en_k_lt_t c2447
          refine At.enter rfl ?_
          refine r_iconst 0 rfl ?_
          refine Ar.fall 17 rfl ?_
          refine At.enter rfl ?_
          refine q_iretz (by decide) ?_
          refine At.enter rfl ?_
          refine r_ift (by decide) ?_
          refine At.enter rfl ?_
          refine r_iload e2428 ?_
          refine r_ifs 114 rfl (fun c2448 => ?_) (fun c2448 => ?_)
          · have c2448_ : x2414.toInt = 0 := en_k_eq_t c2448
            exfalso; omega
          · have c2448_ : x2414.toInt ≠ 0 := en_k_eq_f c2448
            refine At.enter rfl ?_
            refine r_iload e2429 ?_
            refine r_goto ?_
            refine At.enter rfl ?_
            refine r_ireti ?_
            exact ⟨_, rfl, hI2419, hF2420, _, rfl, trivial, (CBP_mk (p := x2414.toInt) hr1643.2 ab2141 q2434 q2435 (by first | exact Or.inl (by omega) | exact Or.inr (fun z => by omega)) (by omega) (by omega) (by first | exact Or.inl ⟨by omega, fun _ => by omega, fun _ => by omega⟩ | exact Or.inl ⟨by omega, fun z => absurd (by omega) z, fun _ => (by rw [q2436]; exact PSI_z (by omega))⟩ | exact Or.inr ⟨by omega, q2436⟩) (by first | exact Or.inl ⟨by omega, by omega⟩ | exact Or.inr ⟨by omega, by omega⟩))⟩
        · have c2447_ : x2416.toInt ≥ 0 := en_k_lt_f c2447
          refine At.enter rfl ?_
          refine r_iload_n rfl ?_
          refine r_aload_n rfl ?_
          obtain ⟨v2449, hv2449⟩ : ∃ v, gI g0 1 0 = v := ⟨_, rfl⟩
          have rv2449 := RgF.at hI0.2.1 (p := 1) (b := 0) rfl
          rw [hv2449] at rv2449
          dsimp only at rv2449
          refine q_getI (Sh.int hI2419.1 kx_1 rfl) v2449 ((hF2420.1 1 0 (by decide)).trans hv2449) ?_
          have bv2451 := q_bnd x2416
          have bv2452 := q_bnd v2449
          refine r_ics 12 rfl (fun c2450 => ?_) (fun c2450 => ?_)
          · have c2450_ : x2416.toInt ≥ v2449.toInt := en_i_ge_t c2450
            refine At.enter rfl ?_
            refine r_iconst 0 rfl ?_
            refine Ar.fall 17 rfl ?_
            refine At.enter rfl ?_
            refine q_iretz (by decide) ?_
            refine At.enter rfl ?_
            refine r_ift (by decide) ?_
            refine At.enter rfl ?_
            refine r_iload e2428 ?_
            refine r_ifs 114 rfl (fun c2453 => ?_) (fun c2453 => ?_)
            · have c2453_ : x2414.toInt = 0 := en_k_eq_t c2453
              exfalso; omega
            · have c2453_ : x2414.toInt ≠ 0 := en_k_eq_f c2453
              refine At.enter rfl ?_
              refine r_iload e2429 ?_
              refine r_goto ?_
              refine At.enter rfl ?_
              refine r_ireti ?_
              have y2454 := congrArg Int32.toInt hv2449
              exact ⟨_, rfl, hI2419, hF2420, _, rfl, trivial, (CBP_mk (p := x2414.toInt) hr1643.2 ab2141 q2434 q2435 (by first | exact Or.inl (by omega) | exact Or.inr (fun z => by omega)) (by omega) (by omega) (by first | exact Or.inl ⟨by omega, fun _ => by omega, fun _ => by omega⟩ | exact Or.inl ⟨by omega, fun z => absurd (by omega) z, fun _ => (by rw [q2436]; exact PSI_z (by omega))⟩ | exact Or.inr ⟨by omega, q2436⟩) (by first | exact Or.inl ⟨by omega, by omega⟩ | exact Or.inr ⟨by omega, by omega⟩))⟩
          · have c2450_ : x2416.toInt < v2449.toInt := en_i_ge_f c2450
            refine At.enter rfl ?_
            refine r_iconst 1 rfl ?_
            refine r_goto ?_
            refine At.enter rfl ?_
            refine q_iretz (by decide) ?_
            refine At.enter rfl ?_
            refine r_iff 61 rfl (by decide) ?_
            refine At.enter rfl ?_
            refine r_iload e2430 ?_
            refine r_iload_n e2426 ?_
            refine r_ics 67 rfl (fun c2455 => ?_) (fun c2455 => ?_)
            · have c2455_ : x2416.toInt ≠ a2.toInt := en_i_ne_t c2455
              refine At.enter rfl ?_
              refine r_iload e2429 ?_
              refine r_aload_n e2424 ?_
              refine r_iload_n e2425 ?_
              refine r_iload e2430 ?_
              refine r_aload_n e2424 ?_
              refine q_getR (Sh.ref hI2419.1 kx_223 rfl) ?_
              refine r_iload e2430 ?_
              obtain ⟨v2456, hv2456⟩ : ∃ v, eA g0 224 x2416.toInt = v := ⟨_, rfl⟩
              refine q_iald (Sh.arr hI2419.1 ka_224) x2416.toInt rfl (by omega) v2456 ((eA_c (hF2420.2.1 224 (by decide))).trans hv2456) ?_
              refine r_callV 89 rfl [.ref 223, .int a1, .int x2416, .int v2456] [.int x2415] (Nat.le_of_ble_eq_true rfl) rfl (T_X2_gets_223 _ hI2419 a1 x2416 v2456) ?_
              rintro _ _ ⟨g2457, rfl, hI2458, hF2459, v2460, rfl, hr2461⟩
              refine At.sti ?_
              have hF2462 := Fr.tr hF2420 hF2459 rfl rfl
              refine At.enter rfl ?_
              refine q_iaddO (fun v2463 ov2463 => ?_)
              refine r_istore _ rfl ?_
              refine Ar.fall 92 rfl ?_
              refine At.enter rfl ?_
              refine r_aload_n (w_p1 (by decide) (Or.inr rfl) e2424) ?_
              refine q_getR (Sh.ref hI2458.1 kx_223 rfl) ?_
              refine r_iload (w_p1 (by decide) (Or.inr rfl) e2430) ?_
              refine r_callV 101 rfl [.ref 1, .int x2416] [] (Nat.le_of_ble_eq_true rfl) rfl (T_X0_next_1 _ hI2458 x2416) ?_
              rintro _ _ ⟨g2464, rfl, hI2465, hF2466, v2467, rfl, hr2468⟩
              refine At.sti ?_
              have ks2471 := hr2468.2.2
              have hr2470 : _ ∧ _ := ⟨hr2468.1, hr2468.2.1⟩
              have hF2469 := Fr.tr hF2462 hF2466 rfl rfl
              rw [NX.c (((hF2459.2.1 2 ma_X2_gets_223_2).trans (hF2420.2.1 2 (by decide)))) (((hF2459.1 1 0 mf_X2_gets_223_1_0).trans (hF2420.1 1 0 (by decide))))] at hr2470
              refine At.enter rfl ?_
              refine r_istore _ rfl ?_
              refine q_iinc (w_p1 (by decide) (Or.inr rfl) (w_p1 (by decide) (Or.inr rfl) e2431)) (x2417.toInt + 1) rfl (by omega) (fun v2472 hv2472 => ?_)
              refine r_goto ?_
              have bv2473 := q_bnd v2463
              have bv2474 := q_bnd v2467
              exact ih2423 (11 - v2472.toInt) _ _ ⟨x2414, v2463, v2467, v2472, by first | rfl | omega, hI2465, hF2469, (w_p1 (by decide) (Or.inr rfl) (w_p1 (by decide) (Or.inr rfl) (w_p1 (by decide) (Or.inr rfl) e2424))), (w_p1 (by decide) (Or.inr rfl) (w_p1 (by decide) (Or.inr rfl) (w_p1 (by decide) (Or.inr rfl) e2425))), (w_p1 (by decide) (Or.inr rfl) (w_p1 (by decide) (Or.inr rfl) (w_p1 (by decide) (Or.inr rfl) e2426))), (w_p1 (by decide) (Or.inr rfl) (w_p1 (by decide) (Or.inr rfl) (w_p1 (by decide) (Or.inr rfl) e2427))), (w_p1 (by decide) (Or.inr rfl) (w_p1 (by decide) (Or.inr rfl) (w_p1 (by decide) (Or.inr rfl) e2428))), (w_p1 (by decide) (Or.inr rfl) (w_p1 (by decide) (Or.inr rfl) (w_e1 _ _ _))), (w_p1 (by decide) (Or.inr rfl) (w_e1 _ _ _)), (w_e1 _ _ _), by omega, by omega, (CBL_ne q2434 (FSX_fr hF2420 rfl) (by rw [hv2456]; exact hr2461.2) (FSX_fr hF2466 rfl) (hF2466.1 223 5 mf_X0_next_1_223_5) (hF2466.1 223 6 mf_X0_next_1_223_6) (hF2466.2.1 226 ma_X0_next_1_226) q2435 (by omega) ⟨by omega, by rw [hv2449]; omega⟩ (by omega) (by omega) (by omega) ov2463), (by rw [show v2472.toInt = x2417.toInt + 1 from by omega, itI_s (NX g0) (by omega), ← q2435]; omega), by first | rfl | omega, by omega, by omega⟩ ⟨by omega, by omega⟩
            · have c2455_ : x2416.toInt = a2.toInt := en_i_ne_f c2455
              exfalso; omega
