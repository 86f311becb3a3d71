def F_X2_gets_223 : List (Nat × Nat) := [(185, 3)]
def A_X2_gets_223 : List Nat := [226]
set_option maxRecDepth 100000 in
set_option maxHeartbeats 4000000 in
theorem T_X2_gets_223 (d : Nat) {N : Nat} {g0 : List en_E} (hI0 : HI g0) (a1 : Int32) (a2 : Int32) (a3 : Int32) : Ev (d + 4) 49 [.ref 223, .int a1, .int a2, .int a3] (g0, N) (fun w h' => ∃ g', h' = (g', N) ∧ HI g' ∧ Fr F_X2_gets_223 A_X2_gets_223 g0 g' ∧ ∃ r : Int32, w = some (.int r) ∧ True) := by
  have hF0 : Fr F_X2_gets_223 A_X2_gets_223 g0 g0 := Fr.rf
  refine Ev.mk rfl rfl ⟨Nat.le_of_ble_eq_true rfl, Or.inr (q_rc hI0.1 kx_223 rfl)⟩ ?_
  show At _ none _ _ (0, [(0, .ref 223), (1, .int a1), (2, .int a2), (3, .int a3)], [], (_, _)) _
  refine At.enter rfl ?_
  refine r_aload_n rfl ?_
  obtain ⟨v69, hv69⟩ : ∃ v, gI g0 223 6 = v := ⟨_, rfl⟩
  refine q_getI (Sh.int hI0.1 kx_223 rfl) v69 hv69 ?_
  refine r_ifs 7 rfl (fun c70 => ?_) (fun c70 => ?_)
  · have c70_ : v69.toInt = 0 := en_k_eq_t c70
    refine At.enter rfl ?_
    refine r_iload_n rfl ?_
    refine r_ireti ?_
    exact ⟨_, rfl, hI0, hF0, _, rfl, trivial⟩
  · have c70_ : v69.toInt ≠ 0 := en_k_eq_f c70
    refine At.enter rfl ?_
    refine r_aload_n rfl ?_
    refine q_getR (Sh.ref hI0.1 kx_223 rfl) ?_
    refine r_iload_n rfl ?_
    refine q_inlV 15 rfl [.ref 1, .int a1] [] (Nat.le_of_ble_eq_true rfl) rfl ?_
    refine Ev.mk rfl rfl ⟨Nat.le_of_ble_eq_true rfl, Or.inr (q_rc hI0.1 kx_1 rfl)⟩ ?_
    show At _ none _ _ (0, [(0, .ref 1), (1, .int a1)], [], (_, _)) _
    refine At.enter rfl ?_
    refine r_iload_n rfl ?_
    refine r_ifs 4 rfl (fun c71 => ?_) (fun c71 => ?_)
    · have c71_ : a1.toInt < 0 := en_k_lt_t c71
      refine At.enter rfl ?_
      refine r_iconst 0 rfl ?_
      refine Ar.fall 17 rfl ?_
      refine At.enter rfl ?_
      refine q_iretz (by decide) ?_
      refine At.enter rfl ?_
      refine r_ift (by decide) ?_
      refine At.enter rfl ?_
      refine r_iload_n rfl ?_
      refine r_ireti ?_
      exact ⟨_, rfl, hI0, hF0, _, rfl, trivial⟩
    · have c71_ : a1.toInt ≥ 0 := en_k_lt_f c71
      refine At.enter rfl ?_
      refine r_iload_n rfl ?_
      refine r_aload_n rfl ?_
      obtain ⟨v72, hv72⟩ : ∃ v, gI g0 1 4 = v := ⟨_, rfl⟩
      have rv72 := RgF.at hI0.2.1 (p := 1) (b := 4) rfl
      rw [hv72] at rv72
      dsimp only at rv72
      refine q_getI (Sh.int hI0.1 kx_1 rfl) v72 hv72 ?_
      have bv74 := q_bnd a1
      have bv75 := q_bnd v72
      refine r_ics 12 rfl (fun c73 => ?_) (fun c73 => ?_)
      · have c73_ : a1.toInt ≥ v72.toInt := en_i_ge_t c73
        refine At.enter rfl ?_
        refine r_iconst 0 rfl ?_
        refine Ar.fall 17 rfl ?_
        refine At.enter rfl ?_
        refine q_iretz (by decide) ?_
        refine At.enter rfl ?_
        refine r_ift (by decide) ?_
        refine At.enter rfl ?_
        refine r_iload_n rfl ?_
        refine r_ireti ?_
        exact ⟨_, rfl, hI0, hF0, _, rfl, trivial⟩
      · have c73_ : a1.toInt < v72.toInt := en_i_ge_f c73
        refine At.enter rfl ?_
        refine r_iconst 1 rfl ?_
        refine r_goto ?_
        refine At.enter rfl ?_
        refine q_iretz (by decide) ?_
        refine At.enter rfl ?_
        refine r_iff 18 rfl (by decide) ?_
        refine At.enter rfl ?_
        refine r_aload_n rfl ?_
        refine q_getR (Sh.ref hI0.1 kx_223 rfl) ?_
        refine r_iload_n rfl ?_
        refine q_inlV 26 rfl [.ref 1, .int a2] [] (Nat.le_of_ble_eq_true rfl) rfl ?_
        refine Ev.mk rfl rfl ⟨Nat.le_of_ble_eq_true rfl, Or.inr (q_rc hI0.1 kx_1 rfl)⟩ ?_
        show At _ none _ _ (0, [(0, .ref 1), (1, .int a2)], [], (_, _)) _
        refine At.enter rfl ?_
        refine r_iload_n rfl ?_
        refine r_ifs 4 rfl (fun c76 => ?_) (fun c76 => ?_)
        · have c76_ : a2.toInt < 0 := en_k_lt_t c76
          refine At.enter rfl ?_
          refine r_iconst 0 rfl ?_
          refine Ar.fall 17 rfl ?_
          refine At.enter rfl ?_
          refine q_iretz (by decide) ?_
          refine At.enter rfl ?_
          refine r_ift (by decide) ?_
          refine At.enter rfl ?_
          refine r_iload_n rfl ?_
          refine r_ireti ?_
          exact ⟨_, rfl, hI0, hF0, _, rfl, trivial⟩
        · have c76_ : a2.toInt ≥ 0 := en_k_lt_f c76
          refine At.enter rfl ?_
          refine r_iload_n rfl ?_
          refine r_aload_n rfl ?_
          obtain ⟨v77, hv77⟩ : ∃ v, gI g0 1 0 = v := ⟨_, rfl⟩
          have rv77 := RgF.at hI0.2.1 (p := 1) (b := 0) rfl
          rw [hv77] at rv77
          dsimp only at rv77
          refine q_getI (Sh.int hI0.1 kx_1 rfl) v77 hv77 ?_
          have bv79 := q_bnd a2
          have bv80 := q_bnd v77
          refine r_ics 12 rfl (fun c78 => ?_) (fun c78 => ?_)
          · have c78_ : a2.toInt ≥ v77.toInt := en_i_ge_t c78
            refine At.enter rfl ?_
            refine r_iconst 0 rfl ?_
            refine Ar.fall 17 rfl ?_
            refine At.enter rfl ?_
            refine q_iretz (by decide) ?_
            refine At.enter rfl ?_
            refine r_ift (by decide) ?_
            refine At.enter rfl ?_
            refine r_iload_n rfl ?_
            refine r_ireti ?_
            exact ⟨_, rfl, hI0, hF0, _, rfl, trivial⟩
          · have c78_ : a2.toInt < v77.toInt := en_i_ge_f c78
            refine At.enter rfl ?_
            refine r_iconst 1 rfl ?_
            refine r_goto ?_
            refine At.enter rfl ?_
            refine q_iretz (by decide) ?_
            refine At.enter rfl ?_
            refine r_iff 29 rfl (by decide) ?_
            refine At.enter rfl ?_
            refine r_iload_n rfl ?_
            refine q_inlS 33 rfl [.int a3] [] (Nat.le_of_ble_eq_true rfl) rfl ?_
            refine Ev.mk rfl rfl ⟨Nat.le_of_ble_eq_true rfl, Or.inl rfl⟩ ?_
            show At _ none _ _ (0, [(0, .int a3)], [], (_, _)) _
            refine At.enter rfl ?_
            refine r_iload_n rfl ?_
            refine r_iconst 0 rfl ?_
            refine r_bipush 99 rfl ?_
            refine q_inlS 7 rfl [.int a3, .int 0, .int 99] [] (Nat.le_of_ble_eq_true rfl) rfl ?_
            refine Ev.mk rfl rfl ⟨Nat.le_of_ble_eq_true rfl, Or.inl rfl⟩ ?_
            show At _ none _ _ (0, [(0, .int a3), (1, .int 0), (2, .int 99)], [], (_, _)) _
            refine At.enter rfl ?_
            refine r_iload_n rfl ?_
            refine r_iload_n rfl ?_
            refine r_ics 5 rfl (fun c81 => ?_) (fun c81 => ?_)
            · have c81_ : a3.toInt < 0 := en_i_lt_t c81
              refine At.enter rfl ?_
              refine r_iconst 0 rfl ?_
              refine Ar.fall 15 rfl ?_
              refine At.enter rfl ?_
              refine q_iretz (by decide) ?_
              refine At.enter rfl ?_
              refine q_iretz (by decide) ?_
              refine At.enter rfl ?_
              refine r_iff 36 rfl (by decide) ?_
              refine At.enter rfl ?_
              refine r_iload_n rfl ?_
              refine r_ireti ?_
              exact ⟨_, rfl, hI0, hF0, _, rfl, trivial⟩
            · have c81_ : a3.toInt ≥ 0 := en_i_lt_f c81
              refine At.enter rfl ?_
              refine r_iload_n rfl ?_
              refine r_iload_n rfl ?_
              refine r_ics 10 rfl (fun c82 => ?_) (fun c82 => ?_)
              · have c82_ : a3.toInt > 99 := en_i_gt_t c82
                refine At.enter rfl ?_
                refine r_iconst 0 rfl ?_
                refine Ar.fall 15 rfl ?_
                refine At.enter rfl ?_
                refine q_iretz (by decide) ?_
                refine At.enter rfl ?_
                refine q_iretz (by decide) ?_
                refine At.enter rfl ?_
                refine r_iff 36 rfl (by decide) ?_
                refine At.enter rfl ?_
                refine r_iload_n rfl ?_
                refine r_ireti ?_
                exact ⟨_, rfl, hI0, hF0, _, rfl, trivial⟩
              · have c82_ : a3.toInt ≤ 99 := en_i_gt_f c82
                refine At.enter rfl ?_
                refine r_iconst 1 rfl ?_
                refine r_goto ?_
                refine At.enter rfl ?_
                refine q_iretz (by decide) ?_
                refine At.enter rfl ?_
                refine q_iretz (by decide) ?_
                refine At.enter rfl ?_
                refine r_ift (by decide) ?_
                refine At.enter rfl ?_
                refine r_iload_n rfl ?_
                refine r_bipush 12 rfl ?_
                refine q_imul (a1.toInt * 12) rfl (by omega) (fun v83 hv83 => ?_)
                refine r_iload_n rfl ?_
                refine q_iadd (v83.toInt + a2.toInt) rfl (by omega) (fun v84 hv84 => ?_)
                refine r_bipush 100 rfl ?_
                refine q_imul (v84.toInt * 100) rfl (by omega) (fun v85 hv85 => ?_)
                refine r_iload_n rfl ?_
                refine q_iadd (v85.toInt + a3.toInt) rfl (by omega) (fun v86 hv86 => ?_)
                refine r_istore ([(4, .int v86), (0, .ref 223), (1, .int a1), (2, .int a2), (3, .int a3)]) rfl ?_
                refine r_aload_n rfl ?_
                refine q_getR (Sh.ref hI0.1 kx_223 rfl) ?_
                refine r_iload rfl ?_
                obtain ⟨v87, hv87⟩ : ∃ v, eA g0 226 (1200 * a1.toInt + 100 * a2.toInt + a3.toInt) = v := ⟨_, rfl⟩
                refine q_iald (Sh.arr hI0.1 ka_226) (1200 * a1.toInt + 100 * a2.toInt + a3.toInt) (by omega) (by omega) v87 hv87 ?_
                refine r_iconst (-1) rfl ?_
                refine r_ics 62 rfl (fun c88 => ?_) (fun c88 => ?_)
                · have c88_ : v87.toInt ≠ (-1) := en_i_ne_t c88
                  refine At.enter rfl ?_
                  refine r_aload_n rfl ?_
                  refine q_getR (Sh.ref hI0.1 kx_223 rfl) ?_
                  refine r_iload rfl ?_
                  refine q_iald (Sh.arr hI0.1 ka_226) (1200 * a1.toInt + 100 * a2.toInt + a3.toInt) (by omega) (by omega) v87 hv87 ?_
                  refine r_ireti ?_
                  exact ⟨_, rfl, hI0, hF0, _, rfl, trivial⟩
                · have c88_ : v87.toInt = (-1) := en_i_ne_f c88
                  refine At.enter rfl ?_
                  refine r_aload_n rfl ?_
                  refine q_getR (Sh.ref hI0.1 kx_223 rfl) ?_
                  refine r_iconst 1 rfl ?_
                  refine r_iload_n rfl ?_
                  refine r_iload_n rfl ?_
                  refine r_iconst 0 rfl ?_
                  refine r_iconst 0 rfl ?_
                  refine r_aload_n rfl ?_
                  refine q_getR (Sh.ref hI0.1 kx_223 rfl) ?_
                  refine q_getR (Sh.ref hI0.1 kx_1 rfl) ?_
                  refine r_iload_n rfl ?_
                  obtain ⟨v89, hv89⟩ : ∃ v, eA g0 3 a2.toInt = v := ⟨_, rfl⟩
                  refine q_iald (Sh.arr hI0.1 ka_3) a2.toInt rfl (by omega) v89 hv89 ?_
                  refine r_iload_n rfl ?_
                  refine r_callV 84 rfl [.ref 185, .int 1, .int a1, .int a2, .int 0, .int 0, .int v89, .int a3] [] (Nat.le_of_ble_eq_true rfl) rfl (T_X3_tells_185 _ hI0 1 a1 a2 0 0 v89 a3) ?_
                  rintro _ _ ⟨g90, rfl, hI91, hF92, v93, rfl, hr94⟩
                  refine At.stl ?_
                  have hF95 := Fr.tr hF0 hF92 rfl rfl
                  refine At.enter rfl ?_
                  refine r_lstore ([(5, .long v93), (4, .int v86), (0, .ref 223), (1, .int a1), (2, .int a2), (3, .int a3)]) rfl ?_
                  refine r_aload_n rfl ?_
                  refine q_getR (Sh.ref hI91.1 kx_223 rfl) ?_
                  refine r_iload rfl ?_
                  refine r_lconst 0 rfl ?_
                  refine r_ldc2 999 rfl ?_
                  refine r_lload rfl ?_
                  refine q_lmin rfl (Nat.le_of_ble_eq_true rfl) (fun v96 hv96 => ?_)
                  have zv97 : (999 : Int64).toInt = 999 := rfl
                  refine q_lmax rfl (Nat.le_of_ble_eq_true rfl) (fun v98 hv98 => ?_)
                  have zv99 : (0 : Int64).toInt = 0 := rfl
                  refine q_l2iO (fun v100 hv100 => ?_)
                  refine q_iast (Sh.arr hI91.1 ka_226) ((1200 * a1.toInt + 100 * a2.toInt + a3.toInt)) (by omega) (by omega) ?_
                  have hI101 := HI.wA0 hI91 ka_226 (p := 226) rfl rfl ((1200 * a1.toInt + 100 * a2.toInt + a3.toInt)) (v100)
                  have hF102 := Fr.wA (p := 226) (j := (1200 * a1.toInt + 100 * a2.toInt + a3.toInt)) (v := v100) hF95 rfl
                  refine Ar.fall 106 rfl ?_
                  refine At.enter rfl ?_
                  refine r_aload_n rfl ?_
                  refine q_getR (Sh.ref hI101.1 kx_223 rfl) ?_
                  refine r_iload rfl ?_
                  refine q_iald (Sh.arr hI101.1 ka_226) (1200 * a1.toInt + 100 * a2.toInt + a3.toInt) (by omega) (by omega) v100 (eA_sA_eq hI91.1 ka_226 (by first | rfl | omega) (by first | decide | omega) (by first | decide | omega)) ?_
                  refine r_ireti ?_
                  exact ⟨_, rfl, hI101, hF102, _, rfl, trivial⟩

def F_X2_costBeside_223 : List (Nat × Nat) := [(185, 3)]
def A_X2_costBeside_223 : List Nat := [226]
set_option maxRecDepth 100000 in
set_option maxHeartbeats 4000000 in
theorem T_X2_costBeside_223 (d : Nat) {N : Nat} {g0 : List en_E} (hI0 : HI g0) (a1 : Int32) (a2 : Int32) : Ev (d + 5) 48 [.ref 223, .int a1, .int a2] (g0, N) (fun w h' => ∃ g', h' = (g', N) ∧ HI g' ∧ Fr F_X2_costBeside_223 A_X2_costBeside_223 g0 g' ∧ ∃ r : Int32, w = some (.int r) ∧ True) := by
  have hF0 : Fr F_X2_costBeside_223 A_X2_costBeside_223 g0 g0 := Fr.rf
  refine Ev.mk rfl rfl ⟨Nat.le_of_ble_eq_true rfl, Or.inr (q_rc hI0.1 kx_223 rfl)⟩ ?_
  show At _ none _ _ (0, [(0, .ref 223), (1, .int a1), (2, .int a2)], [], (_, _)) _
  refine At.enter rfl ?_
  refine r_aload_n rfl ?_
  refine q_getR (Sh.ref hI0.1 kx_223 rfl) ?_
  refine r_iload_n rfl ?_
  refine r_callV 8 rfl [.ref 1, .int a1] [] (Nat.le_of_ble_eq_true rfl) rfl (T_X0_handsOf_1 _ hI0 a1) ?_
  rintro _ _ ⟨g1493, rfl, hI1494, hF1495, v1496, rfl, hr1497⟩
  refine At.sti ?_
  have hF1498 := Fr.tr hF0 hF1495 rfl rfl
  refine At.enter rfl ?_
  refine r_istore_n ([(3, .int v1496), (0, .ref 223), (1, .int a1), (2, .int a2)]) rfl ?_
  refine r_iload_n rfl ?_
  refine r_iconst (-1) rfl ?_
  refine r_ics 14 rfl (fun c1499 => ?_) (fun c1499 => ?_)
  · have c1499_ : a2.toInt ≠ (-1) := en_i_ne_t c1499
    refine At.enter rfl ?_
    refine r_iconst 0 rfl ?_
    refine Ar.fall 24 rfl ?_
    refine At.enter rfl ?_
    refine r_istore ([(4, .int 0), (3, .int v1496), (0, .ref 223), (1, .int a1), (2, .int a2)]) rfl ?_
    refine r_iconst 0 rfl ?_
    refine r_istore ([(5, .int 0), (4, .int 0), (3, .int v1496), (0, .ref 223), (1, .int a1), (2, .int a2)]) rfl ?_
    refine r_aload_n rfl ?_
    refine q_getR (Sh.ref hI1494.1 kx_223 rfl) ?_
    refine r_iload_n rfl ?_
    refine r_iconst 1 rfl ?_
    refine r_callV 38 rfl [.ref 1, .int a1, .int 1] [] (Nat.le_of_ble_eq_true rfl) rfl (T_X0_about_1 _ hI1494 a1 1) ?_
    rintro _ _ ⟨g1500, rfl, hI1501, hF1502, v1503, rfl, hr1504⟩
    refine At.sti ?_
    have hF1505 := Fr.tr hF1498 hF1502 rfl rfl
    have zv1506 : (1 : Int32).toInt = 1 := rfl
    refine At.enter rfl ?_
    refine r_istore ([(6, .int v1503), (5, .int 0), (4, .int 0), (3, .int v1496), (0, .ref 223), (1, .int a1), (2, .int a2)]) rfl ?_
    refine r_iconst 0 rfl ?_
    refine r_istore ([(7, .int 0), (6, .int v1503), (5, .int 0), (4, .int 0), (3, .int v1496), (0, .ref 223), (1, .int a1), (2, .int a2)]) rfl ?_
    refine Ar.fall 43 rfl ?_
    have z_1840 : (0 : Int32).toInt = 0 := rfl
    have z_1841 : (0 : Int32).toInt = 0 := rfl
    have z_1842 : (0 : Int32).toInt = 0 := rfl
    refine w_loopI (fun n_ l_ g_ => ∃ x1820 : Int32, ∃ x1821 : Int32, ∃ x1822 : Int32, ∃ x1823 : Int32, n_ = 11 - x1823.toInt ∧ HI g_ ∧ Fr F_X2_costBeside_223 A_X2_costBeside_223 g0 g_ ∧ en_get 0 l_ = some (.ref 223) ∧ en_get 1 l_ = some (.int a1) ∧ en_get 2 l_ = some (.int a2) ∧ en_get 3 l_ = some (.int v1496) ∧ en_get 4 l_ = some (.int x1820) ∧ en_get 5 l_ = some (.int x1821) ∧ en_get 6 l_ = some (.int x1822) ∧ en_get 7 l_ = some (.int x1823) ∧ (0 ≤ x1820.toInt ∧ x1820.toInt ≤ 1) ∧ (0 ≤ x1823.toInt ∧ x1823.toInt ≤ 11)) ?_ (11 - 0) ⟨0, 0, v1503, 0, by first | rfl | omega, hI1501, hF1505, rfl, rfl, rfl, rfl, rfl, rfl, rfl, rfl, by decide, by decide⟩
    rintro n1828 l1827 g1824 ⟨x1820, x1821, x1822, x1823, hm1843, hI1825, hF1826, e1830, e1831, e1832, e1833, e1834, e1835, e1836, e1837, r1838, r1839⟩ ih1829
    refine At.enter rfl ?_
    refine r_iload e1837 ?_
    refine r_iload_n e1833 ?_
    have bv1845 := q_bnd x1823
    have bv1846 := q_bnd v1496
    refine r_ics 49 rfl (fun c1844 => ?_) (fun c1844 => ?_)
    · have c1844_ : x1823.toInt ≥ v1496.toInt := en_i_ge_t c1844
      refine At.enter rfl ?_
      refine r_iload e1834 ?_
      refine r_ifs 114 rfl (fun c1847 => ?_) (fun c1847 => ?_)
      · have c1847_ : x1820.toInt = 0 := en_k_eq_t c1847
        refine At.enter rfl ?_
        refine r_iconst (-1) rfl ?_
        refine Ar.fall 120 rfl ?_
        refine At.enter rfl ?_
        refine r_ireti ?_
        exact ⟨_, rfl, hI1825, hF1826, _, rfl, trivial⟩
      · have c1847_ : x1820.toInt ≠ 0 := en_k_eq_f c1847
        refine At.enter rfl ?_
        refine r_iload e1835 ?_
        refine r_goto ?_
        refine At.enter rfl ?_
        refine r_ireti ?_
        exact ⟨_, rfl, hI1825, hF1826, _, rfl, trivial⟩
    · have c1844_ : x1823.toInt < v1496.toInt := en_i_ge_f c1844
      refine At.enter rfl ?_
      refine r_aload_n e1830 ?_
      refine q_getR (Sh.ref hI1825.1 kx_223 rfl) ?_
      refine r_iload e1836 ?_
      refine q_inlV 58 rfl [.ref 1, .int x1822] [] (Nat.le_of_ble_eq_true rfl) rfl ?_
      refine Ev.mk rfl rfl ⟨Nat.le_of_ble_eq_true rfl, Or.inr (q_rc hI1825.1 kx_1 rfl)⟩ ?_
      show At _ none _ _ (0, [(0, .ref 1), (1, .int x1822)], [], (_, _)) _
      refine At.enter rfl ?_
      refine r_iload_n rfl ?_
      refine r_ifs 4 rfl (fun c1848 => ?_) (fun c1848 => ?_)
      · have c1848_ : x1822.toInt < 0 := en_k_lt_t c1848
        refine At.enter rfl ?_
        refine r_iconst 0 rfl ?_
        refine Ar.fall 17 rfl ?_
        refine At.enter rfl ?_
        refine q_iretz (by decide) ?_
        refine At.enter rfl ?_
        refine r_ift (by decide) ?_
        refine At.enter rfl ?_
        refine r_iload e1834 ?_
        refine r_ifs 114 rfl (fun c1849 => ?_) (fun c1849 => ?_)
        · have c1849_ : x1820.toInt = 0 := en_k_eq_t c1849
          refine At.enter rfl ?_
          refine r_iconst (-1) rfl ?_
          refine Ar.fall 120 rfl ?_
          refine At.enter rfl ?_
          refine r_ireti ?_
          exact ⟨_, rfl, hI1825, hF1826, _, rfl, trivial⟩
        · have c1849_ : x1820.toInt ≠ 0 := en_k_eq_f c1849
          refine At.enter rfl ?_
          refine r_iload e1835 ?_
          refine r_goto ?_
          refine At.enter rfl ?_
          refine r_ireti ?_
          exact ⟨_, rfl, hI1825, hF1826, _, rfl, trivial⟩
      · have c1848_ : x1822.toInt ≥ 0 := en_k_lt_f c1848
        refine At.enter rfl ?_
        refine r_iload_n rfl ?_
        refine r_aload_n rfl ?_
        obtain ⟨v1850, hv1850⟩ : ∃ v, gI g0 1 0 = v := ⟨_, rfl⟩
        have rv1850 := RgF.at hI0.2.1 (p := 1) (b := 0) rfl
        rw [hv1850] at rv1850
        dsimp only at rv1850
        refine q_getI (Sh.int hI1825.1 kx_1 rfl) v1850 ((hF1826.1 1 0 (by decide)).trans hv1850) ?_
        have bv1852 := q_bnd x1822
        have bv1853 := q_bnd v1850
        refine r_ics 12 rfl (fun c1851 => ?_) (fun c1851 => ?_)
        · have c1851_ : x1822.toInt ≥ v1850.toInt := en_i_ge_t c1851
          refine At.enter rfl ?_
          refine r_iconst 0 rfl ?_
          refine Ar.fall 17 rfl ?_
          refine At.enter rfl ?_
          refine q_iretz (by decide) ?_
          refine At.enter rfl ?_
          refine r_ift (by decide) ?_
          refine At.enter rfl ?_
          refine r_iload e1834 ?_
          refine r_ifs 114 rfl (fun c1854 => ?_) (fun c1854 => ?_)
          · have c1854_ : x1820.toInt = 0 := en_k_eq_t c1854
            refine At.enter rfl ?_
            refine r_iconst (-1) rfl ?_
            refine Ar.fall 120 rfl ?_
            refine At.enter rfl ?_
            refine r_ireti ?_
            exact ⟨_, rfl, hI1825, hF1826, _, rfl, trivial⟩
          · have c1854_ : x1820.toInt ≠ 0 := en_k_eq_f c1854
            refine At.enter rfl ?_
            refine r_iload e1835 ?_
            refine r_goto ?_
            refine At.enter rfl ?_
            refine r_ireti ?_
            exact ⟨_, rfl, hI1825, hF1826, _, rfl, trivial⟩
        · have c1851_ : x1822.toInt < v1850.toInt := en_i_ge_f c1851
          refine At.enter rfl ?_
          refine r_iconst 1 rfl ?_
          refine r_goto ?_
          refine At.enter rfl ?_
          refine q_iretz (by decide) ?_
          refine At.enter rfl ?_
          refine r_iff 61 rfl (by decide) ?_
          refine At.enter rfl ?_
          refine r_iload e1836 ?_
          refine r_iload_n e1832 ?_
          refine r_ics 67 rfl (fun c1855 => ?_) (fun c1855 => ?_)
          · have c1855_ : x1822.toInt ≠ a2.toInt := en_i_ne_t c1855
            refine At.enter rfl ?_
            refine r_iload e1835 ?_
            refine r_aload_n e1830 ?_
            refine r_iload_n e1831 ?_
            refine r_iload e1836 ?_
            refine r_aload_n e1830 ?_
            refine q_getR (Sh.ref hI1825.1 kx_223 rfl) ?_
            refine r_iload e1836 ?_
            obtain ⟨v1856, hv1856⟩ : ∃ v, eA g0 224 x1822.toInt = v := ⟨_, rfl⟩
            refine q_iald (Sh.arr hI1825.1 ka_224) x1822.toInt rfl (by omega) v1856 ((eA_c (hF1826.2.1 224 (by decide))).trans hv1856) ?_
            refine r_callV 89 rfl [.ref 223, .int a1, .int x1822, .int v1856] [.int x1821] (Nat.le_of_ble_eq_true rfl) rfl (T_X2_gets_223 _ hI1825 a1 x1822 v1856) ?_
            rintro _ _ ⟨g1857, rfl, hI1858, hF1859, v1860, rfl, hr1861⟩
            refine At.sti ?_
            have hF1862 := Fr.tr hF1826 hF1859 rfl rfl
            refine At.enter rfl ?_
            refine q_iaddO (fun v1863 _ => ?_)
            refine r_istore _ rfl ?_
            refine Ar.fall 92 rfl ?_
            refine At.enter rfl ?_
            refine r_aload_n (w_p1 (by decide) (Or.inr rfl) e1830) ?_
            refine q_getR (Sh.ref hI1858.1 kx_223 rfl) ?_
            refine r_iload (w_p1 (by decide) (Or.inr rfl) e1836) ?_
            refine r_callV 101 rfl [.ref 1, .int x1822] [] (Nat.le_of_ble_eq_true rfl) rfl (T_X0_next_1 _ hI1858 x1822) ?_
            rintro _ _ ⟨g1864, rfl, hI1865, hF1866, v1867, rfl, hr1868⟩
            refine At.sti ?_
            have hF1869 := Fr.tr hF1862 hF1866 rfl rfl
            refine At.enter rfl ?_
            refine r_istore _ rfl ?_
            refine q_iinc (w_p1 (by decide) (Or.inr rfl) (w_p1 (by decide) (Or.inr rfl) e1837)) (x1823.toInt + 1) rfl (by omega) (fun v1870 hv1870 => ?_)
            refine r_goto ?_
            have bv1871 := q_bnd v1863
            have bv1872 := q_bnd v1867
            exact ih1829 (11 - v1870.toInt) _ _ ⟨x1820, v1863, v1867, v1870, by first | rfl | omega, hI1865, hF1869, (w_p1 (by decide) (Or.inr rfl) (w_p1 (by decide) (Or.inr rfl) (w_p1 (by decide) (Or.inr rfl) e1830))), (w_p1 (by decide) (Or.inr rfl) (w_p1 (by decide) (Or.inr rfl) (w_p1 (by decide) (Or.inr rfl) e1831))), (w_p1 (by decide) (Or.inr rfl) (w_p1 (by decide) (Or.inr rfl) (w_p1 (by decide) (Or.inr rfl) e1832))), (w_p1 (by decide) (Or.inr rfl) (w_p1 (by decide) (Or.inr rfl) (w_p1 (by decide) (Or.inr rfl) e1833))), (w_p1 (by decide) (Or.inr rfl) (w_p1 (by decide) (Or.inr rfl) (w_p1 (by decide) (Or.inr rfl) e1834))), (w_p1 (by decide) (Or.inr rfl) (w_p1 (by decide) (Or.inr rfl) (w_e1 _ _ _))), (w_p1 (by decide) (Or.inr rfl) (w_e1 _ _ _)), (w_e1 _ _ _), by omega, by omega⟩ ⟨by omega, by omega⟩
          · have c1855_ : x1822.toInt = a2.toInt := en_i_ne_f c1855
            refine At.enter rfl ?_
            refine r_iconst 1 rfl ?_
            refine r_istore _ rfl ?_
            refine r_goto ?_
            refine At.enter rfl ?_
            refine r_aload_n (w_p1 (by decide) (Or.inr rfl) e1830) ?_
            refine q_getR (Sh.ref hI1825.1 kx_223 rfl) ?_
            refine r_iload (w_p1 (by decide) (Or.inr rfl) e1836) ?_
            refine r_callV 101 rfl [.ref 1, .int x1822] [] (Nat.le_of_ble_eq_true rfl) rfl (T_X0_next_1 _ hI1825 x1822) ?_
            rintro _ _ ⟨g1873, rfl, hI1874, hF1875, v1876, rfl, hr1877⟩
            refine At.sti ?_
            have hF1878 := Fr.tr hF1826 hF1875 rfl rfl
            refine At.enter rfl ?_
            refine r_istore _ rfl ?_
            refine q_iinc (w_p1 (by decide) (Or.inr rfl) (w_p1 (by decide) (Or.inr rfl) e1837)) (x1823.toInt + 1) rfl (by omega) (fun v1879 hv1879 => ?_)
            refine r_goto ?_
            have bv1880 := q_bnd x1821
            have bv1881 := q_bnd v1876
            exact ih1829 (11 - v1879.toInt) _ _ ⟨1, x1821, v1876, v1879, by first | rfl | omega, hI1874, hF1878, (w_p1 (by decide) (Or.inr rfl) (w_p1 (by decide) (Or.inr rfl) (w_p1 (by decide) (Or.inr rfl) e1830))), (w_p1 (by decide) (Or.inr rfl) (w_p1 (by decide) (Or.inr rfl) (w_p1 (by decide) (Or.inr rfl) e1831))), (w_p1 (by decide) (Or.inr rfl) (w_p1 (by decide) (Or.inr rfl) (w_p1 (by decide) (Or.inr rfl) e1832))), (w_p1 (by decide) (Or.inr rfl) (w_p1 (by decide) (Or.inr rfl) (w_p1 (by decide) (Or.inr rfl) e1833))), (w_p1 (by decide) (Or.inr rfl) (w_p1 (by decide) (Or.inr rfl) (w_e1 _ _ _))), (w_p1 (by decide) (Or.inr rfl) (w_p1 (by decide) (Or.inr rfl) (w_p1 (by decide) (Or.inr rfl) e1835))), (w_p1 (by decide) (Or.inr rfl) (w_e1 _ _ _)), (w_e1 _ _ _), by decide, by omega⟩ ⟨by omega, by omega⟩
  · have c1499_ : a2.toInt = (-1) := en_i_ne_f c1499
    refine At.enter rfl ?_
    refine r_iload_n rfl ?_
    refine r_iconst (-1) rfl ?_
    refine r_ics 19 rfl (fun c1882 => ?_) (fun c1882 => ?_)
    · have c1882_ : v1496.toInt = (-1) := en_i_eq_t c1882
      refine At.enter rfl ?_
      refine r_iconst 0 rfl ?_
      refine Ar.fall 24 rfl ?_
      refine At.enter rfl ?_
      refine r_istore ([(4, .int 0), (3, .int v1496), (0, .ref 223), (1, .int a1), (2, .int a2)]) rfl ?_
      refine r_iconst 0 rfl ?_
      refine r_istore ([(5, .int 0), (4, .int 0), (3, .int v1496), (0, .ref 223), (1, .int a1), (2, .int a2)]) rfl ?_
      refine r_aload_n rfl ?_
      refine q_getR (Sh.ref hI1494.1 kx_223 rfl) ?_
      refine r_iload_n rfl ?_
      refine r_iconst 1 rfl ?_
      refine r_callV 38 rfl [.ref 1, .int a1, .int 1] [] (Nat.le_of_ble_eq_true rfl) rfl (T_X0_about_1 _ hI1494 a1 1) ?_
      rintro _ _ ⟨g1883, rfl, hI1884, hF1885, v1886, rfl, hr1887⟩
      refine At.sti ?_
      have hF1888 := Fr.tr hF1498 hF1885 rfl rfl
      have zv1889 : (1 : Int32).toInt = 1 := rfl
      refine At.enter rfl ?_
      refine r_istore ([(6, .int v1886), (5, .int 0), (4, .int 0), (3, .int v1496), (0, .ref 223), (1, .int a1), (2, .int a2)]) rfl ?_
      refine r_iconst 0 rfl ?_
      refine r_istore ([(7, .int 0), (6, .int v1886), (5, .int 0), (4, .int 0), (3, .int v1496), (0, .ref 223), (1, .int a1), (2, .int a2)]) rfl ?_
      refine Ar.fall 43 rfl ?_
      have z_1920 : (0 : Int32).toInt = 0 := rfl
      have z_1921 : (0 : Int32).toInt = 0 := rfl
      have z_1922 : (0 : Int32).toInt = 0 := rfl
      refine w_loopI (fun n_ l_ g_ => ∃ x1899 : Int32, ∃ x1900 : Int32, ∃ x1901 : Int32, ∃ x1902 : Int32, n_ = 0 ∧ HI g_ ∧ Fr F_X2_costBeside_223 A_X2_costBeside_223 g0 g_ ∧ en_get 0 l_ = some (.ref 223) ∧ en_get 1 l_ = some (.int a1) ∧ en_get 2 l_ = some (.int a2) ∧ en_get 3 l_ = some (.int v1496) ∧ en_get 4 l_ = some (.int x1899) ∧ en_get 5 l_ = some (.int x1900) ∧ en_get 6 l_ = some (.int x1901) ∧ en_get 7 l_ = some (.int x1902) ∧ (0 ≤ x1899.toInt ∧ x1899.toInt ≤ 0) ∧ (0 ≤ x1900.toInt ∧ x1900.toInt ≤ 0) ∧ (0 ≤ x1902.toInt ∧ x1902.toInt ≤ 0)) ?_ (0) ⟨0, 0, v1886, 0, by first | rfl | omega, hI1884, hF1888, rfl, rfl, rfl, rfl, rfl, rfl, rfl, rfl, by decide, by decide, by decide⟩
      rintro n1907 l1906 g1903 ⟨x1899, x1900, x1901, x1902, hm1923, hI1904, hF1905, e1909, e1910, e1911, e1912, e1913, e1914, e1915, e1916, r1917, r1918, r1919⟩ ih1908
      refine At.enter rfl ?_
      refine r_iload e1916 ?_
      refine r_iload_n e1912 ?_
      have bv1925 := q_bnd x1902
      have bv1926 := q_bnd v1496
      refine r_ics 49 rfl (fun c1924 => ?_) (fun c1924 => ?_)
      · have c1924_ : x1902.toInt ≥ v1496.toInt := en_i_ge_t c1924
        refine At.enter rfl ?_
        refine r_iload e1913 ?_
        refine r_ifs 114 rfl (fun c1927 => ?_) (fun c1927 => ?_)
        · have c1927_ : x1899.toInt = 0 := en_k_eq_t c1927
          refine At.enter rfl ?_
          refine r_iconst (-1) rfl ?_
          refine Ar.fall 120 rfl ?_
          refine At.enter rfl ?_
          refine r_ireti ?_
          exact ⟨_, rfl, hI1904, hF1905, _, rfl, trivial⟩
        · have c1927_ : x1899.toInt ≠ 0 := en_k_eq_f c1927
          exfalso; omega
      · have c1924_ : x1902.toInt < v1496.toInt := en_i_ge_f c1924
        exfalso; omega
    · have c1882_ : v1496.toInt ≠ (-1) := en_i_eq_f c1882
      refine At.enter rfl ?_
      refine r_iconst 1 rfl ?_
      refine r_goto ?_
      refine At.enter rfl ?_
      refine r_istore ([(4, .int 1), (3, .int v1496), (0, .ref 223), (1, .int a1), (2, .int a2)]) rfl ?_
      refine r_iconst 0 rfl ?_
      refine r_istore ([(5, .int 0), (4, .int 1), (3, .int v1496), (0, .ref 223), (1, .int a1), (2, .int a2)]) rfl ?_
      refine r_aload_n rfl ?_
      refine q_getR (Sh.ref hI1494.1 kx_223 rfl) ?_
      refine r_iload_n rfl ?_
      refine r_iconst 1 rfl ?_
      refine r_callV 38 rfl [.ref 1, .int a1, .int 1] [] (Nat.le_of_ble_eq_true rfl) rfl (T_X0_about_1 _ hI1494 a1 1) ?_
      rintro _ _ ⟨g1928, rfl, hI1929, hF1930, v1931, rfl, hr1932⟩
      refine At.sti ?_
      have hF1933 := Fr.tr hF1498 hF1930 rfl rfl
      have zv1934 : (1 : Int32).toInt = 1 := rfl
      refine At.enter rfl ?_
      refine r_istore ([(6, .int v1931), (5, .int 0), (4, .int 1), (3, .int v1496), (0, .ref 223), (1, .int a1), (2, .int a2)]) rfl ?_
      refine r_iconst 0 rfl ?_
      refine r_istore ([(7, .int 0), (6, .int v1931), (5, .int 0), (4, .int 1), (3, .int v1496), (0, .ref 223), (1, .int a1), (2, .int a2)]) rfl ?_
      refine Ar.fall 43 rfl ?_
      have z_2212 : (1 : Int32).toInt = 1 := rfl
      have z_2213 : (0 : Int32).toInt = 0 := rfl
      have z_2214 : (0 : Int32).toInt = 0 := rfl
      refine w_loopI (fun n_ l_ g_ => ∃ x2192 : Int32, ∃ x2193 : Int32, ∃ x2194 : Int32, ∃ x2195 : Int32, n_ = 11 - x2195.toInt ∧ HI g_ ∧ Fr F_X2_costBeside_223 A_X2_costBeside_223 g0 g_ ∧ en_get 0 l_ = some (.ref 223) ∧ en_get 1 l_ = some (.int a1) ∧ en_get 2 l_ = some (.int a2) ∧ en_get 3 l_ = some (.int v1496) ∧ en_get 4 l_ = some (.int x2192) ∧ en_get 5 l_ = some (.int x2193) ∧ en_get 6 l_ = some (.int x2194) ∧ en_get 7 l_ = some (.int x2195) ∧ (1 ≤ x2192.toInt ∧ x2192.toInt ≤ 1) ∧ (0 ≤ x2195.toInt ∧ x2195.toInt ≤ 11)) ?_ (11 - 0) ⟨1, 0, v1931, 0, by first | rfl | omega, hI1929, hF1933, rfl, rfl, rfl, rfl, rfl, rfl, rfl, rfl, by decide, by decide⟩
      rintro n2200 l2199 g2196 ⟨x2192, x2193, x2194, x2195, hm2215, hI2197, hF2198, e2202, e2203, e2204, e2205, e2206, e2207, e2208, e2209, r2210, r2211⟩ ih2201
      refine At.enter rfl ?_
      refine r_iload e2209 ?_
      refine r_iload_n e2205 ?_
      have bv2217 := q_bnd x2195
      have bv2218 := q_bnd v1496
      refine r_ics 49 rfl (fun c2216 => ?_) (fun c2216 => ?_)
      · have c2216_ : x2195.toInt ≥ v1496.toInt := en_i_ge_t c2216
        refine At.enter rfl ?_
        refine r_iload e2206 ?_
        refine r_ifs 114 rfl (fun c2219 => ?_) (fun c2219 => ?_)
        · have c2219_ : x2192.toInt = 0 := en_k_eq_t c2219
          exfalso; omega
        · have c2219_ : x2192.toInt ≠ 0 := en_k_eq_f c2219
          refine At.enter rfl ?_
          refine r_iload e2207 ?_
          refine r_goto ?_
          refine At.enter rfl ?_
          refine r_ireti ?_
          exact ⟨_, rfl, hI2197, hF2198, _, rfl, trivial⟩
      · have c2216_ : x2195.toInt < v1496.toInt := en_i_ge_f c2216
        refine At.enter rfl ?_
        refine r_aload_n e2202 ?_
        refine q_getR (Sh.ref hI2197.1 kx_223 rfl) ?_
        refine r_iload e2208 ?_
        refine q_inlV 58 rfl [.ref 1, .int x2194] [] (Nat.le_of_ble_eq_true rfl) rfl ?_
        refine Ev.mk rfl rfl ⟨Nat.le_of_ble_eq_true rfl, Or.inr (q_rc hI2197.1 kx_1 rfl)⟩ ?_
        show At _ none _ _ (0, [(0, .ref 1), (1, .int x2194)], [], (_, _)) _
        refine At.enter rfl ?_
        refine r_iload_n rfl ?_
        refine r_ifs 4 rfl (fun c2220 => ?_) (fun c2220 => ?_)
        · have c2220_ : x2194.toInt < 0 := en_k_lt_t c2220
          refine At.enter rfl ?_
          refine r_iconst 0 rfl ?_
          refine Ar.fall 17 rfl ?_
          refine At.enter rfl ?_
          refine q_iretz (by decide) ?_
          refine At.enter rfl ?_
          refine r_ift (by decide) ?_
          refine At.enter rfl ?_
          refine r_iload e2206 ?_
          refine r_ifs 114 rfl (fun c2221 => ?_) (fun c2221 => ?_)
          · have c2221_ : x2192.toInt = 0 := en_k_eq_t c2221
            exfalso; omega
          · have c2221_ : x2192.toInt ≠ 0 := en_k_eq_f c2221
            refine At.enter rfl ?_
            refine r_iload e2207 ?_
            refine r_goto ?_
            refine At.enter rfl ?_
            refine r_ireti ?_
            exact ⟨_, rfl, hI2197, hF2198, _, rfl, trivial⟩
        · have c2220_ : x2194.toInt ≥ 0 := en_k_lt_f c2220
          refine At.enter rfl ?_
          refine r_iload_n rfl ?_
          refine r_aload_n rfl ?_
          obtain ⟨v2222, hv2222⟩ : ∃ v, gI g0 1 0 = v := ⟨_, rfl⟩
          have rv2222 := RgF.at hI0.2.1 (p := 1) (b := 0) rfl
          rw [hv2222] at rv2222
          dsimp only at rv2222
          refine q_getI (Sh.int hI2197.1 kx_1 rfl) v2222 ((hF2198.1 1 0 (by decide)).trans hv2222) ?_
          have bv2224 := q_bnd x2194
          have bv2225 := q_bnd v2222
          refine r_ics 12 rfl (fun c2223 => ?_) (fun c2223 => ?_)
          · have c2223_ : x2194.toInt ≥ v2222.toInt := en_i_ge_t c2223
            refine At.enter rfl ?_
            refine r_iconst 0 rfl ?_
            refine Ar.fall 17 rfl ?_
            refine At.enter rfl ?_
            refine q_iretz (by decide) ?_
            refine At.enter rfl ?_
            refine r_ift (by decide) ?_
            refine At.enter rfl ?_
            refine r_iload e2206 ?_
            refine r_ifs 114 rfl (fun c2226 => ?_) (fun c2226 => ?_)
            · have c2226_ : x2192.toInt = 0 := en_k_eq_t c2226
              exfalso; omega
            · have c2226_ : x2192.toInt ≠ 0 := en_k_eq_f c2226
              refine At.enter rfl ?_
              refine r_iload e2207 ?_
              refine r_goto ?_
              refine At.enter rfl ?_
              refine r_ireti ?_
              exact ⟨_, rfl, hI2197, hF2198, _, rfl, trivial⟩
          · have c2223_ : x2194.toInt < v2222.toInt := en_i_ge_f c2223
            refine At.enter rfl ?_
            refine r_iconst 1 rfl ?_
            refine r_goto ?_
            refine At.enter rfl ?_
            refine q_iretz (by decide) ?_
            refine At.enter rfl ?_
            refine r_iff 61 rfl (by decide) ?_
            refine At.enter rfl ?_
            refine r_iload e2208 ?_
            refine r_iload_n e2204 ?_
            refine r_ics 67 rfl (fun c2227 => ?_) (fun c2227 => ?_)
            · have c2227_ : x2194.toInt ≠ a2.toInt := en_i_ne_t c2227
              refine At.enter rfl ?_
              refine r_iload e2207 ?_
              refine r_aload_n e2202 ?_
              refine r_iload_n e2203 ?_
              refine r_iload e2208 ?_
              refine r_aload_n e2202 ?_
              refine q_getR (Sh.ref hI2197.1 kx_223 rfl) ?_
              refine r_iload e2208 ?_
              obtain ⟨v2228, hv2228⟩ : ∃ v, eA g0 224 x2194.toInt = v := ⟨_, rfl⟩
              refine q_iald (Sh.arr hI2197.1 ka_224) x2194.toInt rfl (by omega) v2228 ((eA_c (hF2198.2.1 224 (by decide))).trans hv2228) ?_
              refine r_callV 89 rfl [.ref 223, .int a1, .int x2194, .int v2228] [.int x2193] (Nat.le_of_ble_eq_true rfl) rfl (T_X2_gets_223 _ hI2197 a1 x2194 v2228) ?_
              rintro _ _ ⟨g2229, rfl, hI2230, hF2231, v2232, rfl, hr2233⟩
              refine At.sti ?_
              have hF2234 := Fr.tr hF2198 hF2231 rfl rfl
              refine At.enter rfl ?_
              refine q_iaddO (fun v2235 _ => ?_)
              refine r_istore _ rfl ?_
              refine Ar.fall 92 rfl ?_
              refine At.enter rfl ?_
              refine r_aload_n (w_p1 (by decide) (Or.inr rfl) e2202) ?_
              refine q_getR (Sh.ref hI2230.1 kx_223 rfl) ?_
              refine r_iload (w_p1 (by decide) (Or.inr rfl) e2208) ?_
              refine r_callV 101 rfl [.ref 1, .int x2194] [] (Nat.le_of_ble_eq_true rfl) rfl (T_X0_next_1 _ hI2230 x2194) ?_
              rintro _ _ ⟨g2236, rfl, hI2237, hF2238, v2239, rfl, hr2240⟩
              refine At.sti ?_
              have hF2241 := Fr.tr hF2234 hF2238 rfl rfl
              refine At.enter rfl ?_
              refine r_istore _ rfl ?_
              refine q_iinc (w_p1 (by decide) (Or.inr rfl) (w_p1 (by decide) (Or.inr rfl) e2209)) (x2195.toInt + 1) rfl (by omega) (fun v2242 hv2242 => ?_)
              refine r_goto ?_
              have bv2243 := q_bnd v2235
              have bv2244 := q_bnd v2239
              exact ih2201 (11 - v2242.toInt) _ _ ⟨x2192, v2235, v2239, v2242, by first | rfl | omega, hI2237, hF2241, (w_p1 (by decide) (Or.inr rfl) (w_p1 (by decide) (Or.inr rfl) (w_p1 (by decide) (Or.inr rfl) e2202))), (w_p1 (by decide) (Or.inr rfl) (w_p1 (by decide) (Or.inr rfl) (w_p1 (by decide) (Or.inr rfl) e2203))), (w_p1 (by decide) (Or.inr rfl) (w_p1 (by decide) (Or.inr rfl) (w_p1 (by decide) (Or.inr rfl) e2204))), (w_p1 (by decide) (Or.inr rfl) (w_p1 (by decide) (Or.inr rfl) (w_p1 (by decide) (Or.inr rfl) e2205))), (w_p1 (by decide) (Or.inr rfl) (w_p1 (by decide) (Or.inr rfl) (w_p1 (by decide) (Or.inr rfl) e2206))), (w_p1 (by decide) (Or.inr rfl) (w_p1 (by decide) (Or.inr rfl) (w_e1 _ _ _))), (w_p1 (by decide) (Or.inr rfl) (w_e1 _ _ _)), (w_e1 _ _ _), by omega, by omega⟩ ⟨by omega, by omega⟩
            · have c2227_ : x2194.toInt = a2.toInt := en_i_ne_f c2227
              exfalso; omega

def F_X2_incomeBy_223 : List (Nat × Nat) := [(185, 3)]
def A_X2_incomeBy_223 : List Nat := [226]
set_option maxRecDepth 100000 in
set_option maxHeartbeats 4000000 in
theorem T_X2_incomeBy_223 (d : Nat) {N : Nat} {g0 : List en_E} (hI0 : HI g0) (a1 : Int32) (a2 : Int32) : Ev (d + 5) 47 [.ref 223, .int a1, .int a2] (g0, N) (fun w h' => ∃ g', h' = (g', N) ∧ HI g' ∧ Fr F_X2_incomeBy_223 A_X2_incomeBy_223 g0 g' ∧ ∃ r : Int32, w = some (.int r) ∧ True) := by
  have hF0 : Fr F_X2_incomeBy_223 A_X2_incomeBy_223 g0 g0 := Fr.rf
  refine Ev.mk rfl rfl ⟨Nat.le_of_ble_eq_true rfl, Or.inr (q_rc hI0.1 kx_223 rfl)⟩ ?_
  show At _ none _ _ (0, [(0, .ref 223), (1, .int a1), (2, .int a2)], [], (_, _)) _
  refine At.enter rfl ?_
  refine r_iconst 0 rfl ?_
  refine r_istore_n ([(3, .int 0), (0, .ref 223), (1, .int a1), (2, .int a2)]) rfl ?_
  refine r_iconst 0 rfl ?_
  refine r_istore ([(4, .int 0), (3, .int 0), (0, .ref 223), (1, .int a1), (2, .int a2)]) rfl ?_
  refine Ar.fall 5 rfl ?_
  have z_736 : (0 : Int32).toInt = 0 := rfl
  have z_737 : (0 : Int32).toInt = 0 := rfl
  refine w_loopI (fun n_ l_ g_ => ∃ x722 : Int32, ∃ x723 : Int32, n_ = 8 - x723.toInt ∧ HI g_ ∧ Fr F_X2_incomeBy_223 A_X2_incomeBy_223 g0 g_ ∧ en_get 0 l_ = some (.ref 223) ∧ en_get 1 l_ = some (.int a1) ∧ en_get 2 l_ = some (.int a2) ∧ en_get 3 l_ = some (.int x722) ∧ en_get 4 l_ = some (.int x723) ∧ (0 ≤ x723.toInt ∧ x723.toInt ≤ 8)) ?_ (8 - 0) ⟨0, 0, by first | rfl | omega, hI0, hF0, rfl, rfl, rfl, rfl, rfl, by decide⟩
  rintro n728 l727 g724 ⟨x722, x723, hm738, hI725, hF726, e730, e731, e732, e733, e734, r735⟩ ih729
  refine At.enter rfl ?_
  refine r_iload e734 ?_
  refine r_aload_n e730 ?_
  refine q_getR (Sh.ref hI725.1 kx_223 rfl) ?_
  obtain ⟨v739, hv739⟩ : ∃ v, gI g0 1 4 = v := ⟨_, rfl⟩
  have rv739 := RgF.at hI0.2.1 (p := 1) (b := 4) rfl
  rw [hv739] at rv739
  dsimp only at rv739
  refine q_getI (Sh.int hI725.1 kx_1 rfl) v739 ((hF726.1 1 4 (by decide)).trans hv739) ?_
  have bv741 := q_bnd x723
  have bv742 := q_bnd v739
  refine r_ics 17 rfl (fun c740 => ?_) (fun c740 => ?_)
  · have c740_ : x723.toInt ≥ v739.toInt := en_i_ge_t c740
    refine At.enter rfl ?_
    refine r_iload_n e733 ?_
    refine r_ireti ?_
    exact ⟨_, rfl, hI725, hF726, _, rfl, trivial⟩
  · have c740_ : x723.toInt < v739.toInt := en_i_ge_f c740
    refine At.enter rfl ?_
    refine r_aload_n e730 ?_
    refine q_getR (Sh.ref hI725.1 kx_223 rfl) ?_
    refine r_iload e734 ?_
    obtain ⟨v743, hv743⟩ : ∃ v, eA g0 225 x723.toInt = v := ⟨_, rfl⟩
    refine q_iald (Sh.arr hI725.1 ka_225) x723.toInt rfl (by omega) v743 ((eA_c (hF726.2.1 225 (by decide))).trans hv743) ?_
    refine r_iconst (-1) rfl ?_
    refine r_ics 28 rfl (fun c744 => ?_) (fun c744 => ?_)
    · have c744_ : v743.toInt = (-1) := en_i_eq_t c744
      refine At.enter rfl ?_
      refine q_iinc e734 (x723.toInt + 1) rfl (by omega) (fun v745 hv745 => ?_)
      refine r_goto ?_
      have bv746 := q_bnd x722
      exact ih729 (8 - v745.toInt) _ _ ⟨x722, v745, by first | rfl | omega, hI725, hF726, (w_p1 (by decide) (Or.inr rfl) e730), (w_p1 (by decide) (Or.inr rfl) e731), (w_p1 (by decide) (Or.inr rfl) e732), (w_p1 (by decide) (Or.inr rfl) e733), (w_e1 _ _ _), by omega⟩ ⟨by omega, by omega⟩
    · have c744_ : v743.toInt ≠ (-1) := en_i_eq_f c744
      refine At.enter rfl ?_
      refine r_aload_n e730 ?_
      refine r_iload e734 ?_
      refine r_iload_n e731 ?_
      refine r_iload_n e732 ?_
      refine r_callV 36 rfl [.ref 223, .int x723, .int a1, .int a2] [] (Nat.le_of_ble_eq_true rfl) rfl (T_X2_gets_223 _ hI725 x723 a1 a2) ?_
      rintro _ _ ⟨g747, rfl, hI748, hF749, v750, rfl, hr751⟩
      refine At.sti ?_
      have hF752 := Fr.tr hF726 hF749 rfl rfl
      refine At.enter rfl ?_
      refine r_istore _ rfl ?_
      refine r_iload (w_e1 _ _ _) ?_
      refine r_aload_n (w_p1 (by decide) (Or.inr rfl) e730) ?_
      refine q_getR (Sh.ref hI748.1 kx_223 rfl) ?_
      refine r_iload (w_p1 (by decide) (Or.inr rfl) e734) ?_
      refine q_iald (Sh.arr hI748.1 ka_225) x723.toInt rfl (by omega) v743 ((eA_c ((hF749.2.1 225 (by decide)).trans (hF726.2.1 225 (by decide)))).trans hv743) ?_
      refine q_iaddO (fun v753 _ => ?_)
      refine r_aload_n (w_p1 (by decide) (Or.inr rfl) e730) ?_
      refine q_getR (Sh.ref hI748.1 kx_223 rfl) ?_
      refine r_iload (w_p1 (by decide) (Or.inr rfl) e734) ?_
      refine r_iconst 5 rfl ?_
      refine r_callV 58 rfl [.ref 1, .int x723, .int 5] [.int v753] (Nat.le_of_ble_eq_true rfl) rfl (T_X0_about_1 _ hI748 x723 5) ?_
      rintro _ _ ⟨g754, rfl, hI755, hF756, v757, rfl, hr758⟩
      refine At.sti ?_
      have hF759 := Fr.tr hF752 hF756 rfl rfl
      have zv760 : (5 : Int32).toInt = 5 := rfl
      refine At.enter rfl ?_
      have bv762 := q_bnd v753
      have bv763 := q_bnd v757
      refine r_ics 61 rfl (fun c761 => ?_) (fun c761 => ?_)
      · have c761_ : v753.toInt > v757.toInt := en_i_gt_t c761
        refine At.enter rfl ?_
        refine q_iinc (w_p1 (by decide) (Or.inr rfl) e734) (x723.toInt + 1) rfl (by omega) (fun v764 hv764 => ?_)
        refine r_goto ?_
        have bv765 := q_bnd x722
        exact ih729 (8 - v764.toInt) _ _ ⟨x722, v764, by first | rfl | omega, hI755, hF759, (w_p1 (by decide) (Or.inr rfl) (w_p1 (by decide) (Or.inr rfl) e730)), (w_p1 (by decide) (Or.inr rfl) (w_p1 (by decide) (Or.inr rfl) e731)), (w_p1 (by decide) (Or.inr rfl) (w_p1 (by decide) (Or.inr rfl) e732)), (w_p1 (by decide) (Or.inr rfl) (w_p1 (by decide) (Or.inr rfl) e733)), (w_e1 _ _ _), by omega⟩ ⟨by omega, by omega⟩
      · have c761_ : v753.toInt ≤ v757.toInt := en_i_gt_f c761
        refine At.enter rfl ?_
        refine r_iload_n (w_p1 (by decide) (Or.inr rfl) e733) ?_
        refine r_iload (w_e1 _ _ _) ?_
        refine q_iaddO (fun v766 _ => ?_)
        refine r_istore_n _ rfl ?_
        refine Ar.fall 66 rfl ?_
        refine At.enter rfl ?_
        refine q_iinc (w_p1 (by decide) (Or.inr rfl) (w_p1 (by decide) (Or.inr rfl) e734)) (x723.toInt + 1) rfl (by omega) (fun v767 hv767 => ?_)
        refine r_goto ?_
        have bv768 := q_bnd v766
        exact ih729 (8 - v767.toInt) _ _ ⟨v766, v767, by first | rfl | omega, hI755, hF759, (w_p1 (by decide) (Or.inr rfl) (w_p1 (by decide) (Or.inr rfl) (w_p1 (by decide) (Or.inr rfl) e730))), (w_p1 (by decide) (Or.inr rfl) (w_p1 (by decide) (Or.inr rfl) (w_p1 (by decide) (Or.inr rfl) e731))), (w_p1 (by decide) (Or.inr rfl) (w_p1 (by decide) (Or.inr rfl) (w_p1 (by decide) (Or.inr rfl) e732))), (w_p1 (by decide) (Or.inr rfl) (w_e1 _ _ _)), (w_e1 _ _ _), by omega⟩ ⟨by omega, by omega⟩

def F_X2_seekAnswer_223 : List (Nat × Nat) := [(185, 3), (223, 7), (223, 8), (223, 9)]
def A_X2_seekAnswer_223 : List Nat := [225, 226]
set_option maxRecDepth 100000 in
set_option maxHeartbeats 4000000 in
theorem T_X2_seekAnswer_223 (d : Nat) {N : Nat} {g0 : List en_E} (hI0 : HI g0) (a1 : Int32) (h_a1 : 0 ≤ a1.toInt ∧ a1.toInt ≤ 11) : Ev (d + 6) 46 [.ref 223, .int a1] (g0, N) (fun w h' => ∃ g', h' = (g', N) ∧ HI g' ∧ Fr F_X2_seekAnswer_223 A_X2_seekAnswer_223 g0 g' ∧ w = none) := by
  have hF0 : Fr F_X2_seekAnswer_223 A_X2_seekAnswer_223 g0 g0 := Fr.rf
  refine Ev.mk rfl rfl ⟨Nat.le_of_ble_eq_true rfl, Or.inr (q_rc hI0.1 kx_223 rfl)⟩ ?_
  show At _ none _ _ (0, [(0, .ref 223), (1, .int a1)], [], (_, _)) _
  refine At.enter rfl ?_
  refine r_iconst 0 rfl ?_
  refine r_istore_n ([(2, .int 0), (0, .ref 223), (1, .int a1)]) rfl ?_
  refine Ar.fall 2 rfl ?_
  have z_7486 : (0 : Int32).toInt = 0 := rfl
  refine w_loopI (fun n_ l_ g_ => ∃ x7475 : Int32, n_ = 8 - x7475.toInt ∧ HI g_ ∧ Fr F_X2_seekAnswer_223 A_X2_seekAnswer_223 g0 g_ ∧ en_get 0 l_ = some (.ref 223) ∧ en_get 1 l_ = some (.int a1) ∧ en_get 2 l_ = some (.int x7475) ∧ (0 ≤ x7475.toInt ∧ x7475.toInt ≤ 8)) ?_ (8 - 0) ⟨0, by first | rfl | omega, hI0, hF0, rfl, rfl, rfl, by decide⟩
  rintro n7480 l7479 g7476 ⟨x7475, hm7487, hI7477, hF7478, e7482, e7483, e7484, r7485⟩ ih7481
  refine At.enter rfl ?_
  refine r_iload_n e7484 ?_
  refine r_aload_n e7482 ?_
  refine q_getR (Sh.ref hI7477.1 kx_223 rfl) ?_
  obtain ⟨v7488, hv7488⟩ : ∃ v, gI g0 1 4 = v := ⟨_, rfl⟩
  have rv7488 := RgF.at hI0.2.1 (p := 1) (b := 4) rfl
  rw [hv7488] at rv7488
  dsimp only at rv7488
  refine q_getI (Sh.int hI7477.1 kx_1 rfl) v7488 ((hF7478.1 1 4 (by decide)).trans hv7488) ?_
  have bv7490 := q_bnd x7475
  have bv7491 := q_bnd v7488
  refine r_ics 13 rfl (fun c7489 => ?_) (fun c7489 => ?_)
  · have c7489_ : x7475.toInt ≥ v7488.toInt := en_i_ge_t c7489
    refine At.enter rfl ?_
    refine r_aload_n e7482 ?_
    refine r_aload_n e7482 ?_
    refine r_iload_n e7483 ?_
    refine r_aload_n e7482 ?_
    refine q_getR (Sh.ref hI7477.1 kx_223 rfl) ?_
    refine r_iload_n e7483 ?_
    obtain ⟨v7492, hv7492⟩ : ∃ v, eA g0 224 a1.toInt = v := ⟨_, rfl⟩
    refine q_iald (Sh.arr hI7477.1 ka_224) a1.toInt rfl (by omega) v7492 ((eA_c (hF7478.2.1 224 (by decide))).trans hv7492) ?_
    refine r_callV 43 rfl [.ref 223, .int a1, .int v7492] [.ref 223] (Nat.le_of_ble_eq_true rfl) rfl (T_X2_incomeBy_223 _ hI7477 a1 v7492) ?_
    rintro _ _ ⟨g7493, rfl, hI7494, hF7495, v7496, rfl, hr7497⟩
    refine At.sti ?_
    have hF7498 := Fr.tr hF7478 hF7495 rfl rfl
    refine At.enter rfl ?_
    refine q_putI (Sh.int hI7494.1 kx_223 rfl) rfl ?_
    have hI7499 := HI.wI0 hI7494 kx_223 rfl (p := 223) (b := 9) (v := v7496) rfl
    have hF7500 := Fr.wI (p := 223) (b := 9) (v := v7496) hF7498 rfl
    refine r_aload_n e7482 ?_
    refine r_iconst 0 rfl ?_
    refine q_putI (Sh.int hI7499.1 kx_223 rfl) rfl ?_
    have hI7501 := HI.wI0 hI7499 kx_223 rfl (p := 223) (b := 7) (v := 0) rfl
    have hF7502 := Fr.wI (p := 223) (b := 7) (v := 0) hF7500 rfl
    refine r_aload_n e7482 ?_
    refine r_iconst (-1) rfl ?_
    refine q_putI (Sh.int hI7501.1 kx_223 rfl) rfl ?_
    have hI7503 := HI.wI0 hI7501 kx_223 rfl (p := 223) (b := 8) (v := (-1)) rfl
    have hF7504 := Fr.wI (p := 223) (b := 8) (v := (-1)) hF7502 rfl
    refine r_iconst 0 rfl ?_
    refine r_istore_n _ rfl ?_
    refine Ar.fall 58 rfl ?_
    have z_7782 : (0 : Int32).toInt = 0 := rfl
    refine w_loopI (fun n_ l_ g_ => ∃ x7771 : Int32, n_ = 100 - x7771.toInt ∧ HI g_ ∧ Fr F_X2_seekAnswer_223 A_X2_seekAnswer_223 g0 g_ ∧ en_get 0 l_ = some (.ref 223) ∧ en_get 1 l_ = some (.int a1) ∧ en_get 2 l_ = some (.int x7771) ∧ (0 ≤ x7771.toInt ∧ x7771.toInt ≤ 100)) ?_ (100 - 0) ⟨0, by first | rfl | omega, hI7503, hF7504, (w_p1 (by decide) (Or.inr rfl) e7482), (w_p1 (by decide) (Or.inr rfl) e7483), (w_e1 _ _ _), by decide⟩
    rintro n7776 l7775 g7772 ⟨x7771, hm7783, hI7773, hF7774, e7778, e7779, e7780, r7781⟩ ih7777
    refine At.enter rfl ?_
    refine r_iload_n e7780 ?_
    refine r_bipush 100 rfl ?_
    refine r_ics 64 rfl (fun c7784 => ?_) (fun c7784 => ?_)
    · have c7784_ : x7771.toInt ≥ 100 := en_i_ge_t c7784
      refine At.enter rfl ?_
      refine r_vret ?_
      exact ⟨_, rfl, hI7773, hF7774, rfl⟩
    · have c7784_ : x7771.toInt < 100 := en_i_ge_f c7784
      refine At.enter rfl ?_
      refine r_aload_n e7778 ?_
      refine r_iload_n e7779 ?_
      refine r_iload_n e7780 ?_
      refine r_callV 70 rfl [.ref 223, .int a1, .int x7771] [] (Nat.le_of_ble_eq_true rfl) rfl (T_X2_incomeBy_223 _ hI7773 a1 x7771) ?_
      rintro _ _ ⟨g7785, rfl, hI7786, hF7787, v7788, rfl, hr7789⟩
      refine At.sti ?_
      have hF7790 := Fr.tr hF7774 hF7787 rfl rfl
      refine At.enter rfl ?_
      refine r_istore_n _ rfl ?_
      refine r_iload_n (w_e1 _ _ _) ?_
      refine r_aload_n (w_p1 (by decide) (Or.inr rfl) e7778) ?_
      obtain ⟨v7791, hv7791⟩ : ∃ v, gI g7772 223 8 = v := ⟨_, rfl⟩
      refine q_getI (Sh.int hI7786.1 kx_223 rfl) v7791 ((hF7787.1 223 8 (by decide)).trans hv7791) ?_
      have bv7793 := q_bnd v7788
      have bv7794 := q_bnd v7791
      refine r_ics 79 rfl (fun c7792 => ?_) (fun c7792 => ?_)
      · have c7792_ : v7788.toInt ≤ v7791.toInt := en_i_le_t c7792
        refine At.enter rfl ?_
        refine q_iinc (w_p1 (by decide) (Or.inr rfl) e7780) (x7771.toInt + 1) rfl (by omega) (fun v7795 hv7795 => ?_)
        refine r_goto ?_
        exact ih7777 (100 - v7795.toInt) _ _ ⟨v7795, by first | rfl | omega, hI7786, hF7790, (w_p1 (by decide) (Or.inr rfl) (w_p1 (by decide) (Or.inr rfl) e7778)), (w_p1 (by decide) (Or.inr rfl) (w_p1 (by decide) (Or.inr rfl) e7779)), (w_e1 _ _ _), by omega⟩ ⟨by omega, by omega⟩
      · have c7792_ : v7788.toInt > v7791.toInt := en_i_le_f c7792
        refine At.enter rfl ?_
        refine r_aload_n (w_p1 (by decide) (Or.inr rfl) e7778) ?_
        refine r_iload_n (w_e1 _ _ _) ?_
        refine q_putI (Sh.int hI7786.1 kx_223 rfl) rfl ?_
        have hI7796 := HI.wI0 hI7786 kx_223 rfl (p := 223) (b := 8) (v := v7788) rfl
        have hF7797 := Fr.wI (p := 223) (b := 8) (v := v7788) hF7790 rfl
        refine r_aload_n (w_p1 (by decide) (Or.inr rfl) e7778) ?_
        refine r_iload_n (w_p1 (by decide) (Or.inr rfl) e7780) ?_
        refine q_putI (Sh.int hI7796.1 kx_223 rfl) rfl ?_
        have hI7798 := HI.wI0 hI7796 kx_223 rfl (p := 223) (b := 7) (v := x7771) rfl
        have hF7799 := Fr.wI (p := 223) (b := 7) (v := x7771) hF7797 rfl
        refine Ar.fall 89 rfl ?_
        refine At.enter rfl ?_
        refine q_iinc (w_p1 (by decide) (Or.inr rfl) e7780) (x7771.toInt + 1) rfl (by omega) (fun v7800 hv7800 => ?_)
        refine r_goto ?_
        exact ih7777 (100 - v7800.toInt) _ _ ⟨v7800, by first | rfl | omega, hI7798, hF7799, (w_p1 (by decide) (Or.inr rfl) (w_p1 (by decide) (Or.inr rfl) e7778)), (w_p1 (by decide) (Or.inr rfl) (w_p1 (by decide) (Or.inr rfl) e7779)), (w_e1 _ _ _), by omega⟩ ⟨by omega, by omega⟩
  · have c7489_ : x7475.toInt < v7488.toInt := en_i_ge_f c7489
    refine At.enter rfl ?_
    refine r_aload_n e7482 ?_
    refine q_getR (Sh.ref hI7477.1 kx_223 rfl) ?_
    refine r_iload_n e7484 ?_
    refine r_aload_n e7482 ?_
    refine r_iload_n e7484 ?_
    refine r_iload_n e7483 ?_
    refine r_callV 24 rfl [.ref 223, .int x7475, .int a1] [.int x7475, .ref 225] (Nat.le_of_ble_eq_true rfl) rfl (T_X2_costBeside_223 _ hI7477 x7475 a1) ?_
    rintro _ _ ⟨g7801, rfl, hI7802, hF7803, v7804, rfl, hr7805⟩
    refine At.sti ?_
    have hF7806 := Fr.tr hF7478 hF7803 rfl rfl
    refine At.enter rfl ?_
    refine q_iast (Sh.arr hI7802.1 ka_225) (x7475.toInt) rfl (by omega) ?_
    have hI7807 := HI.wA0 hI7802 ka_225 (p := 225) rfl rfl (x7475.toInt) (v7804)
    have hF7808 := Fr.wA (p := 225) (j := x7475.toInt) (v := v7804) hF7806 rfl
    refine q_iinc e7484 (x7475.toInt + 1) rfl (by omega) (fun v7809 hv7809 => ?_)
    refine r_goto ?_
    exact ih7481 (8 - v7809.toInt) _ _ ⟨v7809, by first | rfl | omega, hI7807, hF7808, (w_p1 (by decide) (Or.inr rfl) e7482), (w_p1 (by decide) (Or.inr rfl) e7483), (w_e1 _ _ _), by omega⟩ ⟨by omega, by omega⟩

def F_X2_begin_223 : List (Nat × Nat) := [(223, 5), (223, 6)]
def A_X2_begin_223 : List Nat := [224, 226]
set_option maxRecDepth 100000 in
set_option maxHeartbeats 4000000 in
theorem T_X2_begin_223 (d : Nat) {N : Nat} {g0 : List en_E} (hI0 : HI g0) : Ev (d + 3) 45 [.ref 223] (g0, N) (fun w h' => ∃ g', h' = (g', N) ∧ HI g' ∧ Fr F_X2_begin_223 A_X2_begin_223 g0 g' ∧ w = none) := by
  have hF0 : Fr F_X2_begin_223 A_X2_begin_223 g0 g0 := Fr.rf
  refine Ev.mk rfl rfl ⟨Nat.le_of_ble_eq_true rfl, Or.inr (q_rc hI0.1 kx_223 rfl)⟩ ?_
  show At _ none _ _ (0, [(0, .ref 223)], [], (_, _)) _
  refine At.enter rfl ?_
  refine r_aload_n rfl ?_
  refine q_getR (Sh.ref hI0.1 kx_223 rfl) ?_
  refine q_getR (Sh.ref hI0.1 kx_1 rfl) ?_
  refine r_iconst 0 rfl ?_
  refine r_aload_n rfl ?_
  refine q_getR (Sh.ref hI0.1 kx_223 rfl) ?_
  refine r_iconst 0 rfl ?_
  refine r_bipush 12 rfl ?_
  have zv315 : (0 : Int32).toInt = 0 := rfl
  have zv316 : (0 : Int32).toInt = 0 := rfl
  have zv317 : (12 : Int32).toInt = 12 := rfl
  refine q_cpy rfl (Nat.le_of_ble_eq_true rfl) (Sh.arr hI0.1 ka_4) (Sh.arr hI0.1 ka_224) ⟨by omega, by omega, by omega, by omega, by omega⟩ ?_
  have hI318 := HI.cpy0 hI0 ka_4 ka_224 rfl rfl ((0 : Int32).toInt.toNat) ((0 : Int32).toInt.toNat) ((12 : Int32).toInt.toNat) (by omega) (by omega)
  have hF319 := Fr.cpy (p0 := 4) (p1 := 224) hF0 rfl ((0 : Int32).toInt.toNat) ((0 : Int32).toInt.toNat) ((12 : Int32).toInt.toNat)
  refine r_aload_n rfl ?_
  obtain ⟨v320, hv320⟩ : ∃ v, gI g0 223 5 = v := ⟨_, rfl⟩
  refine q_getI (Sh.int hI318.1 kx_223 rfl) v320 ((gI_sW).trans hv320) ?_
  refine r_ifs 25 rfl (fun c321 => ?_) (fun c321 => ?_)
  · have c321_ : v320.toInt ≠ 0 := en_k_ne_t c321
    refine At.enter rfl ?_
    refine r_vret ?_
    exact ⟨_, rfl, hI318, hF319, rfl⟩
  · have c321_ : v320.toInt = 0 := en_k_ne_f c321
    refine At.enter rfl ?_
    refine r_aload_n rfl ?_
    refine r_iconst 1 rfl ?_
    refine q_putI (Sh.int hI318.1 kx_223 rfl) rfl ?_
    have hI322 := HI.wI0 hI318 kx_223 rfl (p := 223) (b := 5) (v := 1) rfl
    have hF323 := Fr.wI (p := 223) (b := 5) (v := 1) hF319 rfl
    refine r_aload_n rfl ?_
    refine r_aload_n rfl ?_
    refine q_getR (Sh.ref hI322.1 kx_223 rfl) ?_
    refine q_inlV 38 rfl [.ref 1] [.ref 223] (Nat.le_of_ble_eq_true rfl) rfl ?_
    refine Ev.mk rfl rfl ⟨Nat.le_of_ble_eq_true rfl, Or.inr (q_rc hI322.1 kx_1 rfl)⟩ ?_
    show At _ none _ _ (0, [(0, .ref 1)], [], (_, _)) _
    refine At.enter rfl ?_
    refine r_aload_n rfl ?_
    refine r_aload_n rfl ?_
    obtain ⟨v324, hv324⟩ : ∃ v, gI g0 1 9 = v := ⟨_, rfl⟩
    refine q_getI (Sh.int hI322.1 kx_1 rfl) v324 (((gI_sI_ne (by decide)).trans (gI_sW)).trans hv324) ?_
    refine r_callV 8 rfl [.ref 1, .int v324] [] (Nat.le_of_ble_eq_true rfl) rfl (T_X0_lawAt_1 _ hI322 v324) ?_
    rintro _ _ ⟨g325, rfl, hI326, hF327, v328, rfl, hr329⟩
    refine At.str ?_
    have hF330 := Fr.tr hF323 hF327 rfl rfl
    refine At.enter rfl ?_
    refine q_aret ?_
    refine At.enter rfl ?_
    refine r_iconst 1 rfl ?_
    refine r_callV 42 rfl [.ref (v328), .int 1] [.ref 223] (Nat.le_of_ble_eq_true rfl) rfl (T_X4_speaksOf_law _ hI326 (v328) hr329 1) ?_
    rintro _ _ ⟨g331, rfl, hI332, hF333, v334, rfl, hr335⟩
    refine At.sti ?_
    have hF336 := Fr.tr hF330 hF333 rfl rfl
    refine At.enter rfl ?_
    refine q_putI (Sh.int hI332.1 kx_223 rfl) (q_fitb (by omega)) ?_
    have hI337 := HI.wI0 hI332 kx_223 rfl (p := 223) (b := 6) (v := v334) rfl
    have hF338 := Fr.wI (p := 223) (b := 6) (v := v334) hF336 rfl
    refine r_aload_n rfl ?_
    refine q_getI (Sh.int hI337.1 kx_223 rfl) v334 (gI_sI_eq hI332.1 kx_223 rfl _) ?_
    refine r_ifs 52 rfl (fun c339 => ?_) (fun c339 => ?_)
    · have c339_ : v334.toInt = 0 := en_k_eq_t c339
      refine At.enter rfl ?_
      refine r_vret ?_
      exact ⟨_, rfl, hI337, hF338, rfl⟩
    · have c339_ : v334.toInt ≠ 0 := en_k_eq_f c339
      refine At.enter rfl ?_
      refine r_aload_n rfl ?_
      refine q_getR (Sh.ref hI337.1 kx_223 rfl) ?_
      refine r_iconst (-1) rfl ?_
      refine q_inlS 60 rfl [.ref 226, .int (-1)] [] (Nat.le_of_ble_eq_true rfl) rfl ?_
      refine Ev.mk rfl rfl ⟨Nat.le_of_ble_eq_true rfl, Or.inl rfl⟩ ?_
      show At _ none _ _ (0, [(0, .ref 226), (1, .int (-1))], [], (_, _)) _
      refine At.enter rfl ?_
      refine r_iconst 0 rfl ?_
      refine r_istore_n ([(2, .int 0), (0, .ref 226), (1, .int (-1))]) rfl ?_
      refine r_aload_n rfl ?_
      refine r_alen (Sh.arr hI337.1 ka_226).1 (by decide) 9600 (by unfold en_sz; dsimp only; rw [(Sh.arr hI337.1 ka_226).2]; rfl) ?_
      refine r_istore_n ([(3, .int 9600), (2, .int 0), (0, .ref 226), (1, .int (-1))]) rfl ?_
      refine Ar.fall 5 rfl ?_
      have z_466 : (0 : Int32).toInt = 0 := rfl
      refine w_loopI (fun n_ l_ g_ => ∃ x454 : Int32, n_ = 9600 - x454.toInt ∧ HI g_ ∧ Fr F_X2_begin_223 A_X2_begin_223 g0 g_ ∧ en_get 0 l_ = some (.ref 226) ∧ en_get 1 l_ = some (.int (-1)) ∧ en_get 2 l_ = some (.int x454) ∧ en_get 3 l_ = some (.int 9600) ∧ (0 ≤ x454.toInt ∧ x454.toInt ≤ 9600)) ?_ (9600 - 0) ⟨0, by first | rfl | omega, hI337, hF338, rfl, rfl, rfl, rfl, by decide⟩
      rintro n459 l458 g455 ⟨x454, hm467, hI456, hF457, e461, e462, e463, e464, r465⟩ ih460
      refine At.enter rfl ?_
      refine r_iload_n e463 ?_
      refine r_iload_n e464 ?_
      refine r_ics 10 rfl (fun c468 => ?_) (fun c468 => ?_)
      · have c468_ : x454.toInt ≥ 9600 := en_i_ge_t c468
        refine At.enter rfl ?_
        refine q_vret ?_
        refine At.enter rfl ?_
        refine r_vret ?_
        exact ⟨_, rfl, hI456, hF457, rfl⟩
      · have c468_ : x454.toInt < 9600 := en_i_ge_f c468
        refine At.enter rfl ?_
        refine r_aload_n e461 ?_
        refine r_iload_n e463 ?_
        refine r_iload_n e462 ?_
        refine q_iast (Sh.arr hI456.1 ka_226) (x454.toInt) rfl (by omega) ?_
        have hI469 := HI.wA0 hI456 ka_226 (p := 226) rfl rfl (x454.toInt) ((-1))
        have hF470 := Fr.wA (p := 226) (j := x454.toInt) (v := (-1)) hF457 rfl
        refine q_iinc e463 (x454.toInt + 1) rfl (by omega) (fun v471 hv471 => ?_)
        refine r_goto ?_
        exact ih460 (9600 - v471.toInt) _ _ ⟨v471, by first | rfl | omega, hI469, hF470, (w_p1 (by decide) (Or.inr rfl) e461), (w_p1 (by decide) (Or.inr rfl) e462), (w_e1 _ _ _), (w_p1 (by decide) (Or.inr rfl) e464), by omega⟩ ⟨by omega, by omega⟩

def F_X2_settle_223 : List (Nat × Nat) := [(185, 3), (223, 5), (223, 6), (223, 7), (223, 8), (223, 9), (223, 10), (223, 11)]
def A_X2_settle_223 : List Nat := [224, 225, 226, 227]
set_option maxRecDepth 100000 in
set_option maxHeartbeats 4000000 in
theorem T_X2_settle_223 (d : Nat) {N : Nat} {g0 : List en_E} (hI0 : HI g0) : Ev (d + 7) 43 [.ref 223] (g0, N) (fun w h' => ∃ g', h' = (g', N) ∧ HI g' ∧ Fr F_X2_settle_223 A_X2_settle_223 g0 g' ∧ w = none) := by
  have hF0 : Fr F_X2_settle_223 A_X2_settle_223 g0 g0 := Fr.rf
  refine Ev.mk rfl rfl ⟨Nat.le_of_ble_eq_true rfl, Or.inr (q_rc hI0.1 kx_223 rfl)⟩ ?_
  show At _ none _ _ (0, [(0, .ref 223)], [], (_, _)) _
  refine At.enter rfl ?_
  refine r_aload_n rfl ?_
  obtain ⟨v6339, hv6339⟩ : ∃ v, gI g0 223 10 = v := ⟨_, rfl⟩
  refine q_getI (Sh.int hI0.1 kx_223 rfl) v6339 hv6339 ?_
  refine r_ifs 7 rfl (fun c6340 => ?_) (fun c6340 => ?_)
  · have c6340_ : v6339.toInt = 0 := en_k_eq_t c6340
    refine At.enter rfl ?_
    refine r_aload_n rfl ?_
    refine r_callV 12 rfl [.ref 223] [] (Nat.le_of_ble_eq_true rfl) rfl (T_X2_begin_223 _ hI0) ?_
    rintro _ _ ⟨g6341, rfl, hI6342, hF6343, rfl⟩
    refine At.stn ?_
    have hF6346 := Fr.tr hF0 hF6343 rfl rfl
    refine At.enter rfl ?_
    refine r_iconst 1 rfl ?_
    refine r_istore_n ([(1, .int 1), (0, .ref 223)]) rfl ?_
    refine r_aload_n rfl ?_
    refine r_iconst 0 rfl ?_
    refine q_putI (Sh.int hI6342.1 kx_223 rfl) rfl ?_
    have hI6347 := HI.wI0 hI6342 kx_223 rfl (p := 223) (b := 11) (v := 0) rfl
    have hF6348 := Fr.wI (p := 223) (b := 11) (v := 0) hF6346 rfl
    refine Ar.fall 19 rfl ?_
    have z_9236 : (1 : Int32).toInt = 1 := rfl
    have z_9237 : (0 : Int32).toInt = 0 := rfl
    refine w_loopI (fun n_ l_ g_ => ∃ x9223 : Int32, ∃ x9224 : Int32, n_ = 50 - x9224.toInt ∧ HI g_ ∧ Fr F_X2_settle_223 A_X2_settle_223 g0 g_ ∧ gI g_ 223 11 = x9224 ∧ en_get 0 l_ = some (.ref 223) ∧ en_get 1 l_ = some (.int x9223) ∧ (0 ≤ x9223.toInt ∧ x9223.toInt ≤ 1) ∧ (0 ≤ x9224.toInt ∧ x9224.toInt ≤ 50)) ?_ (50 - 0) ⟨1, 0, by first | rfl | omega, hI6347, hF6348, (gI_sI_eq hI6342.1 kx_223 rfl _), rfl, rfl, by decide, by decide⟩
    rintro n9229 l9228 g9225 ⟨x9223, x9224, hm9238, hI9226, hF9227, e9231, e9232, e9233, r9234, r9235⟩ ih9230
    refine At.enter rfl ?_
    refine r_iload_n e9233 ?_
    refine r_ifs 23 rfl (fun c9239 => ?_) (fun c9239 => ?_)
    · have c9239_ : x9223.toInt = 0 := en_k_eq_t c9239
      refine At.enter rfl ?_
      refine r_iload_n e9233 ?_
      refine r_ifs 98 rfl (fun c9240 => ?_) (fun c9240 => ?_)
      · have c9240_ : x9223.toInt = 0 := en_k_eq_t c9240
        refine At.enter rfl ?_
        refine r_aload_n e9232 ?_
        refine q_getR (Sh.ref hI9226.1 kx_223 rfl) ?_
        refine r_iconst 0 rfl ?_
        refine r_aload_n e9232 ?_
        refine q_getR (Sh.ref hI9226.1 kx_223 rfl) ?_
        refine r_iconst 0 rfl ?_
        refine r_bipush 12 rfl ?_
        have zv9241 : (0 : Int32).toInt = 0 := rfl
        have zv9242 : (0 : Int32).toInt = 0 := rfl
        have zv9243 : (12 : Int32).toInt = 12 := rfl
        refine q_cpy rfl (Nat.le_of_ble_eq_true rfl) (Sh.arr hI9226.1 ka_224) (Sh.arr hI9226.1 ka_227) ⟨by omega, by omega, by omega, by omega, by omega⟩ ?_
        have hI9244 := HI.cpy0 hI9226 ka_224 ka_227 rfl rfl ((0 : Int32).toInt.toNat) ((0 : Int32).toInt.toNat) ((12 : Int32).toInt.toNat) (by omega) (by omega)
        have hF9245 := Fr.cpy (p0 := 224) (p1 := 227) hF9227 rfl ((0 : Int32).toInt.toNat) ((0 : Int32).toInt.toNat) ((12 : Int32).toInt.toNat)
        refine r_aload_n e9232 ?_
        refine r_iconst 1 rfl ?_
        refine q_putI (Sh.int hI9244.1 kx_223 rfl) rfl ?_
        have hI9246 := HI.wI0 hI9244 kx_223 rfl (p := 223) (b := 10) (v := 1) rfl
        have hF9247 := Fr.wI (p := 223) (b := 10) (v := 1) hF9245 rfl
        refine r_vret ?_
        exact ⟨_, rfl, hI9246, hF9247, rfl⟩
      · have c9240_ : x9223.toInt ≠ 0 := en_k_eq_f c9240
        exfalso; omega
    · have c9239_ : x9223.toInt ≠ 0 := en_k_eq_f c9239
      refine At.enter rfl ?_
      refine r_aload_n e9232 ?_
      refine q_getI (Sh.int hI9226.1 kx_223 rfl) x9224 e9231 ?_
      refine r_bipush 50 rfl ?_
      refine r_ics 32 rfl (fun c9248 => ?_) (fun c9248 => ?_)
      · have c9248_ : x9224.toInt ≥ 50 := en_i_ge_t c9248
        refine At.enter rfl ?_
        refine r_iload_n e9233 ?_
        refine r_ifs 98 rfl (fun c9249 => ?_) (fun c9249 => ?_)
        · have c9249_ : x9223.toInt = 0 := en_k_eq_t c9249
          exfalso; omega
        · have c9249_ : x9223.toInt ≠ 0 := en_k_eq_f c9249
          refine At.enter rfl ?_
          refine r_aload_n e9232 ?_
          refine r_dup rfl ?_
          refine q_getI (Sh.int hI9226.1 kx_223 rfl) x9224 e9231 ?_
          refine r_iconst 1 rfl ?_
          refine q_iadd (x9224.toInt + 1) rfl (by omega) (fun v9250 hv9250 => ?_)
          refine q_putI (Sh.int hI9226.1 kx_223 rfl) rfl ?_
          have hI9251 := HI.wI0 hI9226 kx_223 rfl (p := 223) (b := 11) (v := v9250) rfl
          have hF9252 := Fr.wI (p := 223) (b := 11) (v := v9250) hF9227 rfl
          refine Ar.fall 108 rfl ?_
          refine At.enter rfl ?_
          refine r_aload_n e9232 ?_
          refine q_getR (Sh.ref hI9251.1 kx_223 rfl) ?_
          refine r_iconst 0 rfl ?_
          refine r_aload_n e9232 ?_
          refine q_getR (Sh.ref hI9251.1 kx_223 rfl) ?_
          refine r_iconst 0 rfl ?_
          refine r_bipush 12 rfl ?_
          have zv9253 : (0 : Int32).toInt = 0 := rfl
          have zv9254 : (0 : Int32).toInt = 0 := rfl
          have zv9255 : (12 : Int32).toInt = 12 := rfl
          refine q_cpy rfl (Nat.le_of_ble_eq_true rfl) (Sh.arr hI9251.1 ka_224) (Sh.arr hI9251.1 ka_227) ⟨by omega, by omega, by omega, by omega, by omega⟩ ?_
          have hI9256 := HI.cpy0 hI9251 ka_224 ka_227 rfl rfl ((0 : Int32).toInt.toNat) ((0 : Int32).toInt.toNat) ((12 : Int32).toInt.toNat) (by omega) (by omega)
          have hF9257 := Fr.cpy (p0 := 224) (p1 := 227) hF9252 rfl ((0 : Int32).toInt.toNat) ((0 : Int32).toInt.toNat) ((12 : Int32).toInt.toNat)
          refine r_aload_n e9232 ?_
          refine r_iconst 1 rfl ?_
          refine q_putI (Sh.int hI9256.1 kx_223 rfl) rfl ?_
          have hI9258 := HI.wI0 hI9256 kx_223 rfl (p := 223) (b := 10) (v := 1) rfl
          have hF9259 := Fr.wI (p := 223) (b := 10) (v := 1) hF9257 rfl
          refine r_vret ?_
          exact ⟨_, rfl, hI9258, hF9259, rfl⟩
      · have c9248_ : x9224.toInt < 50 := en_i_ge_f c9248
        refine At.enter rfl ?_
        refine r_aload_n e9232 ?_
        refine r_dup rfl ?_
        refine q_getI (Sh.int hI9226.1 kx_223 rfl) x9224 e9231 ?_
        refine r_iconst 1 rfl ?_
        refine q_iadd (x9224.toInt + 1) rfl (by omega) (fun v9260 hv9260 => ?_)
        refine q_putI (Sh.int hI9226.1 kx_223 rfl) rfl ?_
        have hI9261 := HI.wI0 hI9226 kx_223 rfl (p := 223) (b := 11) (v := v9260) rfl
        have hF9262 := Fr.wI (p := 223) (b := 11) (v := v9260) hF9227 rfl
        refine r_iconst 0 rfl ?_
        refine r_istore_n _ rfl ?_
        refine r_iconst 0 rfl ?_
        refine r_istore_n _ rfl ?_
        refine Ar.fall 46 rfl ?_
        have z_9484 : (0 : Int32).toInt = 0 := rfl
        have z_9485 : (0 : Int32).toInt = 0 := rfl
        refine w_loopI (fun n_ l_ g_ => ∃ x9470 : Int32, ∃ x9471 : Int32, n_ = 12 - x9471.toInt ∧ HI g_ ∧ Fr F_X2_settle_223 A_X2_settle_223 g0 g_ ∧ gI g_ 223 11 = v9260 ∧ en_get 0 l_ = some (.ref 223) ∧ en_get 1 l_ = some (.int x9470) ∧ en_get 2 l_ = some (.int x9471) ∧ (0 ≤ x9470.toInt ∧ x9470.toInt ≤ 1) ∧ (0 ≤ x9471.toInt ∧ x9471.toInt ≤ 12)) ?_ (12 - 0) ⟨0, 0, by first | rfl | omega, hI9261, hF9262, (gI_sI_eq hI9226.1 kx_223 rfl _), (w_p1 (by decide) (Or.inr rfl) (w_p1 (by decide) (Or.inr rfl) e9232)), (w_p1 (by decide) (Or.inr rfl) (w_e1 _ _ _)), (w_e1 _ _ _), by decide, by decide⟩
        rintro n9476 l9475 g9472 ⟨x9470, x9471, hm9486, hI9473, hF9474, e9478, e9479, e9480, e9481, r9482, r9483⟩ ih9477
        have tv9487 := congrArg Int32.toInt e9478
        refine At.enter rfl ?_
        refine r_iload_n e9481 ?_
        refine r_aload_n e9479 ?_
        refine q_getR (Sh.ref hI9473.1 kx_223 rfl) ?_
        obtain ⟨v9488, hv9488⟩ : ∃ v, gI g0 1 0 = v := ⟨_, rfl⟩
        have rv9488 := RgF.at hI0.2.1 (p := 1) (b := 0) rfl
        rw [hv9488] at rv9488
        dsimp only at rv9488
        refine q_getI (Sh.int hI9473.1 kx_1 rfl) v9488 ((hF9474.1 1 0 (by decide)).trans hv9488) ?_
        have bv9490 := q_bnd x9471
        have bv9491 := q_bnd v9488
        refine r_ics 57 rfl (fun c9489 => ?_) (fun c9489 => ?_)
        · have c9489_ : x9471.toInt ≥ v9488.toInt := en_i_ge_t c9489
          refine At.enter rfl ?_
          refine r_goto ?_
          exact ih9230 (50 - v9260.toInt) _ _ ⟨x9470, v9260, by first | rfl | omega, hI9473, hF9474, e9478, e9479, e9480, by omega, by omega⟩ ⟨by omega, by omega⟩
        · have c9489_ : x9471.toInt < v9488.toInt := en_i_ge_f c9489
          refine At.enter rfl ?_
          refine r_aload_n e9479 ?_
          refine r_iload_n e9481 ?_
          refine r_callV 62 rfl [.ref 223, .int x9471] [] (Nat.le_of_ble_eq_true rfl) rfl (T_X2_seekAnswer_223 _ hI9473 x9471 (by omega)) ?_
          rintro _ _ ⟨g9492, rfl, hI9493, hF9494, rfl⟩
          refine At.stn ?_
          have hF9497 := Fr.tr hF9474 hF9494 rfl rfl
          refine At.enter rfl ?_
          refine r_aload_n e9479 ?_
          obtain ⟨v9498, hv9498⟩ : ∃ v, gI g9492 223 8 = v := ⟨_, rfl⟩
          refine q_getI (Sh.int hI9493.1 kx_223 rfl) v9498 hv9498 ?_
          refine r_aload_n e9479 ?_
          obtain ⟨v9499, hv9499⟩ : ∃ v, gI g9492 223 9 = v := ⟨_, rfl⟩
          refine q_getI (Sh.int hI9493.1 kx_223 rfl) v9499 hv9499 ?_
          have bv9501 := q_bnd v9498
          have bv9502 := q_bnd v9499
          refine r_ics 73 rfl (fun c9500 => ?_) (fun c9500 => ?_)
          · have c9500_ : v9498.toInt ≤ v9499.toInt := en_i_le_t c9500
            refine At.enter rfl ?_
            refine q_iinc e9481 (x9471.toInt + 1) rfl (by omega) (fun v9503 hv9503 => ?_)
            refine r_goto ?_
            exact ih9477 (12 - v9503.toInt) _ _ ⟨x9470, v9503, by first | rfl | omega, hI9493, hF9497, ((hF9494.1 223 11 (by decide)).trans e9478), (w_p1 (by decide) (Or.inr rfl) e9479), (w_p1 (by decide) (Or.inr rfl) e9480), (w_e1 _ _ _), by omega, by omega⟩ ⟨by omega, by omega⟩
          · have c9500_ : v9498.toInt > v9499.toInt := en_i_le_f c9500
            refine At.enter rfl ?_
            refine r_aload_n e9479 ?_
            refine q_getR (Sh.ref hI9493.1 kx_223 rfl) ?_
            refine r_iload_n e9481 ?_
            refine r_aload_n e9479 ?_
            obtain ⟨v9504, hv9504⟩ : ∃ v, gI g9492 223 7 = v := ⟨_, rfl⟩
            refine q_getI (Sh.int hI9493.1 kx_223 rfl) v9504 hv9504 ?_
            refine q_iast (Sh.arr hI9493.1 ka_224) (x9471.toInt) rfl (by omega) ?_
            have hI9505 := HI.wA0 hI9493 ka_224 (p := 224) rfl rfl (x9471.toInt) (v9504)
            have hF9506 := Fr.wA (p := 224) (j := x9471.toInt) (v := v9504) hF9497 rfl
            refine r_iconst 1 rfl ?_
            refine r_istore_n _ rfl ?_
            refine Ar.fall 85 rfl ?_
            refine At.enter rfl ?_
            refine q_iinc (w_p1 (by decide) (Or.inr rfl) e9481) (x9471.toInt + 1) rfl (by omega) (fun v9507 hv9507 => ?_)
            refine r_goto ?_
            exact ih9477 (12 - v9507.toInt) _ _ ⟨1, v9507, by first | rfl | omega, hI9505, hF9506, (((gI_sW).trans (hF9494.1 223 11 (by decide))).trans e9478), (w_p1 (by decide) (Or.inr rfl) (w_p1 (by decide) (Or.inr rfl) e9479)), (w_p1 (by decide) (Or.inr rfl) (w_e1 _ _ _)), (w_e1 _ _ _), by decide, by omega⟩ ⟨by omega, by omega⟩
  · have c6340_ : v6339.toInt ≠ 0 := en_k_eq_f c6340
    refine At.enter rfl ?_
    refine r_vret ?_
    exact ⟨_, rfl, hI0, hF0, rfl⟩

def F_X2_firstRestless_223 : List (Nat × Nat) := [(185, 3), (223, 5), (223, 6), (223, 7), (223, 8), (223, 9)]
def A_X2_firstRestless_223 : List Nat := [224, 225, 226]
set_option maxRecDepth 100000 in
set_option maxHeartbeats 4000000 in
theorem T_X2_firstRestless_223 (d : Nat) {N : Nat} {g0 : List en_E} (hI0 : HI g0) : Ev (d + 7) 42 [.ref 223] (g0, N) (fun w h' => ∃ g', h' = (g', N) ∧ HI g' ∧ Fr F_X2_firstRestless_223 A_X2_firstRestless_223 g0 g' ∧ ∃ r : Int32, w = some (.int r) ∧ ((-1) ≤ r.toInt ∧ r.toInt ≤ 11)) := by
  have hF0 : Fr F_X2_firstRestless_223 A_X2_firstRestless_223 g0 g0 := Fr.rf
  refine Ev.mk rfl rfl ⟨Nat.le_of_ble_eq_true rfl, Or.inr (q_rc hI0.1 kx_223 rfl)⟩ ?_
  show At _ none _ _ (0, [(0, .ref 223)], [], (_, _)) _
  refine At.enter rfl ?_
  refine r_aload_n rfl ?_
  refine r_callV 4 rfl [.ref 223] [] (Nat.le_of_ble_eq_true rfl) rfl (T_X2_begin_223 _ hI0) ?_
  rintro _ _ ⟨g393, rfl, hI394, hF395, rfl⟩
  refine At.stn ?_
  have hF398 := Fr.tr hF0 hF395 rfl rfl
  refine At.enter rfl ?_
  refine r_iconst 0 rfl ?_
  refine r_istore_n ([(1, .int 0), (0, .ref 223)]) rfl ?_
  refine Ar.fall 6 rfl ?_
  have z_571 : (0 : Int32).toInt = 0 := rfl
  refine w_loopI (fun n_ l_ g_ => ∃ x561 : Int32, n_ = 12 - x561.toInt ∧ HI g_ ∧ Fr F_X2_firstRestless_223 A_X2_firstRestless_223 g0 g_ ∧ en_get 0 l_ = some (.ref 223) ∧ en_get 1 l_ = some (.int x561) ∧ (0 ≤ x561.toInt ∧ x561.toInt ≤ 12)) ?_ (12 - 0) ⟨0, by first | rfl | omega, hI394, hF398, rfl, rfl, by decide⟩
  rintro n566 l565 g562 ⟨x561, hm572, hI563, hF564, e568, e569, r570⟩ ih567
  refine At.enter rfl ?_
  refine r_iload_n e569 ?_
  refine r_aload_n e568 ?_
  refine q_getR (Sh.ref hI563.1 kx_223 rfl) ?_
  obtain ⟨v573, hv573⟩ : ∃ v, gI g0 1 0 = v := ⟨_, rfl⟩
  have rv573 := RgF.at hI0.2.1 (p := 1) (b := 0) rfl
  rw [hv573] at rv573
  dsimp only at rv573
  refine q_getI (Sh.int hI563.1 kx_1 rfl) v573 ((hF564.1 1 0 (by decide)).trans hv573) ?_
  have bv575 := q_bnd x561
  have bv576 := q_bnd v573
  refine r_ics 17 rfl (fun c574 => ?_) (fun c574 => ?_)
  · have c574_ : x561.toInt ≥ v573.toInt := en_i_ge_t c574
    refine At.enter rfl ?_
    refine r_iconst (-1) rfl ?_
    refine r_ireti ?_
    exact ⟨_, rfl, hI563, hF564, _, rfl, by decide⟩
  · have c574_ : x561.toInt < v573.toInt := en_i_ge_f c574
    refine At.enter rfl ?_
    refine r_aload_n e568 ?_
    refine r_iload_n e569 ?_
    refine r_callV 22 rfl [.ref 223, .int x561] [] (Nat.le_of_ble_eq_true rfl) rfl (T_X2_seekAnswer_223 _ hI563 x561 (by omega)) ?_
    rintro _ _ ⟨g577, rfl, hI578, hF579, rfl⟩
    refine At.stn ?_
    have hF582 := Fr.tr hF564 hF579 rfl rfl
    refine At.enter rfl ?_
    refine r_aload_n e568 ?_
    obtain ⟨v583, hv583⟩ : ∃ v, gI g577 223 8 = v := ⟨_, rfl⟩
    refine q_getI (Sh.int hI578.1 kx_223 rfl) v583 hv583 ?_
    refine r_aload_n e568 ?_
    obtain ⟨v584, hv584⟩ : ∃ v, gI g577 223 9 = v := ⟨_, rfl⟩
    refine q_getI (Sh.int hI578.1 kx_223 rfl) v584 hv584 ?_
    have bv586 := q_bnd v583
    have bv587 := q_bnd v584
    refine r_ics 33 rfl (fun c585 => ?_) (fun c585 => ?_)
    · have c585_ : v583.toInt ≤ v584.toInt := en_i_le_t c585
      refine At.enter rfl ?_
      refine q_iinc e569 (x561.toInt + 1) rfl (by omega) (fun v588 hv588 => ?_)
      refine r_goto ?_
      exact ih567 (12 - v588.toInt) _ _ ⟨v588, by first | rfl | omega, hI578, hF582, (w_p1 (by decide) (Or.inr rfl) e568), (w_e1 _ _ _), by omega⟩ ⟨by omega, by omega⟩
    · have c585_ : v583.toInt > v584.toInt := en_i_le_f c585
      refine At.enter rfl ?_
      refine r_iload_n e569 ?_
      refine r_ireti ?_
      exact ⟨_, rfl, hI578, hF582, _, rfl, by omega⟩

def F_X6_search_222 : List (Nat × Nat) := [(185, 3), (204, 16), (204, 18), (222, 3), (222, 4), (222, 5)]
def A_X6_search_222 : List Nat := [205, 206, 207, 208, 209, 210, 211, 212, 213, 214, 215, 216, 218]
set_option maxRecDepth 100000 in
set_option maxHeartbeats 4000000 in
theorem T_X6_search_222 (d : Nat) {N : Nat} {g0 : List en_E} (hI0 : HI g0) : Ev (d + 6) 82 [.ref 222] (g0, N) (fun w h' => ∃ g', h' = (g', N) ∧ HI g' ∧ Fr F_X6_search_222 A_X6_search_222 g0 g' ∧ w = none) := by
  have hF0 : Fr F_X6_search_222 A_X6_search_222 g0 g0 := Fr.rf
  refine Ev.mk rfl rfl ⟨Nat.le_of_ble_eq_true rfl, Or.inr (q_rc hI0.1 kx_222 rfl)⟩ ?_
  show At _ none _ _ (0, [(0, .ref 222)], [], (_, _)) _
  refine At.enter rfl ?_
  refine r_aload_n rfl ?_
  refine r_iconst 0 rfl ?_
  refine q_putI (Sh.int hI0.1 kx_222 rfl) rfl ?_
  have hI112229 := HI.wI0 hI0 kx_222 rfl (p := 222) (b := 5) (v := 0) rfl
  have hF112230 := Fr.wI (p := 222) (b := 5) (v := 0) hF0 rfl
  refine r_aload_n rfl ?_
  refine r_iconst (-1) rfl ?_
  refine q_putI (Sh.int hI112229.1 kx_222 rfl) rfl ?_
  have hI112231 := HI.wI0 hI112229 kx_222 rfl (p := 222) (b := 4) (v := (-1)) rfl
  have hF112232 := Fr.wI (p := 222) (b := 4) (v := (-1)) hF112230 rfl
  refine r_aload_n rfl ?_
  refine r_iconst (-1) rfl ?_
  refine q_putI (Sh.int hI112231.1 kx_222 rfl) rfl ?_
  have hI112233 := HI.wI0 hI112231 kx_222 rfl (p := 222) (b := 3) (v := (-1)) rfl
  have hF112234 := Fr.wI (p := 222) (b := 3) (v := (-1)) hF112232 rfl
  refine r_iconst 0 rfl ?_
  refine r_istore_n ([(1, .int 0), (0, .ref 222)]) rfl ?_
  refine r_iconst 0 rfl ?_
  refine r_istore_n ([(2, .int 0), (1, .int 0), (0, .ref 222)]) rfl ?_
  refine Ar.fall 19 rfl ?_
  have z_161331 : (0 : Int32).toInt = 0 := rfl
  have z_161332 : (0 : Int32).toInt = 0 := rfl
  refine w_loopI (fun n_ l_ g_ => ∃ x161319 : Int32, ∃ x161320 : Int32, n_ = 8 - x161320.toInt ∧ HI g_ ∧ Fr F_X6_search_222 A_X6_search_222 g0 g_ ∧ en_get 0 l_ = some (.ref 222) ∧ en_get 1 l_ = some (.int x161319) ∧ en_get 2 l_ = some (.int x161320) ∧ (0 ≤ x161320.toInt ∧ x161320.toInt ≤ 8)) ?_ (8 - 0) ⟨0, 0, by first | rfl | omega, hI112233, hF112234, rfl, rfl, rfl, by decide⟩
  rintro n161325 l161324 g161321 ⟨x161319, x161320, hm161333, hI161322, hF161323, e161327, e161328, e161329, r161330⟩ ih161326
  refine At.enter rfl ?_
  refine r_iload_n e161329 ?_
  refine r_aload_n e161327 ?_
  refine q_getR (Sh.ref hI161322.1 kx_222 rfl) ?_
  obtain ⟨v161334, hv161334⟩ : ∃ v, gI g0 1 4 = v := ⟨_, rfl⟩
  have rv161334 := RgF.at hI0.2.1 (p := 1) (b := 4) rfl
  rw [hv161334] at rv161334
  dsimp only at rv161334
  refine q_getI (Sh.int hI161322.1 kx_1 rfl) v161334 ((hF161323.1 1 4 (by decide)).trans hv161334) ?_
  have bv161336 := q_bnd x161320
  have bv161337 := q_bnd v161334
  refine r_ics 30 rfl (fun c161335 => ?_) (fun c161335 => ?_)
  · have c161335_ : x161320.toInt ≥ v161334.toInt := en_i_ge_t c161335
    refine At.enter rfl ?_
    refine r_iconst 1 rfl ?_
    refine r_aload_n e161327 ?_
    refine q_getR (Sh.ref hI161322.1 kx_222 rfl) ?_
    refine q_getI (Sh.int hI161322.1 kx_1 rfl) v161334 ((hF161323.1 1 4 (by decide)).trans hv161334) ?_
    refine q_ishlO (fun v161338 hv161338 => ?_)
    refine r_iconst 1 rfl ?_
    refine q_isubO (fun v161339 _ => ?_)
    refine r_istore_n _ rfl ?_
    refine r_iconst 0 rfl ?_
    refine r_istore_n _ rfl ?_
    refine Ar.fall 76 rfl ?_
    have z_167162 : (0 : Int32).toInt = 0 := rfl
    refine w_loopI (fun n_ l_ g_ => ∃ x167150 : Int32, n_ = 4 - x167150.toInt ∧ HI g_ ∧ Fr F_X6_search_222 A_X6_search_222 g0 g_ ∧ en_get 0 l_ = some (.ref 222) ∧ en_get 1 l_ = some (.int x161319) ∧ en_get 2 l_ = some (.int v161339) ∧ en_get 3 l_ = some (.int x167150) ∧ (0 ≤ x167150.toInt ∧ x167150.toInt ≤ 4)) ?_ (4 - 0) ⟨0, by first | rfl | omega, hI161322, hF161323, (w_p1 (by decide) (Or.inr rfl) (w_p1 (by decide) (Or.inr rfl) e161327)), (w_p1 (by decide) (Or.inr rfl) (w_p1 (by decide) (Or.inr rfl) e161328)), (w_p1 (by decide) (Or.inr rfl) (w_e1 _ _ _)), (w_e1 _ _ _), by decide⟩
    rintro n167155 l167154 g167151 ⟨x167150, hm167163, hI167152, hF167153, e167157, e167158, e167159, e167160, r167161⟩ ih167156
    refine At.enter rfl ?_
    refine r_iload_n e167160 ?_
    refine r_iconst 3 rfl ?_
    refine r_ics 81 rfl (fun c167164 => ?_) (fun c167164 => ?_)
    · have c167164_ : x167150.toInt > 3 := en_i_gt_t c167164
      refine At.enter rfl ?_
      refine r_vret ?_
      exact ⟨_, rfl, hI167152, hF167153, rfl⟩
    · have c167164_ : x167150.toInt ≤ 3 := en_i_gt_f c167164
      refine At.enter rfl ?_
      refine r_aload_n e167157 ?_
      obtain ⟨v167165, hv167165⟩ : ∃ v, gI g167151 222 5 = v := ⟨_, rfl⟩
      refine q_getI (Sh.int hI167152.1 kx_222 rfl) v167165 hv167165 ?_
      refine r_ifs 88 rfl (fun c167166 => ?_) (fun c167166 => ?_)
      · have c167166_ : v167165.toInt ≠ 0 := en_k_ne_t c167166
        refine At.enter rfl ?_
        refine r_vret ?_
        exact ⟨_, rfl, hI167152, hF167153, rfl⟩
      · have c167166_ : v167165.toInt = 0 := en_k_ne_f c167166
        refine At.enter rfl ?_
        refine r_iconst 0 rfl ?_
        refine r_istore _ rfl ?_
        refine Ar.fall 91 rfl ?_
        have z_168272 : (0 : Int32).toInt = 0 := rfl
        refine w_loopI (fun n_ l_ g_ => ∃ x168259 : Int32, n_ = 2147483647 - x168259.toInt ∧ HI g_ ∧ Fr F_X6_search_222 A_X6_search_222 g0 g_ ∧ en_get 0 l_ = some (.ref 222) ∧ en_get 1 l_ = some (.int x161319) ∧ en_get 2 l_ = some (.int v161339) ∧ en_get 3 l_ = some (.int x167150) ∧ en_get 4 l_ = some (.int x168259) ∧ 0 ≤ x168259.toInt) ?_ (2147483647 - 0) ⟨0, by first | rfl | omega, hI167152, hF167153, (w_p1 (by decide) (Or.inr rfl) e167157), (w_p1 (by decide) (Or.inr rfl) e167158), (w_p1 (by decide) (Or.inr rfl) e167159), (w_p1 (by decide) (Or.inr rfl) e167160), (w_e1 _ _ _), by decide⟩
        rintro n168264 l168263 g168260 ⟨x168259, hm168273, hI168261, hF168262, e168266, e168267, e168268, e168269, e168270, r168271⟩ ih168265
        refine At.enter rfl ?_
        refine r_iload e168270 ?_
        refine r_iconst 1 rfl ?_
        refine r_aload_n e168266 ?_
        refine q_getR (Sh.ref hI168261.1 kx_222 rfl) ?_
        obtain ⟨v168274, hv168274⟩ : ∃ v, gI g0 1 0 = v := ⟨_, rfl⟩
        have rv168274 := RgF.at hI0.2.1 (p := 1) (b := 0) rfl
        rw [hv168274] at rv168274
        dsimp only at rv168274
        refine q_getI (Sh.int hI168261.1 kx_1 rfl) v168274 ((hF168262.1 1 0 (by decide)).trans hv168274) ?_
        refine q_ishlO (fun v168275 hv168275 => ?_)
        have bv168277 := q_bnd x168259
        have bv168278 := q_bnd v168275
        refine r_ics 105 rfl (fun c168276 => ?_) (fun c168276 => ?_)
        · have c168276_ : x168259.toInt ≥ v168275.toInt := en_i_ge_t c168276
          refine At.enter rfl ?_
          refine q_iinc e168269 (x167150.toInt + 1) rfl (by omega) (fun v168279 hv168279 => ?_)
          refine r_goto ?_
          exact ih167156 (4 - v168279.toInt) _ _ ⟨v168279, by first | rfl | omega, hI168261, hF168262, (w_p1 (by decide) (Or.inr rfl) e168266), (w_p1 (by decide) (Or.inr rfl) e168267), (w_p1 (by decide) (Or.inr rfl) e168268), (w_e1 _ _ _), by omega⟩ ⟨by omega, by omega⟩
        · have c168276_ : x168259.toInt < v168275.toInt := en_i_ge_f c168276
          refine At.enter rfl ?_
          refine r_iload e168270 ?_
          refine r_callS 110 rfl [.int x168259] [] (Nat.le_of_ble_eq_true rfl) rfl (T_J6_bitCount_0f7a4 _ hI168261 x168259) ?_
          rintro _ _ ⟨g168280, rfl, hI168281, hF168282, v168283, rfl, hr168284⟩
          refine At.sti ?_
          have hF168285 := Fr.tr hF168262 hF168282 rfl rfl
          refine At.enter rfl ?_
          refine r_iload_n e168269 ?_
          refine r_ics 114 rfl (fun c168286 => ?_) (fun c168286 => ?_)
          · have c168286_ : v168283.toInt ≠ x167150.toInt := en_i_ne_t c168286
            refine At.enter rfl ?_
            refine q_iinc e168270 (x168259.toInt + 1) rfl (by omega) (fun v168287 hv168287 => ?_)
            refine r_goto ?_
            have bv168288 := q_bnd v168287
            exact ih168265 (2147483647 - v168287.toInt) _ _ ⟨v168287, by first | rfl | omega, hI168281, hF168285, (w_p1 (by decide) (Or.inr rfl) e168266), (w_p1 (by decide) (Or.inr rfl) e168267), (w_p1 (by decide) (Or.inr rfl) e168268), (w_p1 (by decide) (Or.inr rfl) e168269), (w_e1 _ _ _), by omega⟩ ⟨by omega, by omega⟩
          · have c168286_ : v168283.toInt = x167150.toInt := en_i_ne_f c168286
            refine At.enter rfl ?_
            refine r_iload e168270 ?_
            refine r_iload_n e168267 ?_
            refine q_iandO (fun v168289 hv168289 => ?_)
            refine r_ifs 121 rfl (fun c168290 => ?_) (fun c168290 => ?_)
            · have c168290_ : v168289.toInt = 0 := en_k_eq_t c168290
              refine At.enter rfl ?_
              refine r_aload_n e168266 ?_
              refine q_getR (Sh.ref hI168281.1 kx_222 rfl) ?_
              refine r_iload e168270 ?_
              refine r_callV 133 rfl [.ref 204, .int x168259] [] (Nat.le_of_ble_eq_true rfl) rfl (T_X1_layOut_204 _ hI168281 x168259) ?_
              rintro _ _ ⟨g168291, rfl, hI168292, hF168293, rfl⟩
              refine At.stn ?_
              have hF168296 := Fr.tr hF168285 hF168293 rfl rfl
              refine At.enter rfl ?_
              refine r_aload_n e168266 ?_
              refine q_getR (Sh.ref hI168292.1 kx_222 rfl) ?_
              refine r_iload_n e168268 ?_
              refine r_bipush 99 rfl ?_
              refine r_callV 143 rfl [.ref 204, .int v161339, .int 99] [] (Nat.le_of_ble_eq_true rfl) rfl (T_X1_comesBy_204 _ hI168292 v161339 99) ?_
              rintro _ _ ⟨g168297, rfl, hI168298, hF168299, v168300, rfl, hr168301⟩
              refine At.sti ?_
              have hF168302 := Fr.tr hF168296 hF168299 rfl rfl
              refine At.enter rfl ?_
              refine r_ifs 146 rfl (fun c168303 => ?_) (fun c168303 => ?_)
              · have c168303_ : v168300.toInt = 0 := en_k_eq_t c168303
                refine At.enter rfl ?_
                refine q_iinc e168270 (x168259.toInt + 1) rfl (by omega) (fun v168304 hv168304 => ?_)
                refine r_goto ?_
                have bv168305 := q_bnd v168304
                exact ih168265 (2147483647 - v168304.toInt) _ _ ⟨v168304, by first | rfl | omega, hI168298, hF168302, (w_p1 (by decide) (Or.inr rfl) e168266), (w_p1 (by decide) (Or.inr rfl) e168267), (w_p1 (by decide) (Or.inr rfl) e168268), (w_p1 (by decide) (Or.inr rfl) e168269), (w_e1 _ _ _), by omega⟩ ⟨by omega, by omega⟩
              · have c168303_ : v168300.toInt ≠ 0 := en_k_eq_f c168303
                refine At.enter rfl ?_
                refine r_aload_n e168266 ?_
                refine r_aload_n e168266 ?_
                obtain ⟨v168306, hv168306⟩ : ∃ v, gI g168260 222 5 = v := ⟨_, rfl⟩
                refine q_getI (Sh.int hI168298.1 kx_222 rfl) v168306 (((hF168299.1 222 5 (by decide)).trans ((hF168293.1 222 5 (by decide)).trans (hF168282.1 222 5 (by decide)))).trans hv168306) ?_
                refine r_ifs 154 rfl (fun c168307 => ?_) (fun c168307 => ?_)
                · have c168307_ : v168306.toInt ≠ 0 := en_k_ne_t c168307
                  refine At.enter rfl ?_
                  refine r_aload_n e168266 ?_
                  obtain ⟨v168308, hv168308⟩ : ∃ v, gI g168260 222 4 = v := ⟨_, rfl⟩
                  refine q_getI (Sh.int hI168298.1 kx_222 rfl) v168308 (((hF168299.1 222 4 (by decide)).trans ((hF168293.1 222 4 (by decide)).trans (hF168282.1 222 4 (by decide)))).trans hv168308) ?_
                  refine Ar.fall 163 rfl ?_
                  refine At.enter rfl ?_
                  refine q_putI (Sh.int hI168298.1 kx_222 rfl) rfl ?_
                  have hI168309 := HI.wI0 hI168298 kx_222 rfl (p := 222) (b := 4) (v := v168308) rfl
                  have hF168310 := Fr.wI (p := 222) (b := 4) (v := v168308) hF168302 rfl
                  refine r_aload_n e168266 ?_
                  refine r_iload_n e168269 ?_
                  refine q_putI (Sh.int hI168309.1 kx_222 rfl) rfl ?_
                  have hI168311 := HI.wI0 hI168309 kx_222 rfl (p := 222) (b := 3) (v := x167150) rfl
                  have hF168312 := Fr.wI (p := 222) (b := 3) (v := x167150) hF168310 rfl
                  refine r_aload_n e168266 ?_
                  refine r_dup rfl ?_
                  refine q_getI (Sh.int hI168311.1 kx_222 rfl) v168306 (((gI_sI_ne (by decide)).trans ((gI_sI_ne (by decide)).trans ((hF168299.1 222 5 (by decide)).trans ((hF168293.1 222 5 (by decide)).trans (hF168282.1 222 5 (by decide)))))).trans hv168306) ?_
                  refine r_iconst 1 rfl ?_
                  refine q_iaddO (fun v168313 _ => ?_)
                  refine q_putI (Sh.int hI168311.1 kx_222 rfl) rfl ?_
                  have hI168314 := HI.wI0 hI168311 kx_222 rfl (p := 222) (b := 5) (v := v168313) rfl
                  have hF168315 := Fr.wI (p := 222) (b := 5) (v := v168313) hF168312 rfl
                  refine Ar.fall 181 rfl ?_
                  refine At.enter rfl ?_
                  refine q_iinc e168270 (x168259.toInt + 1) rfl (by omega) (fun v168316 hv168316 => ?_)
                  refine r_goto ?_
                  have bv168317 := q_bnd v168316
                  exact ih168265 (2147483647 - v168316.toInt) _ _ ⟨v168316, by first | rfl | omega, hI168314, hF168315, (w_p1 (by decide) (Or.inr rfl) e168266), (w_p1 (by decide) (Or.inr rfl) e168267), (w_p1 (by decide) (Or.inr rfl) e168268), (w_p1 (by decide) (Or.inr rfl) e168269), (w_e1 _ _ _), by omega⟩ ⟨by omega, by omega⟩
                · have c168307_ : v168306.toInt = 0 := en_k_ne_f c168307
                  refine At.enter rfl ?_
                  refine r_iload e168270 ?_
                  refine r_goto ?_
                  refine At.enter rfl ?_
                  refine q_putI (Sh.int hI168298.1 kx_222 rfl) rfl ?_
                  have hI168318 := HI.wI0 hI168298 kx_222 rfl (p := 222) (b := 4) (v := x168259) rfl
                  have hF168319 := Fr.wI (p := 222) (b := 4) (v := x168259) hF168302 rfl
                  refine r_aload_n e168266 ?_
                  refine r_iload_n e168269 ?_
                  refine q_putI (Sh.int hI168318.1 kx_222 rfl) rfl ?_
                  have hI168320 := HI.wI0 hI168318 kx_222 rfl (p := 222) (b := 3) (v := x167150) rfl
                  have hF168321 := Fr.wI (p := 222) (b := 3) (v := x167150) hF168319 rfl
                  refine r_aload_n e168266 ?_
                  refine r_dup rfl ?_
                  refine q_getI (Sh.int hI168320.1 kx_222 rfl) v168306 (((gI_sI_ne (by decide)).trans ((gI_sI_ne (by decide)).trans ((hF168299.1 222 5 (by decide)).trans ((hF168293.1 222 5 (by decide)).trans (hF168282.1 222 5 (by decide)))))).trans hv168306) ?_
                  refine r_iconst 1 rfl ?_
                  refine q_iadd (v168306.toInt + 1) rfl (by omega) (fun v168322 hv168322 => ?_)
                  refine q_putI (Sh.int hI168320.1 kx_222 rfl) rfl ?_
                  have hI168323 := HI.wI0 hI168320 kx_222 rfl (p := 222) (b := 5) (v := v168322) rfl
                  have hF168324 := Fr.wI (p := 222) (b := 5) (v := v168322) hF168321 rfl
                  refine Ar.fall 181 rfl ?_
                  refine At.enter rfl ?_
                  refine q_iinc e168270 (x168259.toInt + 1) rfl (by omega) (fun v168325 hv168325 => ?_)
                  refine r_goto ?_
                  have bv168326 := q_bnd v168325
                  exact ih168265 (2147483647 - v168325.toInt) _ _ ⟨v168325, by first | rfl | omega, hI168323, hF168324, (w_p1 (by decide) (Or.inr rfl) e168266), (w_p1 (by decide) (Or.inr rfl) e168267), (w_p1 (by decide) (Or.inr rfl) e168268), (w_p1 (by decide) (Or.inr rfl) e168269), (w_e1 _ _ _), by omega⟩ ⟨by omega, by omega⟩
            · have c168290_ : v168289.toInt ≠ 0 := en_k_eq_f c168290
              refine At.enter rfl ?_
              refine r_goto ?_
              refine At.enter rfl ?_
              refine q_iinc e168270 (x168259.toInt + 1) rfl (by omega) (fun v168327 hv168327 => ?_)
              refine r_goto ?_
              have bv168328 := q_bnd v168327
              exact ih168265 (2147483647 - v168327.toInt) _ _ ⟨v168327, by first | rfl | omega, hI168281, hF168285, (w_p1 (by decide) (Or.inr rfl) e168266), (w_p1 (by decide) (Or.inr rfl) e168267), (w_p1 (by decide) (Or.inr rfl) e168268), (w_p1 (by decide) (Or.inr rfl) e168269), (w_e1 _ _ _), by omega⟩ ⟨by omega, by omega⟩
  · have c161335_ : x161320.toInt < v161334.toInt := en_i_ge_f c161335
    refine At.enter rfl ?_
    refine r_iload_n e161328 ?_
    refine r_iconst 1 rfl ?_
    refine r_aload_n e161327 ?_
    refine q_getR (Sh.ref hI161322.1 kx_222 rfl) ?_
    refine r_iload_n e161329 ?_
    refine r_iconst 1 rfl ?_
    refine r_callV 41 rfl [.ref 1, .int x161320, .int 1] [.int 1, .int x161319] (Nat.le_of_ble_eq_true rfl) rfl (T_X0_about_1 _ hI161322 x161320 1) ?_
    rintro _ _ ⟨g168329, rfl, hI168330, hF168331, v168332, rfl, hr168333⟩
    refine At.sti ?_
    have hF168334 := Fr.tr hF161323 hF168331 rfl rfl
    have zv168335 : (1 : Int32).toInt = 1 := rfl
    refine At.enter rfl ?_
    refine q_ishlO (fun v168336 hv168336 => ?_)
    refine r_iconst 1 rfl ?_
    refine r_aload_n e161327 ?_
    refine q_getR (Sh.ref hI168330.1 kx_222 rfl) ?_
    refine r_iload_n e161329 ?_
    refine r_iconst 2 rfl ?_
    refine r_callV 52 rfl [.ref 1, .int x161320, .int 2] [.int 1, .int v168336, .int x161319] (Nat.le_of_ble_eq_true rfl) rfl (T_X0_about_1 _ hI168330 x161320 2) ?_
    rintro _ _ ⟨g168337, rfl, hI168338, hF168339, v168340, rfl, hr168341⟩
    refine At.sti ?_
    have hF168342 := Fr.tr hF168334 hF168339 rfl rfl
    have zv168343 : (2 : Int32).toInt = 2 := rfl
    refine At.enter rfl ?_
    refine q_ishlO (fun v168344 hv168344 => ?_)
    refine q_iorO (fun v168345 hv168345 => ?_)
    refine q_iorO (fun v168346 hv168346 => ?_)
    refine r_istore_n _ rfl ?_
    refine q_iinc (w_p1 (by decide) (Or.inr rfl) e161329) (x161320.toInt + 1) rfl (by omega) (fun v168347 hv168347 => ?_)
    refine r_goto ?_
    have bv168348 := q_bnd v168346
    exact ih161326 (8 - v168347.toInt) _ _ ⟨v168346, v168347, by first | rfl | omega, hI168338, hF168342, (w_p1 (by decide) (Or.inr rfl) (w_p1 (by decide) (Or.inr rfl) e161327)), (w_p1 (by decide) (Or.inr rfl) (w_e1 _ _ _)), (w_e1 _ _ _), by omega⟩ ⟨by omega, by omega⟩

def F_X6_told_222 : List (Nat × Nat) := [(185, 3), (204, 16), (204, 18), (222, 2), (222, 3), (222, 4), (222, 5)]
def A_X6_told_222 : List Nat := [205, 206, 207, 208, 209, 210, 211, 212, 213, 214, 215, 216, 218]
set_option maxRecDepth 100000 in
set_option maxHeartbeats 4000000 in
theorem T_X6_told_222 (d : Nat) {N : Nat} {g0 : List en_E} (hI0 : HI g0) (a1 : Int32) : Ev (d + 7) 81 [.ref 222, .int a1] (g0, N) (fun w h' => ∃ g', h' = (g', N) ∧ HI g' ∧ Fr F_X6_told_222 A_X6_told_222 g0 g' ∧ ∃ r : Int32, w = some (.int r) ∧ True) := by
  have hF0 : Fr F_X6_told_222 A_X6_told_222 g0 g0 := Fr.rf
  refine Ev.mk rfl rfl ⟨Nat.le_of_ble_eq_true rfl, Or.inr (q_rc hI0.1 kx_222 rfl)⟩ ?_
  show At _ none _ _ (0, [(0, .ref 222), (1, .int a1)], [], (_, _)) _
  refine At.enter rfl ?_
  refine r_aload_n rfl ?_
  obtain ⟨v41, hv41⟩ : ∃ v, gI g0 222 2 = v := ⟨_, rfl⟩
  refine q_getI (Sh.int hI0.1 kx_222 rfl) v41 hv41 ?_
  refine r_ifs 7 rfl (fun c42 => ?_) (fun c42 => ?_)
  · have c42_ : v41.toInt ≠ 0 := en_k_ne_t c42
    refine At.enter rfl ?_
    refine r_iload_n rfl ?_
    refine r_ifs 20 rfl (fun c43 => ?_) (fun c43 => ?_)
    · have c43_ : a1.toInt ≠ 0 := en_k_ne_t c43
      refine At.enter rfl ?_
      refine r_iload_n rfl ?_
      refine r_iconst 1 rfl ?_
      refine r_ics 32 rfl (fun c44 => ?_) (fun c44 => ?_)
      · have c44_ : a1.toInt ≠ 1 := en_i_ne_t c44
        refine At.enter rfl ?_
        refine r_aload_n rfl ?_
        obtain ⟨v45, hv45⟩ : ∃ v, gI g0 222 5 = v := ⟨_, rfl⟩
        refine q_getI (Sh.int hI0.1 kx_222 rfl) v45 hv45 ?_
        refine Ar.fall 43 rfl ?_
        refine At.enter rfl ?_
        refine r_ireti ?_
        exact ⟨_, rfl, hI0, hF0, _, rfl, trivial⟩
      · have c44_ : a1.toInt = 1 := en_i_ne_f c44
        refine At.enter rfl ?_
        refine r_aload_n rfl ?_
        obtain ⟨v46, hv46⟩ : ∃ v, gI g0 222 4 = v := ⟨_, rfl⟩
        refine q_getI (Sh.int hI0.1 kx_222 rfl) v46 hv46 ?_
        refine r_goto ?_
        refine At.enter rfl ?_
        refine r_ireti ?_
        exact ⟨_, rfl, hI0, hF0, _, rfl, trivial⟩
    · have c43_ : a1.toInt = 0 := en_k_ne_f c43
      refine At.enter rfl ?_
      refine r_aload_n rfl ?_
      obtain ⟨v47, hv47⟩ : ∃ v, gI g0 222 3 = v := ⟨_, rfl⟩
      refine q_getI (Sh.int hI0.1 kx_222 rfl) v47 hv47 ?_
      refine r_goto ?_
      refine At.enter rfl ?_
      refine r_ireti ?_
      exact ⟨_, rfl, hI0, hF0, _, rfl, trivial⟩
  · have c42_ : v41.toInt = 0 := en_k_ne_f c42
    refine At.enter rfl ?_
    refine r_aload_n rfl ?_
    refine r_iconst 1 rfl ?_
    refine q_putI (Sh.int hI0.1 kx_222 rfl) rfl ?_
    have hI48 := HI.wI0 hI0 kx_222 rfl (p := 222) (b := 2) (v := 1) rfl
    have hF49 := Fr.wI (p := 222) (b := 2) (v := 1) hF0 rfl
    refine r_aload_n rfl ?_
    refine r_callV 16 rfl [.ref 222] [] (Nat.le_of_ble_eq_true rfl) rfl (T_X6_search_222 _ hI48) ?_
    rintro _ _ ⟨g50, rfl, hI51, hF52, rfl⟩
    refine At.stn ?_
    have hF55 := Fr.tr hF49 hF52 rfl rfl
    refine At.enter rfl ?_
    refine r_iload_n rfl ?_
    refine r_ifs 20 rfl (fun c56 => ?_) (fun c56 => ?_)
    · have c56_ : a1.toInt ≠ 0 := en_k_ne_t c56
      refine At.enter rfl ?_
      refine r_iload_n rfl ?_
      refine r_iconst 1 rfl ?_
      refine r_ics 32 rfl (fun c57 => ?_) (fun c57 => ?_)
      · have c57_ : a1.toInt ≠ 1 := en_i_ne_t c57
        refine At.enter rfl ?_
        refine r_aload_n rfl ?_
        obtain ⟨v58, hv58⟩ : ∃ v, gI g50 222 5 = v := ⟨_, rfl⟩
        refine q_getI (Sh.int hI51.1 kx_222 rfl) v58 hv58 ?_
        refine Ar.fall 43 rfl ?_
        refine At.enter rfl ?_
        refine r_ireti ?_
        exact ⟨_, rfl, hI51, hF55, _, rfl, trivial⟩
      · have c57_ : a1.toInt = 1 := en_i_ne_f c57
        refine At.enter rfl ?_
        refine r_aload_n rfl ?_
        obtain ⟨v59, hv59⟩ : ∃ v, gI g50 222 4 = v := ⟨_, rfl⟩
        refine q_getI (Sh.int hI51.1 kx_222 rfl) v59 hv59 ?_
        refine r_goto ?_
        refine At.enter rfl ?_
        refine r_ireti ?_
        exact ⟨_, rfl, hI51, hF55, _, rfl, trivial⟩
    · have c56_ : a1.toInt = 0 := en_k_ne_f c56
      refine At.enter rfl ?_
      refine r_aload_n rfl ?_
      obtain ⟨v60, hv60⟩ : ∃ v, gI g50 222 3 = v := ⟨_, rfl⟩
      refine q_getI (Sh.int hI51.1 kx_222 rfl) v60 hv60 ?_
      refine r_goto ?_
      refine At.enter rfl ?_
      refine r_ireti ?_
      exact ⟨_, rfl, hI51, hF55, _, rfl, trivial⟩

def F_X7_found_220 : List (Nat × Nat) := [(220, 4)]
def A_X7_found_220 : List Nat := [221]
set_option maxRecDepth 100000 in
set_option maxHeartbeats 4000000 in
theorem T_X7_found_220 (d : Nat) {N : Nat} {g0 : List en_E} (hI0 : HI g0) (a1 : Int32) (a2 : Int32) (a3 : Int32) (a4 : Int32) (a5 : Int32) (h_a5 : 0 ≤ a5.toInt ∧ a5.toInt ≤ 3) : Ev (d + 1) 91 [.ref 220, .int a1, .int a2, .int a3, .int a4, .int a5] (g0, N) (fun w h' => ∃ g', h' = (g', N) ∧ HI g' ∧ Fr F_X7_found_220 A_X7_found_220 g0 g' ∧ w = none) := by
  have hF0 : Fr F_X7_found_220 A_X7_found_220 g0 g0 := Fr.rf
  refine Ev.mk rfl rfl ⟨Nat.le_of_ble_eq_true rfl, Or.inr (q_rc hI0.1 kx_220 rfl)⟩ ?_
  show At _ none _ _ (0, [(0, .ref 220), (1, .int a1), (2, .int a2), (3, .int a3), (4, .int a4), (5, .int a5)], [], (_, _)) _
  refine At.enter rfl ?_
  refine r_aload_n rfl ?_
  obtain ⟨v33, hv33⟩ : ∃ v, gI g0 220 4 = v := ⟨_, rfl⟩
  refine q_getI (Sh.int hI0.1 kx_220 rfl) v33 hv33 ?_
  refine r_ifs 7 rfl (fun c34 => ?_) (fun c34 => ?_)
  · have c34_ : v33.toInt ≠ 0 := en_k_ne_t c34
    refine At.enter rfl ?_
    refine r_aload_n rfl ?_
    refine r_dup rfl ?_
    refine q_getI (Sh.int hI0.1 kx_220 rfl) v33 hv33 ?_
    refine r_iload rfl ?_
    refine q_iaddO (fun v35 _ => ?_)
    refine q_putI (Sh.int hI0.1 kx_220 rfl) rfl ?_
    have hI36 := HI.wI0 hI0 kx_220 rfl (p := 220) (b := 4) (v := v35) rfl
    have hF37 := Fr.wI (p := 220) (b := 4) (v := v35) hF0 rfl
    refine r_vret ?_
    exact ⟨_, rfl, hI36, hF37, rfl⟩
  · have c34_ : v33.toInt = 0 := en_k_ne_f c34
    refine At.enter rfl ?_
    refine r_aload_n rfl ?_
    refine q_getR (Sh.ref hI0.1 kx_220 rfl) ?_
    refine r_iconst 0 rfl ?_
    refine r_iload_n rfl ?_
    refine q_iast (Sh.arr hI0.1 ka_221) (0) rfl (by decide) ?_
    have hI38 := HI.wA0 hI0 ka_221 (p := 221) rfl rfl (0) (a1)
    have hF39 := Fr.wA (p := 221) (j := 0) (v := a1) hF0 rfl
    refine r_aload_n rfl ?_
    refine q_getR (Sh.ref hI38.1 kx_220 rfl) ?_
    refine r_iconst 1 rfl ?_
    refine r_iload_n rfl ?_
    refine q_iast (Sh.arr hI38.1 ka_221) (1) rfl (by decide) ?_
    have hI40 := HI.wA0 hI38 ka_221 (p := 221) rfl rfl (1) (a2)
    have hF41 := Fr.wA (p := 221) (j := 1) (v := a2) hF39 rfl
    refine r_aload_n rfl ?_
    refine q_getR (Sh.ref hI40.1 kx_220 rfl) ?_
    refine r_iconst 2 rfl ?_
    refine r_iload_n rfl ?_
    refine q_iast (Sh.arr hI40.1 ka_221) (2) rfl (by decide) ?_
    have hI42 := HI.wA0 hI40 ka_221 (p := 221) rfl rfl (2) (a3)
    have hF43 := Fr.wA (p := 221) (j := 2) (v := a3) hF41 rfl
    refine r_aload_n rfl ?_
    refine q_getR (Sh.ref hI42.1 kx_220 rfl) ?_
    refine r_iconst 3 rfl ?_
    refine r_iload rfl ?_
    refine q_iast (Sh.arr hI42.1 ka_221) (3) rfl (by decide) ?_
    have hI44 := HI.wA0 hI42 ka_221 (p := 221) rfl rfl (3) (a4)
    have hF45 := Fr.wA (p := 221) (j := 3) (v := a4) hF43 rfl
    refine Ar.fall 36 rfl ?_
    refine At.enter rfl ?_
    refine r_aload_n rfl ?_
    refine r_dup rfl ?_
    refine q_getI (Sh.int hI44.1 kx_220 rfl) v33 (((gI_sW).trans ((gI_sW).trans ((gI_sW).trans (gI_sW)))).trans hv33) ?_
    refine r_iload rfl ?_
    refine q_iadd (v33.toInt + a5.toInt) rfl (by omega) (fun v46 hv46 => ?_)
    refine q_putI (Sh.int hI44.1 kx_220 rfl) rfl ?_
    have hI47 := HI.wI0 hI44 kx_220 rfl (p := 220) (b := 4) (v := v46) rfl
    have hF48 := Fr.wI (p := 220) (b := 4) (v := v46) hF45 rfl
    refine r_vret ?_
    exact ⟨_, rfl, hI47, hF48, rfl⟩

def F_X7_change_220 : List (Nat × Nat) := []
def A_X7_change_220 : List Nat := [205, 206]
set_option maxRecDepth 100000 in
set_option maxHeartbeats 4000000 in
theorem T_X7_change_220 (d : Nat) {N : Nat} {g0 : List en_E} (hI0 : HI g0) (a1 : Int32) (h_a1 : 0 ≤ a1.toInt ∧ a1.toInt ≤ 11) (a2 : Int32) (h_a2 : 0 ≤ a2.toInt ∧ a2.toInt ≤ 11) : Ev (d + 2) 90 [.ref 220, .int a1, .int a2] (g0, N) (fun w h' => ∃ g', h' = (g', N) ∧ HI g' ∧ Fr F_X7_change_220 A_X7_change_220 g0 g' ∧ w = none) := by
  have hF0 : Fr F_X7_change_220 A_X7_change_220 g0 g0 := Fr.rf
  refine Ev.mk rfl rfl ⟨Nat.le_of_ble_eq_true rfl, Or.inr (q_rc hI0.1 kx_220 rfl)⟩ ?_
  show At _ none _ _ (0, [(0, .ref 220), (1, .int a1), (2, .int a2)], [], (_, _)) _
  refine At.enter rfl ?_
  refine r_aload_n rfl ?_
  refine q_getR (Sh.ref hI0.1 kx_220 rfl) ?_
  refine q_getR (Sh.ref hI0.1 kx_204 rfl) ?_
  refine r_iload_n rfl ?_
  refine r_iload_n rfl ?_
  refine q_inlS 12 rfl [.ref 205, .int a1, .int a2] [] (Nat.le_of_ble_eq_true rfl) rfl ?_
  refine Ev.mk rfl rfl ⟨Nat.le_of_ble_eq_true rfl, Or.inl rfl⟩ ?_
  show At _ none _ _ (0, [(0, .ref 205), (1, .int a1), (2, .int a2)], [], (_, _)) _
  refine At.enter rfl ?_
  refine r_aload_n rfl ?_
  refine r_iload_n rfl ?_
  obtain ⟨v25, hv25⟩ : ∃ v, eA g0 205 a1.toInt = v := ⟨_, rfl⟩
  refine q_iald (Sh.arr hI0.1 ka_205) a1.toInt rfl (by omega) v25 hv25 ?_
  refine r_istore_n ([(3, .int v25), (0, .ref 205), (1, .int a1), (2, .int a2)]) rfl ?_
  refine r_aload_n rfl ?_
  refine r_iload_n rfl ?_
  refine r_aload_n rfl ?_
  refine r_iload_n rfl ?_
  obtain ⟨v26, hv26⟩ : ∃ v, eA g0 205 a2.toInt = v := ⟨_, rfl⟩
  refine q_iald (Sh.arr hI0.1 ka_205) a2.toInt rfl (by omega) v26 hv26 ?_
  refine q_iast (Sh.arr hI0.1 ka_205) (a1.toInt) rfl (by omega) ?_
  have hI27 := HI.wA0 hI0 ka_205 (p := 205) rfl rfl (a1.toInt) (v26)
  have hF28 := Fr.wA (p := 205) (j := a1.toInt) (v := v26) hF0 rfl
  refine r_aload_n rfl ?_
  refine r_iload_n rfl ?_
  refine r_iload_n rfl ?_
  refine q_iast (Sh.arr hI27.1 ka_205) (a2.toInt) rfl (by omega) ?_
  have hI29 := HI.wA0 hI27 ka_205 (p := 205) rfl rfl (a2.toInt) (v25)
  have hF30 := Fr.wA (p := 205) (j := a2.toInt) (v := v25) hF28 rfl
  refine q_vret ?_
  refine At.enter rfl ?_
  refine r_aload_n rfl ?_
  refine q_getR (Sh.ref hI29.1 kx_220 rfl) ?_
  refine q_getR (Sh.ref hI29.1 kx_204 rfl) ?_
  refine r_iload_n rfl ?_
  refine r_iload_n rfl ?_
  refine q_inlS 24 rfl [.ref 206, .int a1, .int a2] [] (Nat.le_of_ble_eq_true rfl) rfl ?_
  refine Ev.mk rfl rfl ⟨Nat.le_of_ble_eq_true rfl, Or.inl rfl⟩ ?_
  show At _ none _ _ (0, [(0, .ref 206), (1, .int a1), (2, .int a2)], [], (_, _)) _
  refine At.enter rfl ?_
  refine r_aload_n rfl ?_
  refine r_iload_n rfl ?_
  obtain ⟨v31, hv31⟩ : ∃ v, eA g0 206 a1.toInt = v := ⟨_, rfl⟩
  refine q_iald (Sh.arr hI29.1 ka_206) a1.toInt rfl (by omega) v31 ((eA_c ((gA_sA_ne (by decide)).trans (gA_sA_ne (by decide)))).trans hv31) ?_
  refine r_istore_n ([(3, .int v31), (0, .ref 206), (1, .int a1), (2, .int a2)]) rfl ?_
  refine r_aload_n rfl ?_
  refine r_iload_n rfl ?_
  refine r_aload_n rfl ?_
  refine r_iload_n rfl ?_
  obtain ⟨v32, hv32⟩ : ∃ v, eA g0 206 a2.toInt = v := ⟨_, rfl⟩
  refine q_iald (Sh.arr hI29.1 ka_206) a2.toInt rfl (by omega) v32 ((eA_c ((gA_sA_ne (by decide)).trans (gA_sA_ne (by decide)))).trans hv32) ?_
  refine q_iast (Sh.arr hI29.1 ka_206) (a1.toInt) rfl (by omega) ?_
  have hI33 := HI.wA0 hI29 ka_206 (p := 206) rfl rfl (a1.toInt) (v32)
  have hF34 := Fr.wA (p := 206) (j := a1.toInt) (v := v32) hF30 rfl
  refine r_aload_n rfl ?_
  refine r_iload_n rfl ?_
  refine r_iload_n rfl ?_
  refine q_iast (Sh.arr hI33.1 ka_206) (a2.toInt) rfl (by omega) ?_
  have hI35 := HI.wA0 hI33 ka_206 (p := 206) rfl rfl (a2.toInt) (v31)
  have hF36 := Fr.wA (p := 206) (j := a2.toInt) (v := v31) hF34 rfl
  refine q_vret ?_
  refine At.enter rfl ?_
  refine r_vret ?_
  exact ⟨_, rfl, hI35, hF36, rfl⟩

def F_X7_rowsLike : List (Nat × Nat) := []
def A_X7_rowsLike : List Nat := []
set_option maxRecDepth 100000 in
set_option maxHeartbeats 4000000 in
theorem T_X7_rowsLike (d : Nat) {N : Nat} {g0 : List en_E} (hI0 : HI g0) (a0 : Int32) (a1 : Int32) (a2 : Int32) (a3 : Int32) : Ev (d + 1) 89 [.int a0, .int a1, .int a2, .int a3] (g0, N) (fun w h' => ∃ g', h' = (g', N) ∧ HI g' ∧ Fr F_X7_rowsLike A_X7_rowsLike g0 g' ∧ ∃ r : Int32, w = some (.int r) ∧ (0 ≤ r.toInt ∧ r.toInt ≤ 3)) := by
  have hF0 : Fr F_X7_rowsLike A_X7_rowsLike g0 g0 := Fr.rf
  refine Ev.mk rfl rfl ⟨Nat.le_of_ble_eq_true rfl, Or.inl rfl⟩ ?_
  show At _ none _ _ (0, [(0, .int a0), (1, .int a1), (2, .int a2), (3, .int a3)], [], (_, _)) _
  refine At.enter rfl ?_
  refine r_iload_n rfl ?_
  refine r_iload_n rfl ?_
  refine r_ics 5 rfl (fun c19 => ?_) (fun c19 => ?_)
  · have c19_ : a2.toInt ≠ a0.toInt := en_i_ne_t c19
    refine At.enter rfl ?_
    refine r_iload_n rfl ?_
    refine r_iload_n rfl ?_
    refine r_ics 21 rfl (fun c20 => ?_) (fun c20 => ?_)
    · have c20_ : a2.toInt ≠ a1.toInt := en_i_ne_t c20
      refine At.enter rfl ?_
      refine r_iload_n rfl ?_
      refine r_iload_n rfl ?_
      refine r_ics 28 rfl (fun c21 => ?_) (fun c21 => ?_)
      · have c21_ : a3.toInt ≠ a1.toInt := en_i_ne_t c21
        refine At.enter rfl ?_
        refine r_iload_n rfl ?_
        refine r_iload_n rfl ?_
        have bv23 := q_bnd a2
        have bv24 := q_bnd a0
        refine r_ics 37 rfl (fun c22 => ?_) (fun c22 => ?_)
        · have c22_ : a2.toInt ≤ a0.toInt := en_i_le_t c22
          refine At.enter rfl ?_
          refine r_iconst 0 rfl ?_
          refine Ar.fall 42 rfl ?_
          refine At.enter rfl ?_
          refine r_ireti ?_
          exact ⟨_, rfl, hI0, hF0, _, rfl, by decide⟩
        · have c22_ : a2.toInt > a0.toInt := en_i_le_f c22
          refine At.enter rfl ?_
          refine r_iconst 2 rfl ?_
          refine r_goto ?_
          refine At.enter rfl ?_
          refine r_ireti ?_
          exact ⟨_, rfl, hI0, hF0, _, rfl, by decide⟩
      · have c21_ : a3.toInt = a1.toInt := en_i_ne_f c21
        refine At.enter rfl ?_
        refine r_iconst 0 rfl ?_
        refine r_goto ?_
        refine At.enter rfl ?_
        refine r_ireti ?_
        exact ⟨_, rfl, hI0, hF0, _, rfl, by decide⟩
    · have c20_ : a2.toInt = a1.toInt := en_i_ne_f c20
      refine At.enter rfl ?_
      refine r_iconst 3 rfl ?_
      refine r_ireti ?_
      exact ⟨_, rfl, hI0, hF0, _, rfl, by decide⟩
  · have c19_ : a2.toInt = a0.toInt := en_i_ne_f c19
    refine At.enter rfl ?_
    refine r_iload_n rfl ?_
    refine r_iload_n rfl ?_
    have bv26 := q_bnd a3
    have bv27 := q_bnd a1
    refine r_ics 10 rfl (fun c25 => ?_) (fun c25 => ?_)
    · have c25_ : a3.toInt ≤ a1.toInt := en_i_le_t c25
      refine At.enter rfl ?_
      refine r_iconst 0 rfl ?_
      refine Ar.fall 15 rfl ?_
      refine At.enter rfl ?_
      refine r_ireti ?_
      exact ⟨_, rfl, hI0, hF0, _, rfl, by decide⟩
    · have c25_ : a3.toInt > a1.toInt := en_i_le_f c25
      refine At.enter rfl ?_
      refine r_iconst 3 rfl ?_
      refine r_goto ?_
      refine At.enter rfl ?_
      refine r_ireti ?_
      exact ⟨_, rfl, hI0, hF0, _, rfl, by decide⟩

def F_X7_tryNone_220 : List (Nat × Nat) := [(185, 3), (204, 16), (204, 18), (220, 4)]
def A_X7_tryNone_220 : List Nat := [210, 211, 212, 213, 214, 215, 216, 218, 221]
set_option maxRecDepth 100000 in
set_option maxHeartbeats 4000000 in
theorem T_X7_tryNone_220 (d : Nat) {N : Nat} {g0 : List en_E} (hI0 : HI g0) : Ev (d + 6) 86 [.ref 220] (g0, N) (fun w h' => ∃ g', h' = (g', N) ∧ HI g' ∧ Fr F_X7_tryNone_220 A_X7_tryNone_220 g0 g' ∧ w = none) := by
  have hF0 : Fr F_X7_tryNone_220 A_X7_tryNone_220 g0 g0 := Fr.rf
  refine Ev.mk rfl rfl ⟨Nat.le_of_ble_eq_true rfl, Or.inr (q_rc hI0.1 kx_220 rfl)⟩ ?_
  show At _ none _ _ (0, [(0, .ref 220)], [], (_, _)) _
  refine At.enter rfl ?_
  refine r_aload_n rfl ?_
  refine q_getR (Sh.ref hI0.1 kx_220 rfl) ?_
  refine r_aload_n rfl ?_
  obtain ⟨v31, hv31⟩ : ∃ v, gI g0 220 2 = v := ⟨_, rfl⟩
  refine q_getI (Sh.int hI0.1 kx_220 rfl) v31 hv31 ?_
  refine r_aload_n rfl ?_
  refine q_getR (Sh.ref hI0.1 kx_220 rfl) ?_
  obtain ⟨v32, hv32⟩ : ∃ v, gI g0 1 10 = v := ⟨_, rfl⟩
  refine q_getI (Sh.int hI0.1 kx_1 rfl) v32 hv32 ?_
  refine r_callV 18 rfl [.ref 204, .int v31, .int v32] [] (Nat.le_of_ble_eq_true rfl) rfl (T_X1_comesBy_204 _ hI0 v31 v32) ?_
  rintro _ _ ⟨g33, rfl, hI34, hF35, v36, rfl, hr37⟩
  refine At.sti ?_
  have hF38 := Fr.tr hF0 hF35 rfl rfl
  refine At.enter rfl ?_
  refine r_ifs 21 rfl (fun c39 => ?_) (fun c39 => ?_)
  · have c39_ : v36.toInt = 0 := en_k_eq_t c39
    refine At.enter rfl ?_
    refine r_vret ?_
    exact ⟨_, rfl, hI34, hF38, rfl⟩
  · have c39_ : v36.toInt ≠ 0 := en_k_eq_f c39
    refine At.enter rfl ?_
    refine r_aload_n rfl ?_
    refine r_iconst (-1) rfl ?_
    refine r_iconst (-1) rfl ?_
    refine r_iconst (-1) rfl ?_
    refine r_iconst (-1) rfl ?_
    refine r_iconst 1 rfl ?_
    refine r_callV 30 rfl [.ref 220, .int (-1), .int (-1), .int (-1), .int (-1), .int 1] [] (Nat.le_of_ble_eq_true rfl) rfl (T_X7_found_220 _ hI34 (-1) (-1) (-1) (-1) 1 (by decide)) ?_
    rintro _ _ ⟨g40, rfl, hI41, hF42, rfl⟩
    refine At.stn ?_
    have hF45 := Fr.tr hF38 hF42 rfl rfl
    refine At.enter rfl ?_
    refine r_vret ?_
    exact ⟨_, rfl, hI41, hF45, rfl⟩

def F_X7_tryOne_220 : List (Nat × Nat) := [(185, 3), (204, 16), (204, 18), (220, 4)]
def A_X7_tryOne_220 : List Nat := [205, 206, 210, 211, 212, 213, 214, 215, 216, 218, 221]
set_option maxRecDepth 100000 in
set_option maxHeartbeats 4000000 in
theorem T_X7_tryOne_220 (d : Nat) {N : Nat} {g0 : List en_E} (hI0 : HI g0) : Ev (d + 6) 87 [.ref 220] (g0, N) (fun w h' => ∃ g', h' = (g', N) ∧ HI g' ∧ Fr F_X7_tryOne_220 A_X7_tryOne_220 g0 g' ∧ w = none) := by
  have hF0 : Fr F_X7_tryOne_220 A_X7_tryOne_220 g0 g0 := Fr.rf
  refine Ev.mk rfl rfl ⟨Nat.le_of_ble_eq_true rfl, Or.inr (q_rc hI0.1 kx_220 rfl)⟩ ?_
  show At _ none _ _ (0, [(0, .ref 220)], [], (_, _)) _
  refine At.enter rfl ?_
  refine r_iconst 0 rfl ?_
  refine r_istore_n ([(1, .int 0), (0, .ref 220)]) rfl ?_
  refine Ar.fall 2 rfl ?_
  have z_6544 : (0 : Int32).toInt = 0 := rfl
  refine w_loopI (fun n_ l_ g_ => ∃ x6534 : Int32, n_ = 12 - x6534.toInt ∧ HI g_ ∧ Fr F_X7_tryOne_220 A_X7_tryOne_220 g0 g_ ∧ en_get 0 l_ = some (.ref 220) ∧ en_get 1 l_ = some (.int x6534) ∧ (0 ≤ x6534.toInt ∧ x6534.toInt ≤ 12)) ?_ (12 - 0) ⟨0, by first | rfl | omega, hI0, hF0, rfl, rfl, by decide⟩
  rintro n6539 l6538 g6535 ⟨x6534, hm6545, hI6536, hF6537, e6541, e6542, r6543⟩ ih6540
  refine At.enter rfl ?_
  refine r_iload_n e6542 ?_
  refine r_aload_n e6541 ?_
  refine q_getR (Sh.ref hI6536.1 kx_220 rfl) ?_
  obtain ⟨v6546, hv6546⟩ : ∃ v, gI g0 1 0 = v := ⟨_, rfl⟩
  have rv6546 := RgF.at hI0.2.1 (p := 1) (b := 0) rfl
  rw [hv6546] at rv6546
  dsimp only at rv6546
  refine q_getI (Sh.int hI6536.1 kx_1 rfl) v6546 ((hF6537.1 1 0 (by decide)).trans hv6546) ?_
  have bv6548 := q_bnd x6534
  have bv6549 := q_bnd v6546
  refine r_ics 13 rfl (fun c6547 => ?_) (fun c6547 => ?_)
  · have c6547_ : x6534.toInt ≥ v6546.toInt := en_i_ge_t c6547
    refine At.enter rfl ?_
    refine r_vret ?_
    exact ⟨_, rfl, hI6536, hF6537, rfl⟩
  · have c6547_ : x6534.toInt < v6546.toInt := en_i_ge_f c6547
    refine At.enter rfl ?_
    refine r_iload_n e6542 ?_
    refine r_iconst 1 rfl ?_
    refine q_iadd (x6534.toInt + 1) rfl (by omega) (fun v6550 hv6550 => ?_)
    refine r_istore_n _ rfl ?_
    refine Ar.fall 17 rfl ?_
    refine w_loopI (fun n_ l_ g_ => ∃ x6591 : Int32, n_ = 12 - x6591.toInt ∧ HI g_ ∧ Fr F_X7_tryOne_220 A_X7_tryOne_220 g0 g_ ∧ en_get 0 l_ = some (.ref 220) ∧ en_get 1 l_ = some (.int x6534) ∧ en_get 2 l_ = some (.int x6591) ∧ (1 ≤ x6591.toInt ∧ x6591.toInt ≤ 12)) ?_ (12 - v6550.toInt) ⟨v6550, by first | rfl | omega, hI6536, hF6537, (w_p1 (by decide) (Or.inr rfl) e6541), (w_p1 (by decide) (Or.inr rfl) e6542), (w_e1 _ _ _), by omega⟩
    rintro n6596 l6595 g6592 ⟨x6591, hm6602, hI6593, hF6594, e6598, e6599, e6600, r6601⟩ ih6597
    refine At.enter rfl ?_
    refine r_iload_n e6600 ?_
    refine r_aload_n e6598 ?_
    refine q_getR (Sh.ref hI6593.1 kx_220 rfl) ?_
    refine q_getI (Sh.int hI6593.1 kx_1 rfl) v6546 ((hF6594.1 1 0 (by decide)).trans hv6546) ?_
    have bv6604 := q_bnd x6591
    refine r_ics 28 rfl (fun c6603 => ?_) (fun c6603 => ?_)
    · have c6603_ : x6591.toInt ≥ v6546.toInt := en_i_ge_t c6603
      refine At.enter rfl ?_
      refine q_iinc e6599 (x6534.toInt + 1) rfl (by omega) (fun v6605 hv6605 => ?_)
      refine r_goto ?_
      exact ih6540 (12 - v6605.toInt) _ _ ⟨v6605, by first | rfl | omega, hI6593, hF6594, (w_p1 (by decide) (Or.inr rfl) e6598), (w_e1 _ _ _), by omega⟩ ⟨by omega, by omega⟩
    · have c6603_ : x6591.toInt < v6546.toInt := en_i_ge_f c6603
      refine At.enter rfl ?_
      refine r_aload_n e6598 ?_
      refine r_iload_n e6599 ?_
      refine r_iload_n e6600 ?_
      refine r_callV 34 rfl [.ref 220, .int x6534, .int x6591] [] (Nat.le_of_ble_eq_true rfl) rfl (T_X7_change_220 _ hI6593 x6534 (by omega) x6591 (by omega)) ?_
      rintro _ _ ⟨g6606, rfl, hI6607, hF6608, rfl⟩
      refine At.stn ?_
      have hF6611 := Fr.tr hF6594 hF6608 rfl rfl
      refine At.enter rfl ?_
      refine r_aload_n e6598 ?_
      refine q_getR (Sh.ref hI6607.1 kx_220 rfl) ?_
      refine r_aload_n e6598 ?_
      obtain ⟨v6612, hv6612⟩ : ∃ v, gI g0 220 2 = v := ⟨_, rfl⟩
      refine q_getI (Sh.int hI6607.1 kx_220 rfl) v6612 (((hF6608.1 220 2 (by decide)).trans (hF6594.1 220 2 (by decide))).trans hv6612) ?_
      refine r_aload_n e6598 ?_
      refine q_getR (Sh.ref hI6607.1 kx_220 rfl) ?_
      obtain ⟨v6613, hv6613⟩ : ∃ v, gI g0 1 10 = v := ⟨_, rfl⟩
      refine q_getI (Sh.int hI6607.1 kx_1 rfl) v6613 (((hF6608.1 1 10 (by decide)).trans (hF6594.1 1 10 (by decide))).trans hv6613) ?_
      refine r_callV 52 rfl [.ref 204, .int v6612, .int v6613] [] (Nat.le_of_ble_eq_true rfl) rfl (T_X1_comesBy_204 _ hI6607 v6612 v6613) ?_
      rintro _ _ ⟨g6614, rfl, hI6615, hF6616, v6617, rfl, hr6618⟩
      refine At.sti ?_
      have hF6619 := Fr.tr hF6611 hF6616 rfl rfl
      refine At.enter rfl ?_
      refine r_ifs 55 rfl (fun c6620 => ?_) (fun c6620 => ?_)
      · have c6620_ : v6617.toInt = 0 := en_k_eq_t c6620
        refine At.enter rfl ?_
        refine r_aload_n e6598 ?_
        refine r_iload_n e6599 ?_
        refine r_iload_n e6600 ?_
        refine r_callV 70 rfl [.ref 220, .int x6534, .int x6591] [] (Nat.le_of_ble_eq_true rfl) rfl (T_X7_change_220 _ hI6615 x6534 (by omega) x6591 (by omega)) ?_
        rintro _ _ ⟨g6621, rfl, hI6622, hF6623, rfl⟩
        refine At.stn ?_
        have hF6626 := Fr.tr hF6619 hF6623 rfl rfl
        refine At.enter rfl ?_
        refine q_iinc e6600 (x6591.toInt + 1) rfl (by omega) (fun v6627 hv6627 => ?_)
        refine r_goto ?_
        exact ih6597 (12 - v6627.toInt) _ _ ⟨v6627, by first | rfl | omega, hI6622, hF6626, (w_p1 (by decide) (Or.inr rfl) e6598), (w_p1 (by decide) (Or.inr rfl) e6599), (w_e1 _ _ _), by omega⟩ ⟨by omega, by omega⟩
      · have c6620_ : v6617.toInt ≠ 0 := en_k_eq_f c6620
        refine At.enter rfl ?_
        refine r_aload_n e6598 ?_
        refine r_iload_n e6599 ?_
        refine r_iload_n e6600 ?_
        refine r_iconst (-1) rfl ?_
        refine r_iconst (-1) rfl ?_
        refine r_iconst 1 rfl ?_
        refine r_callV 64 rfl [.ref 220, .int x6534, .int x6591, .int (-1), .int (-1), .int 1] [] (Nat.le_of_ble_eq_true rfl) rfl (T_X7_found_220 _ hI6615 x6534 x6591 (-1) (-1) 1 (by decide)) ?_
        rintro _ _ ⟨g6628, rfl, hI6629, hF6630, rfl⟩
        refine At.stn ?_
        have hF6633 := Fr.tr hF6619 hF6630 rfl rfl
        refine At.enter rfl ?_
        refine r_aload_n e6598 ?_
        refine r_iload_n e6599 ?_
        refine r_iload_n e6600 ?_
        refine r_callV 70 rfl [.ref 220, .int x6534, .int x6591] [] (Nat.le_of_ble_eq_true rfl) rfl (T_X7_change_220 _ hI6629 x6534 (by omega) x6591 (by omega)) ?_
        rintro _ _ ⟨g6634, rfl, hI6635, hF6636, rfl⟩
        refine At.stn ?_
        have hF6639 := Fr.tr hF6633 hF6636 rfl rfl
        refine At.enter rfl ?_
        refine q_iinc e6600 (x6591.toInt + 1) rfl (by omega) (fun v6640 hv6640 => ?_)
        refine r_goto ?_
        exact ih6597 (12 - v6640.toInt) _ _ ⟨v6640, by first | rfl | omega, hI6635, hF6639, (w_p1 (by decide) (Or.inr rfl) e6598), (w_p1 (by decide) (Or.inr rfl) e6599), (w_e1 _ _ _), by omega⟩ ⟨by omega, by omega⟩

def F_X7_tryTwo_220 : List (Nat × Nat) := [(185, 3), (204, 16), (204, 18), (220, 4)]
def A_X7_tryTwo_220 : List Nat := [205, 206, 210, 211, 212, 213, 214, 215, 216, 218, 221]
set_option maxRecDepth 100000 in
set_option maxHeartbeats 4000000 in
theorem T_X7_tryTwo_220 (d : Nat) {N : Nat} {g0 : List en_E} (hI0 : HI g0) : Ev (d + 6) 88 [.ref 220] (g0, N) (fun w h' => ∃ g', h' = (g', N) ∧ HI g' ∧ Fr F_X7_tryTwo_220 A_X7_tryTwo_220 g0 g' ∧ w = none) := by
  have hF0 : Fr F_X7_tryTwo_220 A_X7_tryTwo_220 g0 g0 := Fr.rf
  refine Ev.mk rfl rfl ⟨Nat.le_of_ble_eq_true rfl, Or.inr (q_rc hI0.1 kx_220 rfl)⟩ ?_
  show At _ none _ _ (0, [(0, .ref 220)], [], (_, _)) _
  refine At.enter rfl ?_
  refine r_iconst 0 rfl ?_
  refine r_istore_n ([(1, .int 0), (0, .ref 220)]) rfl ?_
  refine Ar.fall 2 rfl ?_
  have z_260994 : (0 : Int32).toInt = 0 := rfl
  refine w_loopI (fun n_ l_ g_ => ∃ x260984 : Int32, n_ = 12 - x260984.toInt ∧ HI g_ ∧ Fr F_X7_tryTwo_220 A_X7_tryTwo_220 g0 g_ ∧ en_get 0 l_ = some (.ref 220) ∧ en_get 1 l_ = some (.int x260984) ∧ (0 ≤ x260984.toInt ∧ x260984.toInt ≤ 12)) ?_ (12 - 0) ⟨0, by first | rfl | omega, hI0, hF0, rfl, rfl, by decide⟩
  rintro n260989 l260988 g260985 ⟨x260984, hm260995, hI260986, hF260987, e260991, e260992, r260993⟩ ih260990
  refine At.enter rfl ?_
  refine r_iload_n e260992 ?_
  refine r_aload_n e260991 ?_
  refine q_getR (Sh.ref hI260986.1 kx_220 rfl) ?_
  obtain ⟨v260996, hv260996⟩ : ∃ v, gI g0 1 0 = v := ⟨_, rfl⟩
  have rv260996 := RgF.at hI0.2.1 (p := 1) (b := 0) rfl
  rw [hv260996] at rv260996
  dsimp only at rv260996
  refine q_getI (Sh.int hI260986.1 kx_1 rfl) v260996 ((hF260987.1 1 0 (by decide)).trans hv260996) ?_
  have bv260998 := q_bnd x260984
  have bv260999 := q_bnd v260996
  refine r_ics 13 rfl (fun c260997 => ?_) (fun c260997 => ?_)
  · have c260997_ : x260984.toInt ≥ v260996.toInt := en_i_ge_t c260997
    refine At.enter rfl ?_
    refine r_vret ?_
    exact ⟨_, rfl, hI260986, hF260987, rfl⟩
  · have c260997_ : x260984.toInt < v260996.toInt := en_i_ge_f c260997
    refine At.enter rfl ?_
    refine r_iload_n e260992 ?_
    refine r_iconst 1 rfl ?_
    refine q_iadd (x260984.toInt + 1) rfl (by omega) (fun v261000 hv261000 => ?_)
    refine r_istore_n _ rfl ?_
    refine Ar.fall 17 rfl ?_
    refine w_loopI (fun n_ l_ g_ => ∃ x261419 : Int32, n_ = 12 - x261419.toInt ∧ HI g_ ∧ Fr F_X7_tryTwo_220 A_X7_tryTwo_220 g0 g_ ∧ en_get 0 l_ = some (.ref 220) ∧ en_get 1 l_ = some (.int x260984) ∧ en_get 2 l_ = some (.int x261419) ∧ (1 ≤ x261419.toInt ∧ x261419.toInt ≤ 12)) ?_ (12 - v261000.toInt) ⟨v261000, by first | rfl | omega, hI260986, hF260987, (w_p1 (by decide) (Or.inr rfl) e260991), (w_p1 (by decide) (Or.inr rfl) e260992), (w_e1 _ _ _), by omega⟩
    rintro n261424 l261423 g261420 ⟨x261419, hm261430, hI261421, hF261422, e261426, e261427, e261428, r261429⟩ ih261425
    refine At.enter rfl ?_
    refine r_iload_n e261428 ?_
    refine r_aload_n e261426 ?_
    refine q_getR (Sh.ref hI261421.1 kx_220 rfl) ?_
    refine q_getI (Sh.int hI261421.1 kx_1 rfl) v260996 ((hF261422.1 1 0 (by decide)).trans hv260996) ?_
    have bv261432 := q_bnd x261419
    refine r_ics 28 rfl (fun c261431 => ?_) (fun c261431 => ?_)
    · have c261431_ : x261419.toInt ≥ v260996.toInt := en_i_ge_t c261431
      refine At.enter rfl ?_
      refine q_iinc e261427 (x260984.toInt + 1) rfl (by omega) (fun v261433 hv261433 => ?_)
      refine r_goto ?_
      exact ih260990 (12 - v261433.toInt) _ _ ⟨v261433, by first | rfl | omega, hI261421, hF261422, (w_p1 (by decide) (Or.inr rfl) e261426), (w_e1 _ _ _), by omega⟩ ⟨by omega, by omega⟩
    · have c261431_ : x261419.toInt < v260996.toInt := en_i_ge_f c261431
      refine At.enter rfl ?_
      refine r_aload_n e261426 ?_
      refine r_iload_n e261427 ?_
      refine r_iload_n e261428 ?_
      refine r_callV 34 rfl [.ref 220, .int x260984, .int x261419] [] (Nat.le_of_ble_eq_true rfl) rfl (T_X7_change_220 _ hI261421 x260984 (by omega) x261419 (by omega)) ?_
      rintro _ _ ⟨g261434, rfl, hI261435, hF261436, rfl⟩
      refine At.stn ?_
      have hF261439 := Fr.tr hF261422 hF261436 rfl rfl
      refine At.enter rfl ?_
      refine r_iload_n e261427 ?_
      refine r_istore_n _ rfl ?_
      refine Ar.fall 36 rfl ?_
      refine w_loopI (fun n_ l_ g_ => ∃ x261704 : Int32, n_ = 12 - x261704.toInt ∧ HI g_ ∧ Fr F_X7_tryTwo_220 A_X7_tryTwo_220 g0 g_ ∧ en_get 0 l_ = some (.ref 220) ∧ en_get 1 l_ = some (.int x260984) ∧ en_get 2 l_ = some (.int x261419) ∧ en_get 3 l_ = some (.int x261704) ∧ (0 ≤ x261704.toInt ∧ x261704.toInt ≤ 12)) ?_ (12 - x260984.toInt) ⟨x260984, by first | rfl | omega, hI261435, hF261439, (w_p1 (by decide) (Or.inr rfl) e261426), (w_p1 (by decide) (Or.inr rfl) e261427), (w_p1 (by decide) (Or.inr rfl) e261428), (w_e1 _ _ _), by omega⟩
      rintro n261709 l261708 g261705 ⟨x261704, hm261716, hI261706, hF261707, e261711, e261712, e261713, e261714, r261715⟩ ih261710
      refine At.enter rfl ?_
      refine r_iload_n e261714 ?_
      refine r_aload_n e261711 ?_
      refine q_getR (Sh.ref hI261706.1 kx_220 rfl) ?_
      refine q_getI (Sh.int hI261706.1 kx_1 rfl) v260996 ((hF261707.1 1 0 (by decide)).trans hv260996) ?_
      have bv261718 := q_bnd x261704
      refine r_ics 47 rfl (fun c261717 => ?_) (fun c261717 => ?_)
      · have c261717_ : x261704.toInt ≥ v260996.toInt := en_i_ge_t c261717
        refine At.enter rfl ?_
        refine r_aload_n e261711 ?_
        refine r_iload_n e261712 ?_
        refine r_iload_n e261713 ?_
        refine r_callV 143 rfl [.ref 220, .int x260984, .int x261419] [] (Nat.le_of_ble_eq_true rfl) rfl (T_X7_change_220 _ hI261706 x260984 (by omega) x261419 (by omega)) ?_
        rintro _ _ ⟨g261719, rfl, hI261720, hF261721, rfl⟩
        refine At.stn ?_
        have hF261724 := Fr.tr hF261707 hF261721 rfl rfl
        refine At.enter rfl ?_
        refine q_iinc e261713 (x261419.toInt + 1) rfl (by omega) (fun v261725 hv261725 => ?_)
        refine r_goto ?_
        exact ih261425 (12 - v261725.toInt) _ _ ⟨v261725, by first | rfl | omega, hI261720, hF261724, (w_p1 (by decide) (Or.inr rfl) e261711), (w_p1 (by decide) (Or.inr rfl) e261712), (w_e1 _ _ _), by omega⟩ ⟨by omega, by omega⟩
      · have c261717_ : x261704.toInt < v260996.toInt := en_i_ge_f c261717
        refine At.enter rfl ?_
        refine r_iload_n e261714 ?_
        refine r_iconst 1 rfl ?_
        refine q_iadd (x261704.toInt + 1) rfl (by omega) (fun v261726 hv261726 => ?_)
        refine r_istore _ rfl ?_
        refine Ar.fall 52 rfl ?_
        refine w_loopI (fun n_ l_ g_ => ∃ x261781 : Int32, n_ = 12 - x261781.toInt ∧ HI g_ ∧ Fr F_X7_tryTwo_220 A_X7_tryTwo_220 g0 g_ ∧ en_get 0 l_ = some (.ref 220) ∧ en_get 1 l_ = some (.int x260984) ∧ en_get 2 l_ = some (.int x261419) ∧ en_get 3 l_ = some (.int x261704) ∧ en_get 4 l_ = some (.int x261781) ∧ (1 ≤ x261781.toInt ∧ x261781.toInt ≤ 12)) ?_ (12 - v261726.toInt) ⟨v261726, by first | rfl | omega, hI261706, hF261707, (w_p1 (by decide) (Or.inr rfl) e261711), (w_p1 (by decide) (Or.inr rfl) e261712), (w_p1 (by decide) (Or.inr rfl) e261713), (w_p1 (by decide) (Or.inr rfl) e261714), (w_e1 _ _ _), by omega⟩
        rintro n261786 l261785 g261782 ⟨x261781, hm261794, hI261783, hF261784, e261788, e261789, e261790, e261791, e261792, r261793⟩ ih261787
        refine At.enter rfl ?_
        refine r_iload e261792 ?_
        refine r_aload_n e261788 ?_
        refine q_getR (Sh.ref hI261783.1 kx_220 rfl) ?_
        refine q_getI (Sh.int hI261783.1 kx_1 rfl) v260996 ((hF261784.1 1 0 (by decide)).trans hv260996) ?_
        have bv261796 := q_bnd x261781
        refine r_ics 64 rfl (fun c261795 => ?_) (fun c261795 => ?_)
        · have c261795_ : x261781.toInt ≥ v260996.toInt := en_i_ge_t c261795
          refine At.enter rfl ?_
          refine q_iinc e261791 (x261704.toInt + 1) rfl (by omega) (fun v261797 hv261797 => ?_)
          refine r_goto ?_
          exact ih261710 (12 - v261797.toInt) _ _ ⟨v261797, by first | rfl | omega, hI261783, hF261784, (w_p1 (by decide) (Or.inr rfl) e261788), (w_p1 (by decide) (Or.inr rfl) e261789), (w_p1 (by decide) (Or.inr rfl) e261790), (w_e1 _ _ _), by omega⟩ ⟨by omega, by omega⟩
        · have c261795_ : x261781.toInt < v260996.toInt := en_i_ge_f c261795
          refine At.enter rfl ?_
          refine r_iload_n e261789 ?_
          refine r_iload_n e261790 ?_
          refine r_iload_n e261791 ?_
          refine r_iload e261792 ?_
          refine r_callS 72 rfl [.int x260984, .int x261419, .int x261704, .int x261781] [] (Nat.le_of_ble_eq_true rfl) rfl (T_X7_rowsLike _ hI261783 x260984 x261419 x261704 x261781) ?_
          rintro _ _ ⟨g261798, rfl, hI261799, hF261800, v261801, rfl, hr261802⟩
          refine At.sti ?_
          have hF261803 := Fr.tr hF261784 hF261800 rfl rfl
          refine At.enter rfl ?_
          refine r_istore _ rfl ?_
          refine r_aload_n (w_p1 (by decide) (Or.inr rfl) e261788) ?_
          refine r_iload_n (w_p1 (by decide) (Or.inr rfl) e261791) ?_
          refine r_iload (w_p1 (by decide) (Or.inr rfl) e261792) ?_
          refine r_callV 81 rfl [.ref 220, .int x261704, .int x261781] [] (Nat.le_of_ble_eq_true rfl) rfl (T_X7_change_220 _ hI261799 x261704 (by omega) x261781 (by omega)) ?_
          rintro _ _ ⟨g261804, rfl, hI261805, hF261806, rfl⟩
          refine At.stn ?_
          have hF261809 := Fr.tr hF261803 hF261806 rfl rfl
          refine At.enter rfl ?_
          refine r_iload (w_e1 _ _ _) ?_
          refine r_ifs 86 rfl (fun c261810 => ?_) (fun c261810 => ?_)
          · have c261810_ : v261801.toInt ≤ 0 := en_k_le_t c261810
            refine At.enter rfl ?_
            refine r_aload_n (w_p1 (by decide) (Or.inr rfl) e261788) ?_
            refine r_iload_n (w_p1 (by decide) (Or.inr rfl) e261791) ?_
            refine r_iload (w_p1 (by decide) (Or.inr rfl) e261792) ?_
            refine r_callV 125 rfl [.ref 220, .int x261704, .int x261781] [] (Nat.le_of_ble_eq_true rfl) rfl (T_X7_change_220 _ hI261805 x261704 (by omega) x261781 (by omega)) ?_
            rintro _ _ ⟨g261811, rfl, hI261812, hF261813, rfl⟩
            refine At.stn ?_
            have hF261816 := Fr.tr hF261809 hF261813 rfl rfl
            refine At.enter rfl ?_
            refine q_iinc (w_p1 (by decide) (Or.inr rfl) e261792) (x261781.toInt + 1) rfl (by omega) (fun v261817 hv261817 => ?_)
            refine r_goto ?_
            exact ih261787 (12 - v261817.toInt) _ _ ⟨v261817, by first | rfl | omega, hI261812, hF261816, (w_p1 (by decide) (Or.inr rfl) (w_p1 (by decide) (Or.inr rfl) e261788)), (w_p1 (by decide) (Or.inr rfl) (w_p1 (by decide) (Or.inr rfl) e261789)), (w_p1 (by decide) (Or.inr rfl) (w_p1 (by decide) (Or.inr rfl) e261790)), (w_p1 (by decide) (Or.inr rfl) (w_p1 (by decide) (Or.inr rfl) e261791)), (w_e1 _ _ _), by omega⟩ ⟨by omega, by omega⟩
          · have c261810_ : v261801.toInt > 0 := en_k_le_f c261810
            refine At.enter rfl ?_
            refine r_aload_n (w_p1 (by decide) (Or.inr rfl) e261788) ?_
            refine q_getR (Sh.ref hI261805.1 kx_220 rfl) ?_
            refine r_aload_n (w_p1 (by decide) (Or.inr rfl) e261788) ?_
            obtain ⟨v261818, hv261818⟩ : ∃ v, gI g0 220 2 = v := ⟨_, rfl⟩
            refine q_getI (Sh.int hI261805.1 kx_220 rfl) v261818 (((hF261806.1 220 2 (by decide)).trans ((hF261800.1 220 2 (by decide)).trans (hF261784.1 220 2 (by decide)))).trans hv261818) ?_
            refine r_aload_n (w_p1 (by decide) (Or.inr rfl) e261788) ?_
            refine q_getR (Sh.ref hI261805.1 kx_220 rfl) ?_
            obtain ⟨v261819, hv261819⟩ : ∃ v, gI g0 1 10 = v := ⟨_, rfl⟩
            refine q_getI (Sh.int hI261805.1 kx_1 rfl) v261819 (((hF261806.1 1 10 (by decide)).trans ((hF261800.1 1 10 (by decide)).trans (hF261784.1 1 10 (by decide)))).trans hv261819) ?_
            refine r_callV 104 rfl [.ref 204, .int v261818, .int v261819] [] (Nat.le_of_ble_eq_true rfl) rfl (T_X1_comesBy_204 _ hI261805 v261818 v261819) ?_
            rintro _ _ ⟨g261820, rfl, hI261821, hF261822, v261823, rfl, hr261824⟩
            refine At.sti ?_
            have hF261825 := Fr.tr hF261809 hF261822 rfl rfl
            refine At.enter rfl ?_
            refine r_ifs 107 rfl (fun c261826 => ?_) (fun c261826 => ?_)
            · have c261826_ : v261823.toInt = 0 := en_k_eq_t c261826
              refine At.enter rfl ?_
              refine r_aload_n (w_p1 (by decide) (Or.inr rfl) e261788) ?_
              refine r_iload_n (w_p1 (by decide) (Or.inr rfl) e261791) ?_
              refine r_iload (w_p1 (by decide) (Or.inr rfl) e261792) ?_
              refine r_callV 125 rfl [.ref 220, .int x261704, .int x261781] [] (Nat.le_of_ble_eq_true rfl) rfl (T_X7_change_220 _ hI261821 x261704 (by omega) x261781 (by omega)) ?_
              rintro _ _ ⟨g261827, rfl, hI261828, hF261829, rfl⟩
              refine At.stn ?_
              have hF261832 := Fr.tr hF261825 hF261829 rfl rfl
              refine At.enter rfl ?_
              refine q_iinc (w_p1 (by decide) (Or.inr rfl) e261792) (x261781.toInt + 1) rfl (by omega) (fun v261833 hv261833 => ?_)
              refine r_goto ?_
              exact ih261787 (12 - v261833.toInt) _ _ ⟨v261833, by first | rfl | omega, hI261828, hF261832, (w_p1 (by decide) (Or.inr rfl) (w_p1 (by decide) (Or.inr rfl) e261788)), (w_p1 (by decide) (Or.inr rfl) (w_p1 (by decide) (Or.inr rfl) e261789)), (w_p1 (by decide) (Or.inr rfl) (w_p1 (by decide) (Or.inr rfl) e261790)), (w_p1 (by decide) (Or.inr rfl) (w_p1 (by decide) (Or.inr rfl) e261791)), (w_e1 _ _ _), by omega⟩ ⟨by omega, by omega⟩
            · have c261826_ : v261823.toInt ≠ 0 := en_k_eq_f c261826
              refine At.enter rfl ?_
              refine r_aload_n (w_p1 (by decide) (Or.inr rfl) e261788) ?_
              refine r_iload_n (w_p1 (by decide) (Or.inr rfl) e261789) ?_
              refine r_iload_n (w_p1 (by decide) (Or.inr rfl) e261790) ?_
              refine r_iload_n (w_p1 (by decide) (Or.inr rfl) e261791) ?_
              refine r_iload (w_p1 (by decide) (Or.inr rfl) e261792) ?_
              refine r_iload (w_e1 _ _ _) ?_
              refine r_callV 118 rfl [.ref 220, .int x260984, .int x261419, .int x261704, .int x261781, .int v261801] [] (Nat.le_of_ble_eq_true rfl) rfl (T_X7_found_220 _ hI261821 x260984 x261419 x261704 x261781 v261801 (by omega)) ?_
              rintro _ _ ⟨g261834, rfl, hI261835, hF261836, rfl⟩
              refine At.stn ?_
              have hF261839 := Fr.tr hF261825 hF261836 rfl rfl
              refine At.enter rfl ?_
              refine r_aload_n (w_p1 (by decide) (Or.inr rfl) e261788) ?_
              refine r_iload_n (w_p1 (by decide) (Or.inr rfl) e261791) ?_
              refine r_iload (w_p1 (by decide) (Or.inr rfl) e261792) ?_
              refine r_callV 125 rfl [.ref 220, .int x261704, .int x261781] [] (Nat.le_of_ble_eq_true rfl) rfl (T_X7_change_220 _ hI261835 x261704 (by omega) x261781 (by omega)) ?_
              rintro _ _ ⟨g261840, rfl, hI261841, hF261842, rfl⟩
              refine At.stn ?_
              have hF261845 := Fr.tr hF261839 hF261842 rfl rfl
              refine At.enter rfl ?_
              refine q_iinc (w_p1 (by decide) (Or.inr rfl) e261792) (x261781.toInt + 1) rfl (by omega) (fun v261846 hv261846 => ?_)
              refine r_goto ?_
              exact ih261787 (12 - v261846.toInt) _ _ ⟨v261846, by first | rfl | omega, hI261841, hF261845, (w_p1 (by decide) (Or.inr rfl) (w_p1 (by decide) (Or.inr rfl) e261788)), (w_p1 (by decide) (Or.inr rfl) (w_p1 (by decide) (Or.inr rfl) e261789)), (w_p1 (by decide) (Or.inr rfl) (w_p1 (by decide) (Or.inr rfl) e261790)), (w_p1 (by decide) (Or.inr rfl) (w_p1 (by decide) (Or.inr rfl) e261791)), (w_e1 _ _ _), by omega⟩ ⟨by omega, by omega⟩

def F_X7_told_220 : List (Nat × Nat) := [(185, 3), (204, 16), (204, 18), (220, 2), (220, 3), (220, 4)]
def A_X7_told_220 : List Nat := [205, 206, 207, 208, 209, 210, 211, 212, 213, 214, 215, 216, 218, 221]
set_option maxRecDepth 100000 in
set_option maxHeartbeats 4000000 in
theorem T_X7_told_220 (d : Nat) {N : Nat} {g0 : List en_E} (hI0 : HI g0) (a1 : Int32) (a2 : Int32) : Ev (d + 7) 85 [.ref 220, .int a1, .int a2] (g0, N) (fun w h' => ∃ g', h' = (g', N) ∧ HI g' ∧ Fr F_X7_told_220 A_X7_told_220 g0 g' ∧ ∃ r : Int32, w = some (.int r) ∧ True) := by
  have hF0 : Fr F_X7_told_220 A_X7_told_220 g0 g0 := Fr.rf
  refine Ev.mk rfl rfl ⟨Nat.le_of_ble_eq_true rfl, Or.inr (q_rc hI0.1 kx_220 rfl)⟩ ?_
  show At _ none _ _ (0, [(0, .ref 220), (1, .int a1), (2, .int a2)], [], (_, _)) _
  refine At.enter rfl ?_
  refine r_aload_n rfl ?_
  obtain ⟨v245, hv245⟩ : ∃ v, gI g0 220 2 = v := ⟨_, rfl⟩
  refine q_getI (Sh.int hI0.1 kx_220 rfl) v245 hv245 ?_
  refine r_iload_n rfl ?_
  refine r_ics 8 rfl (fun c246 => ?_) (fun c246 => ?_)
  · have c246_ : v245.toInt = a1.toInt := en_i_eq_t c246
    refine At.enter rfl ?_
    refine r_iload_n rfl ?_
    refine r_ifs 83 rfl (fun c247 => ?_) (fun c247 => ?_)
    · have c247_ : a2.toInt ≠ 0 := en_k_ne_t c247
      refine At.enter rfl ?_
      refine r_iload_n rfl ?_
      refine r_iconst 5 rfl ?_
      refine r_ics 93 rfl (fun c248 => ?_) (fun c248 => ?_)
      · have c248_ : a2.toInt ≠ 5 := en_i_ne_t c248
        refine At.enter rfl ?_
        refine r_iload_n rfl ?_
        refine r_iconst 1 rfl ?_
        refine r_ics 103 rfl (fun c249 => ?_) (fun c249 => ?_)
        · have c249_ : a2.toInt < 1 := en_i_lt_t c249
          refine At.enter rfl ?_
          refine r_iconst (-1) rfl ?_
          refine Ar.fall 130 rfl ?_
          refine At.enter rfl ?_
          refine r_ireti ?_
          exact ⟨_, rfl, hI0, hF0, _, rfl, trivial⟩
        · have c249_ : a2.toInt ≥ 1 := en_i_lt_f c249
          refine At.enter rfl ?_
          refine r_iload_n rfl ?_
          refine r_iconst 4 rfl ?_
          refine r_ics 108 rfl (fun c250 => ?_) (fun c250 => ?_)
          · have c250_ : a2.toInt > 4 := en_i_gt_t c250
            refine At.enter rfl ?_
            refine r_iconst (-1) rfl ?_
            refine Ar.fall 130 rfl ?_
            refine At.enter rfl ?_
            refine r_ireti ?_
            exact ⟨_, rfl, hI0, hF0, _, rfl, trivial⟩
          · have c250_ : a2.toInt ≤ 4 := en_i_gt_f c250
            refine At.enter rfl ?_
            refine r_iload_n rfl ?_
            refine r_iconst 2 rfl ?_
            refine r_aload_n rfl ?_
            obtain ⟨v251, hv251⟩ : ∃ v, gI g0 220 3 = v := ⟨_, rfl⟩
            refine q_getI (Sh.int hI0.1 kx_220 rfl) v251 hv251 ?_
            refine q_imulO (fun v252 _ => ?_)
            have bv254 := q_bnd a2
            have bv255 := q_bnd v252
            refine r_ics 118 rfl (fun c253 => ?_) (fun c253 => ?_)
            · have c253_ : a2.toInt > v252.toInt := en_i_gt_t c253
              refine At.enter rfl ?_
              refine r_iconst (-1) rfl ?_
              refine Ar.fall 130 rfl ?_
              refine At.enter rfl ?_
              refine r_ireti ?_
              exact ⟨_, rfl, hI0, hF0, _, rfl, trivial⟩
            · have c253_ : a2.toInt ≤ v252.toInt := en_i_gt_f c253
              refine At.enter rfl ?_
              refine r_aload_n rfl ?_
              refine q_getR (Sh.ref hI0.1 kx_220 rfl) ?_
              refine r_iload_n rfl ?_
              refine r_iconst 1 rfl ?_
              refine q_isub (a2.toInt - 1) rfl (by omega) (fun v256 hv256 => ?_)
              obtain ⟨v257, hv257⟩ : ∃ v, eA g0 221 (a2.toInt + (-1)) = v := ⟨_, rfl⟩
              refine q_iald (Sh.arr hI0.1 ka_221) (a2.toInt + (-1)) (by omega) (by omega) v257 hv257 ?_
              refine r_goto ?_
              refine At.enter rfl ?_
              refine r_ireti ?_
              exact ⟨_, rfl, hI0, hF0, _, rfl, trivial⟩
      · have c248_ : a2.toInt = 5 := en_i_ne_f c248
        refine At.enter rfl ?_
        refine r_aload_n rfl ?_
        obtain ⟨v258, hv258⟩ : ∃ v, gI g0 220 4 = v := ⟨_, rfl⟩
        refine q_getI (Sh.int hI0.1 kx_220 rfl) v258 hv258 ?_
        refine r_ireti ?_
        exact ⟨_, rfl, hI0, hF0, _, rfl, trivial⟩
    · have c247_ : a2.toInt = 0 := en_k_ne_f c247
      refine At.enter rfl ?_
      refine r_aload_n rfl ?_
      obtain ⟨v259, hv259⟩ : ∃ v, gI g0 220 3 = v := ⟨_, rfl⟩
      refine q_getI (Sh.int hI0.1 kx_220 rfl) v259 hv259 ?_
      refine r_ireti ?_
      exact ⟨_, rfl, hI0, hF0, _, rfl, trivial⟩
  · have c246_ : v245.toInt ≠ a1.toInt := en_i_eq_f c246
    refine At.enter rfl ?_
    refine r_aload_n rfl ?_
    refine r_iload_n rfl ?_
    refine q_putI (Sh.int hI0.1 kx_220 rfl) rfl ?_
    have hI260 := HI.wI0 hI0 kx_220 rfl (p := 220) (b := 2) (v := a1) rfl
    have hF261 := Fr.wI (p := 220) (b := 2) (v := a1) hF0 rfl
    refine r_aload_n rfl ?_
    refine r_iconst 0 rfl ?_
    refine q_putI (Sh.int hI260.1 kx_220 rfl) rfl ?_
    have hI262 := HI.wI0 hI260 kx_220 rfl (p := 220) (b := 4) (v := 0) rfl
    have hF263 := Fr.wI (p := 220) (b := 4) (v := 0) hF261 rfl
    refine r_aload_n rfl ?_
    refine q_getR (Sh.ref hI262.1 kx_220 rfl) ?_
    refine r_iconst 0 rfl ?_
    refine r_callV 26 rfl [.ref 204, .int 0] [] (Nat.le_of_ble_eq_true rfl) rfl (T_X1_layOut_204 _ hI262 0) ?_
    rintro _ _ ⟨g264, rfl, hI265, hF266, rfl⟩
    refine At.stn ?_
    have hF269 := Fr.tr hF263 hF266 rfl rfl
    refine At.enter rfl ?_
    refine r_aload_n rfl ?_
    refine r_iconst 0 rfl ?_
    refine q_putI (Sh.int hI265.1 kx_220 rfl) rfl ?_
    have hI270 := HI.wI0 hI265 kx_220 rfl (p := 220) (b := 3) (v := 0) rfl
    have hF271 := Fr.wI (p := 220) (b := 3) (v := 0) hF269 rfl
    refine r_aload_n rfl ?_
    refine r_callV 35 rfl [.ref 220] [] (Nat.le_of_ble_eq_true rfl) rfl (T_X7_tryNone_220 _ hI270) ?_
    rintro _ _ ⟨g272, rfl, hI273, hF274, rfl⟩
    refine At.stn ?_
    have hF277 := Fr.tr hF271 hF274 rfl rfl
    refine At.enter rfl ?_
    refine r_aload_n rfl ?_
    obtain ⟨v278, hv278⟩ : ∃ v, gI g272 220 4 = v := ⟨_, rfl⟩
    refine q_getI (Sh.int hI273.1 kx_220 rfl) v278 hv278 ?_
    refine r_ifs 42 rfl (fun c279 => ?_) (fun c279 => ?_)
    · have c279_ : v278.toInt ≠ 0 := en_k_ne_t c279
      refine At.enter rfl ?_
      refine r_aload_n rfl ?_
      refine q_getI (Sh.int hI273.1 kx_220 rfl) v278 hv278 ?_
      refine r_ifs 58 rfl (fun c280 => ?_) (fun c280 => ?_)
      · have c280_ : v278.toInt ≠ 0 := en_k_ne_t c280
        refine At.enter rfl ?_
        refine r_aload_n rfl ?_
        refine q_getI (Sh.int hI273.1 kx_220 rfl) v278 hv278 ?_
        refine r_ifs 74 rfl (fun c281 => ?_) (fun c281 => ?_)
        · have c281_ : v278.toInt ≠ 0 := en_k_ne_t c281
          refine At.enter rfl ?_
          refine r_iload_n rfl ?_
          refine r_ifs 83 rfl (fun c282 => ?_) (fun c282 => ?_)
          · have c282_ : a2.toInt ≠ 0 := en_k_ne_t c282
            refine At.enter rfl ?_
            refine r_iload_n rfl ?_
            refine r_iconst 5 rfl ?_
            refine r_ics 93 rfl (fun c283 => ?_) (fun c283 => ?_)
            · have c283_ : a2.toInt ≠ 5 := en_i_ne_t c283
              refine At.enter rfl ?_
              refine r_iload_n rfl ?_
              refine r_iconst 1 rfl ?_
              refine r_ics 103 rfl (fun c284 => ?_) (fun c284 => ?_)
              · have c284_ : a2.toInt < 1 := en_i_lt_t c284
                refine At.enter rfl ?_
                refine r_iconst (-1) rfl ?_
                refine Ar.fall 130 rfl ?_
                refine At.enter rfl ?_
                refine r_ireti ?_
                exact ⟨_, rfl, hI273, hF277, _, rfl, trivial⟩
              · have c284_ : a2.toInt ≥ 1 := en_i_lt_f c284
                refine At.enter rfl ?_
                refine r_iload_n rfl ?_
                refine r_iconst 4 rfl ?_
                refine r_ics 108 rfl (fun c285 => ?_) (fun c285 => ?_)
                · have c285_ : a2.toInt > 4 := en_i_gt_t c285
                  refine At.enter rfl ?_
                  refine r_iconst (-1) rfl ?_
                  refine Ar.fall 130 rfl ?_
                  refine At.enter rfl ?_
                  refine r_ireti ?_
                  exact ⟨_, rfl, hI273, hF277, _, rfl, trivial⟩
                · have c285_ : a2.toInt ≤ 4 := en_i_gt_f c285
                  refine At.enter rfl ?_
                  refine r_iload_n rfl ?_
                  refine r_iconst 2 rfl ?_
                  refine r_aload_n rfl ?_
                  refine q_getI (Sh.int hI273.1 kx_220 rfl) 0 ((hF274.1 220 3 (by decide)).trans (gI_sI_eq hI265.1 kx_220 rfl _)) ?_
                  refine r_imul 0 (by decide) ?_
                  refine r_ics 118 rfl (fun c286 => ?_) (fun c286 => ?_)
                  · have c286_ : a2.toInt > 0 := en_i_gt_t c286
                    refine At.enter rfl ?_
                    refine r_iconst (-1) rfl ?_
                    refine Ar.fall 130 rfl ?_
                    refine At.enter rfl ?_
                    refine r_ireti ?_
                    exact ⟨_, rfl, hI273, hF277, _, rfl, trivial⟩
                  · have c286_ : a2.toInt ≤ 0 := en_i_gt_f c286
                    exfalso; omega
            · have c283_ : a2.toInt = 5 := en_i_ne_f c283
              refine At.enter rfl ?_
              refine r_aload_n rfl ?_
              refine q_getI (Sh.int hI273.1 kx_220 rfl) v278 hv278 ?_
              refine r_ireti ?_
              exact ⟨_, rfl, hI273, hF277, _, rfl, trivial⟩
          · have c282_ : a2.toInt = 0 := en_k_ne_f c282
            refine At.enter rfl ?_
            refine r_aload_n rfl ?_
            refine q_getI (Sh.int hI273.1 kx_220 rfl) 0 ((hF274.1 220 3 (by decide)).trans (gI_sI_eq hI265.1 kx_220 rfl _)) ?_
            refine r_ireti ?_
            exact ⟨_, rfl, hI273, hF277, _, rfl, trivial⟩
        · have c281_ : v278.toInt = 0 := en_k_ne_f c281
          refine At.enter rfl ?_
          refine r_aload_n rfl ?_
          refine r_iconst (-1) rfl ?_
          refine q_putI (Sh.int hI273.1 kx_220 rfl) rfl ?_
          have hI287 := HI.wI0 hI273 kx_220 rfl (p := 220) (b := 3) (v := (-1)) rfl
          have hF288 := Fr.wI (p := 220) (b := 3) (v := (-1)) hF277 rfl
          refine Ar.fall 79 rfl ?_
          refine At.enter rfl ?_
          refine r_iload_n rfl ?_
          refine r_ifs 83 rfl (fun c289 => ?_) (fun c289 => ?_)
          · have c289_ : a2.toInt ≠ 0 := en_k_ne_t c289
            refine At.enter rfl ?_
            refine r_iload_n rfl ?_
            refine r_iconst 5 rfl ?_
            refine r_ics 93 rfl (fun c290 => ?_) (fun c290 => ?_)
            · have c290_ : a2.toInt ≠ 5 := en_i_ne_t c290
              refine At.enter rfl ?_
              refine r_iload_n rfl ?_
              refine r_iconst 1 rfl ?_
              refine r_ics 103 rfl (fun c291 => ?_) (fun c291 => ?_)
              · have c291_ : a2.toInt < 1 := en_i_lt_t c291
                refine At.enter rfl ?_
                refine r_iconst (-1) rfl ?_
                refine Ar.fall 130 rfl ?_
                refine At.enter rfl ?_
                refine r_ireti ?_
                exact ⟨_, rfl, hI287, hF288, _, rfl, trivial⟩
              · have c291_ : a2.toInt ≥ 1 := en_i_lt_f c291
                refine At.enter rfl ?_
                refine r_iload_n rfl ?_
                refine r_iconst 4 rfl ?_
                refine r_ics 108 rfl (fun c292 => ?_) (fun c292 => ?_)
                · have c292_ : a2.toInt > 4 := en_i_gt_t c292
                  refine At.enter rfl ?_
                  refine r_iconst (-1) rfl ?_
                  refine Ar.fall 130 rfl ?_
                  refine At.enter rfl ?_
                  refine r_ireti ?_
                  exact ⟨_, rfl, hI287, hF288, _, rfl, trivial⟩
                · have c292_ : a2.toInt ≤ 4 := en_i_gt_f c292
                  refine At.enter rfl ?_
                  refine r_iload_n rfl ?_
                  refine r_iconst 2 rfl ?_
                  refine r_aload_n rfl ?_
                  refine q_getI (Sh.int hI287.1 kx_220 rfl) (-1) (gI_sI_eq hI273.1 kx_220 rfl _) ?_
                  refine r_imul (-2) (by decide) ?_
                  refine r_ics 118 rfl (fun c293 => ?_) (fun c293 => ?_)
                  · have c293_ : a2.toInt > (-2) := en_i_gt_t c293
                    refine At.enter rfl ?_
                    refine r_iconst (-1) rfl ?_
                    refine Ar.fall 130 rfl ?_
                    refine At.enter rfl ?_
                    refine r_ireti ?_
                    exact ⟨_, rfl, hI287, hF288, _, rfl, trivial⟩
                  · have c293_ : a2.toInt ≤ (-2) := en_i_gt_f c293
                    exfalso; omega
            · have c290_ : a2.toInt = 5 := en_i_ne_f c290
              refine At.enter rfl ?_
              refine r_aload_n rfl ?_
              refine q_getI (Sh.int hI287.1 kx_220 rfl) v278 ((gI_sI_ne (by decide)).trans hv278) ?_
              refine r_ireti ?_
              exact ⟨_, rfl, hI287, hF288, _, rfl, trivial⟩
          · have c289_ : a2.toInt = 0 := en_k_ne_f c289
            refine At.enter rfl ?_
            refine r_aload_n rfl ?_
            refine q_getI (Sh.int hI287.1 kx_220 rfl) (-1) (gI_sI_eq hI273.1 kx_220 rfl _) ?_
            refine r_ireti ?_
            exact ⟨_, rfl, hI287, hF288, _, rfl, trivial⟩
      · have c280_ : v278.toInt = 0 := en_k_ne_f c280
        refine At.enter rfl ?_
        refine r_aload_n rfl ?_
        refine r_iconst 2 rfl ?_
        refine q_putI (Sh.int hI273.1 kx_220 rfl) rfl ?_
        have hI294 := HI.wI0 hI273 kx_220 rfl (p := 220) (b := 3) (v := 2) rfl
        have hF295 := Fr.wI (p := 220) (b := 3) (v := 2) hF277 rfl
        refine r_aload_n rfl ?_
        refine r_callV 67 rfl [.ref 220] [] (Nat.le_of_ble_eq_true rfl) rfl (T_X7_tryTwo_220 _ hI294) ?_
        rintro _ _ ⟨g296, rfl, hI297, hF298, rfl⟩
        refine At.stn ?_
        have hF301 := Fr.tr hF295 hF298 rfl rfl
        refine At.enter rfl ?_
        refine r_aload_n rfl ?_
        obtain ⟨v302, hv302⟩ : ∃ v, gI g296 220 4 = v := ⟨_, rfl⟩
        refine q_getI (Sh.int hI297.1 kx_220 rfl) v302 hv302 ?_
        refine r_ifs 74 rfl (fun c303 => ?_) (fun c303 => ?_)
        · have c303_ : v302.toInt ≠ 0 := en_k_ne_t c303
          refine At.enter rfl ?_
          refine r_iload_n rfl ?_
          refine r_ifs 83 rfl (fun c304 => ?_) (fun c304 => ?_)
          · have c304_ : a2.toInt ≠ 0 := en_k_ne_t c304
            refine At.enter rfl ?_
            refine r_iload_n rfl ?_
            refine r_iconst 5 rfl ?_
            refine r_ics 93 rfl (fun c305 => ?_) (fun c305 => ?_)
            · have c305_ : a2.toInt ≠ 5 := en_i_ne_t c305
              refine At.enter rfl ?_
              refine r_iload_n rfl ?_
              refine r_iconst 1 rfl ?_
              refine r_ics 103 rfl (fun c306 => ?_) (fun c306 => ?_)
              · have c306_ : a2.toInt < 1 := en_i_lt_t c306
                refine At.enter rfl ?_
                refine r_iconst (-1) rfl ?_
                refine Ar.fall 130 rfl ?_
                refine At.enter rfl ?_
                refine r_ireti ?_
                exact ⟨_, rfl, hI297, hF301, _, rfl, trivial⟩
              · have c306_ : a2.toInt ≥ 1 := en_i_lt_f c306
                refine At.enter rfl ?_
                refine r_iload_n rfl ?_
                refine r_iconst 4 rfl ?_
                refine r_ics 108 rfl (fun c307 => ?_) (fun c307 => ?_)
                · have c307_ : a2.toInt > 4 := en_i_gt_t c307
                  refine At.enter rfl ?_
                  refine r_iconst (-1) rfl ?_
                  refine Ar.fall 130 rfl ?_
                  refine At.enter rfl ?_
                  refine r_ireti ?_
                  exact ⟨_, rfl, hI297, hF301, _, rfl, trivial⟩
                · have c307_ : a2.toInt ≤ 4 := en_i_gt_f c307
                  refine At.enter rfl ?_
                  refine r_iload_n rfl ?_
                  refine r_iconst 2 rfl ?_
                  refine r_aload_n rfl ?_
                  refine q_getI (Sh.int hI297.1 kx_220 rfl) 2 ((hF298.1 220 3 (by decide)).trans (gI_sI_eq hI273.1 kx_220 rfl _)) ?_
                  refine r_imul 4 (by decide) ?_
                  refine r_ics 118 rfl (fun c308 => ?_) (fun c308 => ?_)
                  · have c308_ : a2.toInt > 4 := en_i_gt_t c308
                    exfalso; omega
                  · have c308_ : a2.toInt ≤ 4 := en_i_gt_f c308
                    refine At.enter rfl ?_
                    refine r_aload_n rfl ?_
                    refine q_getR (Sh.ref hI297.1 kx_220 rfl) ?_
                    refine r_iload_n rfl ?_
                    refine r_iconst 1 rfl ?_
                    refine q_isub (a2.toInt - 1) rfl (by omega) (fun v309 hv309 => ?_)
                    obtain ⟨v310, hv310⟩ : ∃ v, eA g296 221 (a2.toInt + (-1)) = v := ⟨_, rfl⟩
                    refine q_iald (Sh.arr hI297.1 ka_221) (a2.toInt + (-1)) (by omega) (by omega) v310 hv310 ?_
                    refine r_goto ?_
                    refine At.enter rfl ?_
                    refine r_ireti ?_
                    exact ⟨_, rfl, hI297, hF301, _, rfl, trivial⟩
            · have c305_ : a2.toInt = 5 := en_i_ne_f c305
              refine At.enter rfl ?_
              refine r_aload_n rfl ?_
              refine q_getI (Sh.int hI297.1 kx_220 rfl) v302 hv302 ?_
              refine r_ireti ?_
              exact ⟨_, rfl, hI297, hF301, _, rfl, trivial⟩
          · have c304_ : a2.toInt = 0 := en_k_ne_f c304
            refine At.enter rfl ?_
            refine r_aload_n rfl ?_
            refine q_getI (Sh.int hI297.1 kx_220 rfl) 2 ((hF298.1 220 3 (by decide)).trans (gI_sI_eq hI273.1 kx_220 rfl _)) ?_
            refine r_ireti ?_
            exact ⟨_, rfl, hI297, hF301, _, rfl, trivial⟩
        · have c303_ : v302.toInt = 0 := en_k_ne_f c303
          refine At.enter rfl ?_
          refine r_aload_n rfl ?_
          refine r_iconst (-1) rfl ?_
          refine q_putI (Sh.int hI297.1 kx_220 rfl) rfl ?_
          have hI311 := HI.wI0 hI297 kx_220 rfl (p := 220) (b := 3) (v := (-1)) rfl
          have hF312 := Fr.wI (p := 220) (b := 3) (v := (-1)) hF301 rfl
          refine Ar.fall 79 rfl ?_
          refine At.enter rfl ?_
          refine r_iload_n rfl ?_
          refine r_ifs 83 rfl (fun c313 => ?_) (fun c313 => ?_)
          · have c313_ : a2.toInt ≠ 0 := en_k_ne_t c313
            refine At.enter rfl ?_
            refine r_iload_n rfl ?_
            refine r_iconst 5 rfl ?_
            refine r_ics 93 rfl (fun c314 => ?_) (fun c314 => ?_)
            · have c314_ : a2.toInt ≠ 5 := en_i_ne_t c314
              refine At.enter rfl ?_
              refine r_iload_n rfl ?_
              refine r_iconst 1 rfl ?_
              refine r_ics 103 rfl (fun c315 => ?_) (fun c315 => ?_)
              · have c315_ : a2.toInt < 1 := en_i_lt_t c315
                refine At.enter rfl ?_
                refine r_iconst (-1) rfl ?_
                refine Ar.fall 130 rfl ?_
                refine At.enter rfl ?_
                refine r_ireti ?_
                exact ⟨_, rfl, hI311, hF312, _, rfl, trivial⟩
              · have c315_ : a2.toInt ≥ 1 := en_i_lt_f c315
                refine At.enter rfl ?_
                refine r_iload_n rfl ?_
                refine r_iconst 4 rfl ?_
                refine r_ics 108 rfl (fun c316 => ?_) (fun c316 => ?_)
                · have c316_ : a2.toInt > 4 := en_i_gt_t c316
                  refine At.enter rfl ?_
                  refine r_iconst (-1) rfl ?_
                  refine Ar.fall 130 rfl ?_
                  refine At.enter rfl ?_
                  refine r_ireti ?_
                  exact ⟨_, rfl, hI311, hF312, _, rfl, trivial⟩
                · have c316_ : a2.toInt ≤ 4 := en_i_gt_f c316
                  refine At.enter rfl ?_
                  refine r_iload_n rfl ?_
                  refine r_iconst 2 rfl ?_
                  refine r_aload_n rfl ?_
                  refine q_getI (Sh.int hI311.1 kx_220 rfl) (-1) (gI_sI_eq hI297.1 kx_220 rfl _) ?_
                  refine r_imul (-2) (by decide) ?_
                  refine r_ics 118 rfl (fun c317 => ?_) (fun c317 => ?_)
                  · have c317_ : a2.toInt > (-2) := en_i_gt_t c317
                    refine At.enter rfl ?_
                    refine r_iconst (-1) rfl ?_
                    refine Ar.fall 130 rfl ?_
                    refine At.enter rfl ?_
                    refine r_ireti ?_
                    exact ⟨_, rfl, hI311, hF312, _, rfl, trivial⟩
                  · have c317_ : a2.toInt ≤ (-2) := en_i_gt_f c317
                    exfalso; omega
            · have c314_ : a2.toInt = 5 := en_i_ne_f c314
              refine At.enter rfl ?_
              refine r_aload_n rfl ?_
              refine q_getI (Sh.int hI311.1 kx_220 rfl) v302 ((gI_sI_ne (by decide)).trans hv302) ?_
              refine r_ireti ?_
              exact ⟨_, rfl, hI311, hF312, _, rfl, trivial⟩
          · have c313_ : a2.toInt = 0 := en_k_ne_f c313
            refine At.enter rfl ?_
            refine r_aload_n rfl ?_
            refine q_getI (Sh.int hI311.1 kx_220 rfl) (-1) (gI_sI_eq hI297.1 kx_220 rfl _) ?_
            refine r_ireti ?_
            exact ⟨_, rfl, hI311, hF312, _, rfl, trivial⟩
    · have c279_ : v278.toInt = 0 := en_k_ne_f c279
      refine At.enter rfl ?_
      refine r_aload_n rfl ?_
      refine r_iconst 1 rfl ?_
      refine q_putI (Sh.int hI273.1 kx_220 rfl) rfl ?_
      have hI318 := HI.wI0 hI273 kx_220 rfl (p := 220) (b := 3) (v := 1) rfl
      have hF319 := Fr.wI (p := 220) (b := 3) (v := 1) hF277 rfl
      refine r_aload_n rfl ?_
      refine r_callV 51 rfl [.ref 220] [] (Nat.le_of_ble_eq_true rfl) rfl (T_X7_tryOne_220 _ hI318) ?_
      rintro _ _ ⟨g320, rfl, hI321, hF322, rfl⟩
      refine At.stn ?_
      have hF325 := Fr.tr hF319 hF322 rfl rfl
      refine At.enter rfl ?_
      refine r_aload_n rfl ?_
      obtain ⟨v326, hv326⟩ : ∃ v, gI g320 220 4 = v := ⟨_, rfl⟩
      refine q_getI (Sh.int hI321.1 kx_220 rfl) v326 hv326 ?_
      refine r_ifs 58 rfl (fun c327 => ?_) (fun c327 => ?_)
      · have c327_ : v326.toInt ≠ 0 := en_k_ne_t c327
        refine At.enter rfl ?_
        refine r_aload_n rfl ?_
        refine q_getI (Sh.int hI321.1 kx_220 rfl) v326 hv326 ?_
        refine r_ifs 74 rfl (fun c328 => ?_) (fun c328 => ?_)
        · have c328_ : v326.toInt ≠ 0 := en_k_ne_t c328
          refine At.enter rfl ?_
          refine r_iload_n rfl ?_
          refine r_ifs 83 rfl (fun c329 => ?_) (fun c329 => ?_)
          · have c329_ : a2.toInt ≠ 0 := en_k_ne_t c329
            refine At.enter rfl ?_
            refine r_iload_n rfl ?_
            refine r_iconst 5 rfl ?_
            refine r_ics 93 rfl (fun c330 => ?_) (fun c330 => ?_)
            · have c330_ : a2.toInt ≠ 5 := en_i_ne_t c330
              refine At.enter rfl ?_
              refine r_iload_n rfl ?_
              refine r_iconst 1 rfl ?_
              refine r_ics 103 rfl (fun c331 => ?_) (fun c331 => ?_)
              · have c331_ : a2.toInt < 1 := en_i_lt_t c331
                refine At.enter rfl ?_
                refine r_iconst (-1) rfl ?_
                refine Ar.fall 130 rfl ?_
                refine At.enter rfl ?_
                refine r_ireti ?_
                exact ⟨_, rfl, hI321, hF325, _, rfl, trivial⟩
              · have c331_ : a2.toInt ≥ 1 := en_i_lt_f c331
                refine At.enter rfl ?_
                refine r_iload_n rfl ?_
                refine r_iconst 4 rfl ?_
                refine r_ics 108 rfl (fun c332 => ?_) (fun c332 => ?_)
                · have c332_ : a2.toInt > 4 := en_i_gt_t c332
                  refine At.enter rfl ?_
                  refine r_iconst (-1) rfl ?_
                  refine Ar.fall 130 rfl ?_
                  refine At.enter rfl ?_
                  refine r_ireti ?_
                  exact ⟨_, rfl, hI321, hF325, _, rfl, trivial⟩
                · have c332_ : a2.toInt ≤ 4 := en_i_gt_f c332
                  refine At.enter rfl ?_
                  refine r_iload_n rfl ?_
                  refine r_iconst 2 rfl ?_
                  refine r_aload_n rfl ?_
                  refine q_getI (Sh.int hI321.1 kx_220 rfl) 1 ((hF322.1 220 3 (by decide)).trans (gI_sI_eq hI273.1 kx_220 rfl _)) ?_
                  refine r_imul 2 (by decide) ?_
                  refine r_ics 118 rfl (fun c333 => ?_) (fun c333 => ?_)
                  · have c333_ : a2.toInt > 2 := en_i_gt_t c333
                    refine At.enter rfl ?_
                    refine r_iconst (-1) rfl ?_
                    refine Ar.fall 130 rfl ?_
                    refine At.enter rfl ?_
                    refine r_ireti ?_
                    exact ⟨_, rfl, hI321, hF325, _, rfl, trivial⟩
                  · have c333_ : a2.toInt ≤ 2 := en_i_gt_f c333
                    refine At.enter rfl ?_
                    refine r_aload_n rfl ?_
                    refine q_getR (Sh.ref hI321.1 kx_220 rfl) ?_
                    refine r_iload_n rfl ?_
                    refine r_iconst 1 rfl ?_
                    refine q_isub (a2.toInt - 1) rfl (by omega) (fun v334 hv334 => ?_)
                    obtain ⟨v335, hv335⟩ : ∃ v, eA g320 221 (a2.toInt + (-1)) = v := ⟨_, rfl⟩
                    refine q_iald (Sh.arr hI321.1 ka_221) (a2.toInt + (-1)) (by omega) (by omega) v335 hv335 ?_
                    refine r_goto ?_
                    refine At.enter rfl ?_
                    refine r_ireti ?_
                    exact ⟨_, rfl, hI321, hF325, _, rfl, trivial⟩
            · have c330_ : a2.toInt = 5 := en_i_ne_f c330
              refine At.enter rfl ?_
              refine r_aload_n rfl ?_
              refine q_getI (Sh.int hI321.1 kx_220 rfl) v326 hv326 ?_
              refine r_ireti ?_
              exact ⟨_, rfl, hI321, hF325, _, rfl, trivial⟩
          · have c329_ : a2.toInt = 0 := en_k_ne_f c329
            refine At.enter rfl ?_
            refine r_aload_n rfl ?_
            refine q_getI (Sh.int hI321.1 kx_220 rfl) 1 ((hF322.1 220 3 (by decide)).trans (gI_sI_eq hI273.1 kx_220 rfl _)) ?_
            refine r_ireti ?_
            exact ⟨_, rfl, hI321, hF325, _, rfl, trivial⟩
        · have c328_ : v326.toInt = 0 := en_k_ne_f c328
          refine At.enter rfl ?_
          refine r_aload_n rfl ?_
          refine r_iconst (-1) rfl ?_
          refine q_putI (Sh.int hI321.1 kx_220 rfl) rfl ?_
          have hI336 := HI.wI0 hI321 kx_220 rfl (p := 220) (b := 3) (v := (-1)) rfl
          have hF337 := Fr.wI (p := 220) (b := 3) (v := (-1)) hF325 rfl
          refine Ar.fall 79 rfl ?_
          refine At.enter rfl ?_
          refine r_iload_n rfl ?_
          refine r_ifs 83 rfl (fun c338 => ?_) (fun c338 => ?_)
          · have c338_ : a2.toInt ≠ 0 := en_k_ne_t c338
            refine At.enter rfl ?_
            refine r_iload_n rfl ?_
            refine r_iconst 5 rfl ?_
            refine r_ics 93 rfl (fun c339 => ?_) (fun c339 => ?_)
            · have c339_ : a2.toInt ≠ 5 := en_i_ne_t c339
              refine At.enter rfl ?_
              refine r_iload_n rfl ?_
              refine r_iconst 1 rfl ?_
              refine r_ics 103 rfl (fun c340 => ?_) (fun c340 => ?_)
              · have c340_ : a2.toInt < 1 := en_i_lt_t c340
                refine At.enter rfl ?_
                refine r_iconst (-1) rfl ?_
                refine Ar.fall 130 rfl ?_
                refine At.enter rfl ?_
                refine r_ireti ?_
                exact ⟨_, rfl, hI336, hF337, _, rfl, trivial⟩
              · have c340_ : a2.toInt ≥ 1 := en_i_lt_f c340
                refine At.enter rfl ?_
                refine r_iload_n rfl ?_
                refine r_iconst 4 rfl ?_
                refine r_ics 108 rfl (fun c341 => ?_) (fun c341 => ?_)
                · have c341_ : a2.toInt > 4 := en_i_gt_t c341
                  refine At.enter rfl ?_
                  refine r_iconst (-1) rfl ?_
                  refine Ar.fall 130 rfl ?_
                  refine At.enter rfl ?_
                  refine r_ireti ?_
                  exact ⟨_, rfl, hI336, hF337, _, rfl, trivial⟩
                · have c341_ : a2.toInt ≤ 4 := en_i_gt_f c341
                  refine At.enter rfl ?_
                  refine r_iload_n rfl ?_
                  refine r_iconst 2 rfl ?_
                  refine r_aload_n rfl ?_
                  refine q_getI (Sh.int hI336.1 kx_220 rfl) (-1) (gI_sI_eq hI321.1 kx_220 rfl _) ?_
                  refine r_imul (-2) (by decide) ?_
                  refine r_ics 118 rfl (fun c342 => ?_) (fun c342 => ?_)
                  · have c342_ : a2.toInt > (-2) := en_i_gt_t c342
                    refine At.enter rfl ?_
                    refine r_iconst (-1) rfl ?_
                    refine Ar.fall 130 rfl ?_
                    refine At.enter rfl ?_
                    refine r_ireti ?_
                    exact ⟨_, rfl, hI336, hF337, _, rfl, trivial⟩
                  · have c342_ : a2.toInt ≤ (-2) := en_i_gt_f c342
                    exfalso; omega
            · have c339_ : a2.toInt = 5 := en_i_ne_f c339
              refine At.enter rfl ?_
              refine r_aload_n rfl ?_
              refine q_getI (Sh.int hI336.1 kx_220 rfl) v326 ((gI_sI_ne (by decide)).trans hv326) ?_
              refine r_ireti ?_
              exact ⟨_, rfl, hI336, hF337, _, rfl, trivial⟩
          · have c338_ : a2.toInt = 0 := en_k_ne_f c338
            refine At.enter rfl ?_
            refine r_aload_n rfl ?_
            refine q_getI (Sh.int hI336.1 kx_220 rfl) (-1) (gI_sI_eq hI321.1 kx_220 rfl _) ?_
            refine r_ireti ?_
            exact ⟨_, rfl, hI336, hF337, _, rfl, trivial⟩
      · have c327_ : v326.toInt = 0 := en_k_ne_f c327
        refine At.enter rfl ?_
        refine r_aload_n rfl ?_
        refine r_iconst 2 rfl ?_
        refine q_putI (Sh.int hI321.1 kx_220 rfl) rfl ?_
        have hI343 := HI.wI0 hI321 kx_220 rfl (p := 220) (b := 3) (v := 2) rfl
        have hF344 := Fr.wI (p := 220) (b := 3) (v := 2) hF325 rfl
        refine r_aload_n rfl ?_
        refine r_callV 67 rfl [.ref 220] [] (Nat.le_of_ble_eq_true rfl) rfl (T_X7_tryTwo_220 _ hI343) ?_
        rintro _ _ ⟨g345, rfl, hI346, hF347, rfl⟩
        refine At.stn ?_
        have hF350 := Fr.tr hF344 hF347 rfl rfl
        refine At.enter rfl ?_
        refine r_aload_n rfl ?_
        obtain ⟨v351, hv351⟩ : ∃ v, gI g345 220 4 = v := ⟨_, rfl⟩
        refine q_getI (Sh.int hI346.1 kx_220 rfl) v351 hv351 ?_
        refine r_ifs 74 rfl (fun c352 => ?_) (fun c352 => ?_)
        · have c352_ : v351.toInt ≠ 0 := en_k_ne_t c352
          refine At.enter rfl ?_
          refine r_iload_n rfl ?_
          refine r_ifs 83 rfl (fun c353 => ?_) (fun c353 => ?_)
          · have c353_ : a2.toInt ≠ 0 := en_k_ne_t c353
            refine At.enter rfl ?_
            refine r_iload_n rfl ?_
            refine r_iconst 5 rfl ?_
            refine r_ics 93 rfl (fun c354 => ?_) (fun c354 => ?_)
            · have c354_ : a2.toInt ≠ 5 := en_i_ne_t c354
              refine At.enter rfl ?_
              refine r_iload_n rfl ?_
              refine r_iconst 1 rfl ?_
              refine r_ics 103 rfl (fun c355 => ?_) (fun c355 => ?_)
              · have c355_ : a2.toInt < 1 := en_i_lt_t c355
                refine At.enter rfl ?_
                refine r_iconst (-1) rfl ?_
                refine Ar.fall 130 rfl ?_
                refine At.enter rfl ?_
                refine r_ireti ?_
                exact ⟨_, rfl, hI346, hF350, _, rfl, trivial⟩
              · have c355_ : a2.toInt ≥ 1 := en_i_lt_f c355
                refine At.enter rfl ?_
                refine r_iload_n rfl ?_
                refine r_iconst 4 rfl ?_
                refine r_ics 108 rfl (fun c356 => ?_) (fun c356 => ?_)
                · have c356_ : a2.toInt > 4 := en_i_gt_t c356
                  refine At.enter rfl ?_
                  refine r_iconst (-1) rfl ?_
                  refine Ar.fall 130 rfl ?_
                  refine At.enter rfl ?_
                  refine r_ireti ?_
                  exact ⟨_, rfl, hI346, hF350, _, rfl, trivial⟩
                · have c356_ : a2.toInt ≤ 4 := en_i_gt_f c356
                  refine At.enter rfl ?_
                  refine r_iload_n rfl ?_
                  refine r_iconst 2 rfl ?_
                  refine r_aload_n rfl ?_
                  refine q_getI (Sh.int hI346.1 kx_220 rfl) 2 ((hF347.1 220 3 (by decide)).trans (gI_sI_eq hI321.1 kx_220 rfl _)) ?_
                  refine r_imul 4 (by decide) ?_
                  refine r_ics 118 rfl (fun c357 => ?_) (fun c357 => ?_)
                  · have c357_ : a2.toInt > 4 := en_i_gt_t c357
                    exfalso; omega
                  · have c357_ : a2.toInt ≤ 4 := en_i_gt_f c357
                    refine At.enter rfl ?_
                    refine r_aload_n rfl ?_
                    refine q_getR (Sh.ref hI346.1 kx_220 rfl) ?_
                    refine r_iload_n rfl ?_
                    refine r_iconst 1 rfl ?_
                    refine q_isub (a2.toInt - 1) rfl (by omega) (fun v358 hv358 => ?_)
                    obtain ⟨v359, hv359⟩ : ∃ v, eA g345 221 (a2.toInt + (-1)) = v := ⟨_, rfl⟩
                    refine q_iald (Sh.arr hI346.1 ka_221) (a2.toInt + (-1)) (by omega) (by omega) v359 hv359 ?_
                    refine r_goto ?_
                    refine At.enter rfl ?_
                    refine r_ireti ?_
                    exact ⟨_, rfl, hI346, hF350, _, rfl, trivial⟩
            · have c354_ : a2.toInt = 5 := en_i_ne_f c354
              refine At.enter rfl ?_
              refine r_aload_n rfl ?_
              refine q_getI (Sh.int hI346.1 kx_220 rfl) v351 hv351 ?_
              refine r_ireti ?_
              exact ⟨_, rfl, hI346, hF350, _, rfl, trivial⟩
          · have c353_ : a2.toInt = 0 := en_k_ne_f c353
            refine At.enter rfl ?_
            refine r_aload_n rfl ?_
            refine q_getI (Sh.int hI346.1 kx_220 rfl) 2 ((hF347.1 220 3 (by decide)).trans (gI_sI_eq hI321.1 kx_220 rfl _)) ?_
            refine r_ireti ?_
            exact ⟨_, rfl, hI346, hF350, _, rfl, trivial⟩
        · have c352_ : v351.toInt = 0 := en_k_ne_f c352
          refine At.enter rfl ?_
          refine r_aload_n rfl ?_
          refine r_iconst (-1) rfl ?_
          refine q_putI (Sh.int hI346.1 kx_220 rfl) rfl ?_
          have hI360 := HI.wI0 hI346 kx_220 rfl (p := 220) (b := 3) (v := (-1)) rfl
          have hF361 := Fr.wI (p := 220) (b := 3) (v := (-1)) hF350 rfl
          refine Ar.fall 79 rfl ?_
          refine At.enter rfl ?_
          refine r_iload_n rfl ?_
          refine r_ifs 83 rfl (fun c362 => ?_) (fun c362 => ?_)
          · have c362_ : a2.toInt ≠ 0 := en_k_ne_t c362
            refine At.enter rfl ?_
            refine r_iload_n rfl ?_
            refine r_iconst 5 rfl ?_
            refine r_ics 93 rfl (fun c363 => ?_) (fun c363 => ?_)
            · have c363_ : a2.toInt ≠ 5 := en_i_ne_t c363
              refine At.enter rfl ?_
              refine r_iload_n rfl ?_
              refine r_iconst 1 rfl ?_
              refine r_ics 103 rfl (fun c364 => ?_) (fun c364 => ?_)
              · have c364_ : a2.toInt < 1 := en_i_lt_t c364
                refine At.enter rfl ?_
                refine r_iconst (-1) rfl ?_
                refine Ar.fall 130 rfl ?_
                refine At.enter rfl ?_
                refine r_ireti ?_
                exact ⟨_, rfl, hI360, hF361, _, rfl, trivial⟩
              · have c364_ : a2.toInt ≥ 1 := en_i_lt_f c364
                refine At.enter rfl ?_
                refine r_iload_n rfl ?_
                refine r_iconst 4 rfl ?_
                refine r_ics 108 rfl (fun c365 => ?_) (fun c365 => ?_)
                · have c365_ : a2.toInt > 4 := en_i_gt_t c365
                  refine At.enter rfl ?_
                  refine r_iconst (-1) rfl ?_
                  refine Ar.fall 130 rfl ?_
                  refine At.enter rfl ?_
                  refine r_ireti ?_
                  exact ⟨_, rfl, hI360, hF361, _, rfl, trivial⟩
                · have c365_ : a2.toInt ≤ 4 := en_i_gt_f c365
                  refine At.enter rfl ?_
                  refine r_iload_n rfl ?_
                  refine r_iconst 2 rfl ?_
                  refine r_aload_n rfl ?_
                  refine q_getI (Sh.int hI360.1 kx_220 rfl) (-1) (gI_sI_eq hI346.1 kx_220 rfl _) ?_
                  refine r_imul (-2) (by decide) ?_
                  refine r_ics 118 rfl (fun c366 => ?_) (fun c366 => ?_)
                  · have c366_ : a2.toInt > (-2) := en_i_gt_t c366
                    refine At.enter rfl ?_
                    refine r_iconst (-1) rfl ?_
                    refine Ar.fall 130 rfl ?_
                    refine At.enter rfl ?_
                    refine r_ireti ?_
                    exact ⟨_, rfl, hI360, hF361, _, rfl, trivial⟩
                  · have c366_ : a2.toInt ≤ (-2) := en_i_gt_f c366
                    exfalso; omega
            · have c363_ : a2.toInt = 5 := en_i_ne_f c363
              refine At.enter rfl ?_
              refine r_aload_n rfl ?_
              refine q_getI (Sh.int hI360.1 kx_220 rfl) v351 ((gI_sI_ne (by decide)).trans hv351) ?_
              refine r_ireti ?_
              exact ⟨_, rfl, hI360, hF361, _, rfl, trivial⟩
          · have c362_ : a2.toInt = 0 := en_k_ne_f c362
            refine At.enter rfl ?_
            refine r_aload_n rfl ?_
            refine q_getI (Sh.int hI360.1 kx_220 rfl) (-1) (gI_sI_eq hI346.1 kx_220 rfl _) ?_
            refine r_ireti ?_
            exact ⟨_, rfl, hI360, hF361, _, rfl, trivial⟩
