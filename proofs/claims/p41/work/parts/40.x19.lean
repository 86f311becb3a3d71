def F_X2_gets_223 : List (Nat × Nat) := [(185, 3)]
def A_X2_gets_223 : List Nat := [226]
set_option maxRecDepth 100000 in
set_option maxHeartbeats 4000000 in
theorem T_X2_gets_223 (d : Nat) {N : Nat} {g0 : List en_E} (hI0 : HI g0) (a1 : Int32) (a2 : Int32) (a3 : Int32) : Ev (d + 4) 49 [.ref 223, .int a1, .int a2, .int a3] (g0, N) (fun w h' => ∃ g', h' = (g', N) ∧ HI g' ∧ Fr F_X2_gets_223 A_X2_gets_223 g0 g' ∧ ∃ r : Int32, w = some (.int r) ∧ True) := by
  have hF0 : Fr F_X2_gets_223 A_X2_gets_223 g0 g0 := Fr.rf
  refine Ev.mk rfl rfl ⟨Nat.le_of_ble_eq_true rfl, Or.inr (q_rc hI0.1 kx_223 rfl)⟩ ?_
  show At _ none _ _ (0, [(0, .ref 223), (1, .int a1), (2, .int a2), (3, .int a3)], [], (_, _)) _
  refine At.enter rfl ?_
  refine r_aload_n rfl ?_
  obtain ⟨v69, hv69⟩ : ∃ v, gI g0 223 6 = v := ⟨_, rfl⟩
  refine q_getI (Sh.int hI0.1 kx_223 rfl) v69 hv69 ?_
  refine r_ifs 7 rfl (fun c70 => ?_) (fun c70 => ?_)
  · have c70_ : v69.toInt = 0 := en_k_eq_t c70
    refine At.enter rfl ?_
    refine r_iload_n rfl ?_
    refine r_ireti ?_
    exact ⟨_, rfl, hI0, hF0, _, rfl, trivial⟩
  · have c70_ : v69.toInt ≠ 0 := en_k_eq_f c70
    refine At.enter rfl ?_
    refine r_aload_n rfl ?_
    refine q_getR (Sh.ref hI0.1 kx_223 rfl) ?_
    refine r_iload_n rfl ?_
    refine q_inlV 15 rfl [.ref 1, .int a1] [] (Nat.le_of_ble_eq_true rfl) rfl ?_
    refine Ev.mk rfl rfl ⟨Nat.le_of_ble_eq_true rfl, Or.inr (q_rc hI0.1 kx_1 rfl)⟩ ?_
    show At _ none _ _ (0, [(0, .ref 1), (1, .int a1)], [], (_, _)) _
    refine At.enter rfl ?_
    refine r_iload_n rfl ?_
    refine r_ifs 4 rfl (fun c71 => ?_) (fun c71 => ?_)
    · have c71_ : a1.toInt < 0 := en_k_lt_t c71
      refine At.enter rfl ?_
      refine r_iconst 0 rfl ?_
      refine Ar.fall 17 rfl ?_
      refine At.enter rfl ?_
      refine q_iretz (by decide) ?_
      refine At.enter rfl ?_
      refine r_ift (by decide) ?_
      refine At.enter rfl ?_
      refine r_iload_n rfl ?_
      refine r_ireti ?_
      exact ⟨_, rfl, hI0, hF0, _, rfl, trivial⟩
    · have c71_ : a1.toInt ≥ 0 := en_k_lt_f c71
      refine At.enter rfl ?_
      refine r_iload_n rfl ?_
      refine r_aload_n rfl ?_
      obtain ⟨v72, hv72⟩ : ∃ v, gI g0 1 4 = v := ⟨_, rfl⟩
      have rv72 := RgF.at hI0.2.1 (p := 1) (b := 4) rfl
      rw [hv72] at rv72
      dsimp only at rv72
      refine q_getI (Sh.int hI0.1 kx_1 rfl) v72 hv72 ?_
      have bv74 := q_bnd a1
      have bv75 := q_bnd v72
      refine r_ics 12 rfl (fun c73 => ?_) (fun c73 => ?_)
      · have c73_ : a1.toInt ≥ v72.toInt := en_i_ge_t c73
        refine At.enter rfl ?_
        refine r_iconst 0 rfl ?_
        refine Ar.fall 17 rfl ?_
        refine At.enter rfl ?_
        refine q_iretz (by decide) ?_
        refine At.enter rfl ?_
        refine r_ift (by decide) ?_
        refine At.enter rfl ?_
        refine r_iload_n rfl ?_
        refine r_ireti ?_
        exact ⟨_, rfl, hI0, hF0, _, rfl, trivial⟩
      · have c73_ : a1.toInt < v72.toInt := en_i_ge_f c73
        refine At.enter rfl ?_
        refine r_iconst 1 rfl ?_
        refine r_goto ?_
        refine At.enter rfl ?_
        refine q_iretz (by decide) ?_
        refine At.enter rfl ?_
        refine r_iff 18 rfl (by decide) ?_
        refine At.enter rfl ?_
        refine r_aload_n rfl ?_
        refine q_getR (Sh.ref hI0.1 kx_223 rfl) ?_
        refine r_iload_n rfl ?_
        refine q_inlV 26 rfl [.ref 1, .int a2] [] (Nat.le_of_ble_eq_true rfl) rfl ?_
        refine Ev.mk rfl rfl ⟨Nat.le_of_ble_eq_true rfl, Or.inr (q_rc hI0.1 kx_1 rfl)⟩ ?_
        show At _ none _ _ (0, [(0, .ref 1), (1, .int a2)], [], (_, _)) _
        refine At.enter rfl ?_
        refine r_iload_n rfl ?_
        refine r_ifs 4 rfl (fun c76 => ?_) (fun c76 => ?_)
        · have c76_ : a2.toInt < 0 := en_k_lt_t c76
          refine At.enter rfl ?_
          refine r_iconst 0 rfl ?_
          refine Ar.fall 17 rfl ?_
          refine At.enter rfl ?_
          refine q_iretz (by decide) ?_
          refine At.enter rfl ?_
          refine r_ift (by decide) ?_
          refine At.enter rfl ?_
          refine r_iload_n rfl ?_
          refine r_ireti ?_
          exact ⟨_, rfl, hI0, hF0, _, rfl, trivial⟩
        · have c76_ : a2.toInt ≥ 0 := en_k_lt_f c76
          refine At.enter rfl ?_
          refine r_iload_n rfl ?_
          refine r_aload_n rfl ?_
          obtain ⟨v77, hv77⟩ : ∃ v, gI g0 1 0 = v := ⟨_, rfl⟩
          have rv77 := RgF.at hI0.2.1 (p := 1) (b := 0) rfl
          rw [hv77] at rv77
          dsimp only at rv77
          refine q_getI (Sh.int hI0.1 kx_1 rfl) v77 hv77 ?_
          have bv79 := q_bnd a2
          have bv80 := q_bnd v77
          refine r_ics 12 rfl (fun c78 => ?_) (fun c78 => ?_)
          · have c78_ : a2.toInt ≥ v77.toInt := en_i_ge_t c78
            refine At.enter rfl ?_
            refine r_iconst 0 rfl ?_
            refine Ar.fall 17 rfl ?_
            refine At.enter rfl ?_
            refine q_iretz (by decide) ?_
            refine At.enter rfl ?_
            refine r_ift (by decide) ?_
            refine At.enter rfl ?_
            refine r_iload_n rfl ?_
            refine r_ireti ?_
            exact ⟨_, rfl, hI0, hF0, _, rfl, trivial⟩
          · have c78_ : a2.toInt < v77.toInt := en_i_ge_f c78
            refine At.enter rfl ?_
            refine r_iconst 1 rfl ?_
            refine r_goto ?_
            refine At.enter rfl ?_
            refine q_iretz (by decide) ?_
            refine At.enter rfl ?_
            refine r_iff 29 rfl (by decide) ?_
            refine At.enter rfl ?_
            refine r_iload_n rfl ?_
            refine q_inlS 33 rfl [.int a3] [] (Nat.le_of_ble_eq_true rfl) rfl ?_
            refine Ev.mk rfl rfl ⟨Nat.le_of_ble_eq_true rfl, Or.inl rfl⟩ ?_
            show At _ none _ _ (0, [(0, .int a3)], [], (_, _)) _
            refine At.enter rfl ?_
            refine r_iload_n rfl ?_
            refine r_iconst 0 rfl ?_
            refine r_bipush 99 rfl ?_
            refine q_inlS 7 rfl [.int a3, .int 0, .int 99] [] (Nat.le_of_ble_eq_true rfl) rfl ?_
            refine Ev.mk rfl rfl ⟨Nat.le_of_ble_eq_true rfl, Or.inl rfl⟩ ?_
            show At _ none _ _ (0, [(0, .int a3), (1, .int 0), (2, .int 99)], [], (_, _)) _
            refine At.enter rfl ?_
            refine r_iload_n rfl ?_
            refine r_iload_n rfl ?_
            refine r_ics 5 rfl (fun c81 => ?_) (fun c81 => ?_)
            · have c81_ : a3.toInt < 0 := en_i_lt_t c81
              refine At.enter rfl ?_
              refine r_iconst 0 rfl ?_
              refine Ar.fall 15 rfl ?_
              refine At.enter rfl ?_
              refine q_iretz (by decide) ?_
              refine At.enter rfl ?_
              refine q_iretz (by decide) ?_
              refine At.enter rfl ?_
              refine r_iff 36 rfl (by decide) ?_
              refine At.enter rfl ?_
              refine r_iload_n rfl ?_
              refine r_ireti ?_
              exact ⟨_, rfl, hI0, hF0, _, rfl, trivial⟩
            · have c81_ : a3.toInt ≥ 0 := en_i_lt_f c81
              refine At.enter rfl ?_
              refine r_iload_n rfl ?_
              refine r_iload_n rfl ?_
              refine r_ics 10 rfl (fun c82 => ?_) (fun c82 => ?_)
              · have c82_ : a3.toInt > 99 := en_i_gt_t c82
                refine At.enter rfl ?_
                refine r_iconst 0 rfl ?_
                refine Ar.fall 15 rfl ?_
                refine At.enter rfl ?_
                refine q_iretz (by decide) ?_
                refine At.enter rfl ?_
                refine q_iretz (by decide) ?_
                refine At.enter rfl ?_
                refine r_iff 36 rfl (by decide) ?_
                refine At.enter rfl ?_
                refine r_iload_n rfl ?_
                refine r_ireti ?_
                exact ⟨_, rfl, hI0, hF0, _, rfl, trivial⟩
              · have c82_ : a3.toInt ≤ 99 := en_i_gt_f c82
                refine At.enter rfl ?_
                refine r_iconst 1 rfl ?_
                refine r_goto ?_
                refine At.enter rfl ?_
                refine q_iretz (by decide) ?_
                refine At.enter rfl ?_
                refine q_iretz (by decide) ?_
                refine At.enter rfl ?_
                refine r_ift (by decide) ?_
                refine At.enter rfl ?_
                refine r_iload_n rfl ?_
                refine r_bipush 12 rfl ?_
                refine q_imul (a1.toInt * 12) rfl (by omega) (fun v83 hv83 => ?_)
                refine r_iload_n rfl ?_
                refine q_iadd (v83.toInt + a2.toInt) rfl (by omega) (fun v84 hv84 => ?_)
                refine r_bipush 100 rfl ?_
                refine q_imul (v84.toInt * 100) rfl (by omega) (fun v85 hv85 => ?_)
                refine r_iload_n rfl ?_
                refine q_iadd (v85.toInt + a3.toInt) rfl (by omega) (fun v86 hv86 => ?_)
                refine r_istore ([(4, .int v86), (0, .ref 223), (1, .int a1), (2, .int a2), (3, .int a3)]) rfl ?_
                refine r_aload_n rfl ?_
                refine q_getR (Sh.ref hI0.1 kx_223 rfl) ?_
                refine r_iload rfl ?_
                obtain ⟨v87, hv87⟩ : ∃ v, eA g0 226 (1200 * a1.toInt + 100 * a2.toInt + a3.toInt) = v := ⟨_, rfl⟩
                refine q_iald (Sh.arr hI0.1 ka_226) (1200 * a1.toInt + 100 * a2.toInt + a3.toInt) (by omega) (by omega) v87 hv87 ?_
                refine r_iconst (-1) rfl ?_
                refine r_ics 62 rfl (fun c88 => ?_) (fun c88 => ?_)
                · have c88_ : v87.toInt ≠ (-1) := en_i_ne_t c88
                  refine At.enter rfl ?_
                  refine r_aload_n rfl ?_
                  refine q_getR (Sh.ref hI0.1 kx_223 rfl) ?_
                  refine r_iload rfl ?_
                  refine q_iald (Sh.arr hI0.1 ka_226) (1200 * a1.toInt + 100 * a2.toInt + a3.toInt) (by omega) (by omega) v87 hv87 ?_
                  refine r_ireti ?_
                  exact ⟨_, rfl, hI0, hF0, _, rfl, trivial⟩
                · have c88_ : v87.toInt = (-1) := en_i_ne_f c88
                  refine At.enter rfl ?_
                  refine r_aload_n rfl ?_
                  refine q_getR (Sh.ref hI0.1 kx_223 rfl) ?_
                  refine r_iconst 1 rfl ?_
                  refine r_iload_n rfl ?_
                  refine r_iload_n rfl ?_
                  refine r_iconst 0 rfl ?_
                  refine r_iconst 0 rfl ?_
                  refine r_aload_n rfl ?_
                  refine q_getR (Sh.ref hI0.1 kx_223 rfl) ?_
                  refine q_getR (Sh.ref hI0.1 kx_1 rfl) ?_
                  refine r_iload_n rfl ?_
                  obtain ⟨v89, hv89⟩ : ∃ v, eA g0 3 a2.toInt = v := ⟨_, rfl⟩
                  refine q_iald (Sh.arr hI0.1 ka_3) a2.toInt rfl (by omega) v89 hv89 ?_
                  refine r_iload_n rfl ?_
                  refine r_callV 84 rfl [.ref 185, .int 1, .int a1, .int a2, .int 0, .int 0, .int v89, .int a3] [] (Nat.le_of_ble_eq_true rfl) rfl (T_X3_tells_185 _ hI0 1 a1 a2 0 0 v89 a3) ?_
                  rintro _ _ ⟨g90, rfl, hI91, hF92, v93, rfl, hr94⟩
                  refine At.stl ?_
                  have hF95 := Fr.tr hF0 hF92 rfl rfl
                  refine At.enter rfl ?_
                  refine r_lstore ([(5, .long v93), (4, .int v86), (0, .ref 223), (1, .int a1), (2, .int a2), (3, .int a3)]) rfl ?_
                  refine r_aload_n rfl ?_
                  refine q_getR (Sh.ref hI91.1 kx_223 rfl) ?_
                  refine r_iload rfl ?_
                  refine r_lconst 0 rfl ?_
                  refine r_ldc2 999 rfl ?_
                  refine r_lload rfl ?_
                  refine q_lmin rfl (Nat.le_of_ble_eq_true rfl) (fun v96 hv96 => ?_)
                  have zv97 : (999 : Int64).toInt = 999 := rfl
                  refine q_lmax rfl (Nat.le_of_ble_eq_true rfl) (fun v98 hv98 => ?_)
                  have zv99 : (0 : Int64).toInt = 0 := rfl
                  refine q_l2iO (fun v100 hv100 => ?_)
                  refine q_iast (Sh.arr hI91.1 ka_226) ((1200 * a1.toInt + 100 * a2.toInt + a3.toInt)) (by omega) (by omega) ?_
                  have hI101 := HI.wA0 hI91 ka_226 (p := 226) rfl rfl ((1200 * a1.toInt + 100 * a2.toInt + a3.toInt)) (v100)
                  have hF102 := Fr.wA (p := 226) (j := (1200 * a1.toInt + 100 * a2.toInt + a3.toInt)) (v := v100) hF95 rfl
                  refine Ar.fall 106 rfl ?_
                  refine At.enter rfl ?_
                  refine r_aload_n rfl ?_
                  refine q_getR (Sh.ref hI101.1 kx_223 rfl) ?_
                  refine r_iload rfl ?_
                  refine q_iald (Sh.arr hI101.1 ka_226) (1200 * a1.toInt + 100 * a2.toInt + a3.toInt) (by omega) (by omega) v100 (eA_sA_eq hI91.1 ka_226 (by first | rfl | omega) (by first | decide | omega) (by first | decide | omega)) ?_
                  refine r_ireti ?_
                  exact ⟨_, rfl, hI101, hF102, _, rfl, trivial⟩

def F_X2_costBeside_223 : List (Nat × Nat) := [(185, 3)]
def A_X2_costBeside_223 : List Nat := [226]
set_option maxRecDepth 100000 in
set_option maxHeartbeats 4000000 in
theorem T_X2_costBeside_223 (d : Nat) {N : Nat} {g0 : List en_E} (hI0 : HI g0) (a1 : Int32) (a2 : Int32) : Ev (d + 5) 48 [.ref 223, .int a1, .int a2] (g0, N) (fun w h' => ∃ g', h' = (g', N) ∧ HI g' ∧ Fr F_X2_costBeside_223 A_X2_costBeside_223 g0 g' ∧ ∃ r : Int32, w = some (.int r) ∧ True) := by
  have hF0 : Fr F_X2_costBeside_223 A_X2_costBeside_223 g0 g0 := Fr.rf
  refine Ev.mk rfl rfl ⟨Nat.le_of_ble_eq_true rfl, Or.inr (q_rc hI0.1 kx_223 rfl)⟩ ?_
  show At _ none _ _ (0, [(0, .ref 223), (1, .int a1), (2, .int a2)], [], (_, _)) _
  refine At.enter rfl ?_
  refine r_aload_n rfl ?_
  refine q_getR (Sh.ref hI0.1 kx_223 rfl) ?_
  refine r_iload_n rfl ?_
  refine r_callV 8 rfl [.ref 1, .int a1] [] (Nat.le_of_ble_eq_true rfl) rfl (T_X0_handsOf_1 _ hI0 a1) ?_
  rintro _ _ ⟨g1493, rfl, hI1494, hF1495, v1496, rfl, hr1497⟩
  refine At.sti ?_
  have hF1498 := Fr.tr hF0 hF1495 rfl rfl
  refine At.enter rfl ?_
  refine r_istore_n ([(3, .int v1496), (0, .ref 223), (1, .int a1), (2, .int a2)]) rfl ?_
  refine r_iload_n rfl ?_
  refine r_iconst (-1) rfl ?_
  refine r_ics 14 rfl (fun c1499 => ?_) (fun c1499 => ?_)
  · have c1499_ : a2.toInt ≠ (-1) := en_i_ne_t c1499
    refine At.enter rfl ?_
    refine r_iconst 0 rfl ?_
    refine Ar.fall 24 rfl ?_
    refine At.enter rfl ?_
    refine r_istore ([(4, .int 0), (3, .int v1496), (0, .ref 223), (1, .int a1), (2, .int a2)]) rfl ?_
    refine r_iconst 0 rfl ?_
    refine r_istore ([(5, .int 0), (4, .int 0), (3, .int v1496), (0, .ref 223), (1, .int a1), (2, .int a2)]) rfl ?_
    refine r_aload_n rfl ?_
    refine q_getR (Sh.ref hI1494.1 kx_223 rfl) ?_
    refine r_iload_n rfl ?_
    refine r_iconst 1 rfl ?_
    refine r_callV 38 rfl [.ref 1, .int a1, .int 1] [] (Nat.le_of_ble_eq_true rfl) rfl (T_X0_about_1 _ hI1494 a1 1) ?_
    rintro _ _ ⟨g1500, rfl, hI1501, hF1502, v1503, rfl, hr1504⟩
    refine At.sti ?_
    have hF1505 := Fr.tr hF1498 hF1502 rfl rfl
    have zv1506 : (1 : Int32).toInt = 1 := rfl
    refine At.enter rfl ?_
    refine r_istore ([(6, .int v1503), (5, .int 0), (4, .int 0), (3, .int v1496), (0, .ref 223), (1, .int a1), (2, .int a2)]) rfl ?_
    refine r_iconst 0 rfl ?_
    refine r_istore ([(7, .int 0), (6, .int v1503), (5, .int 0), (4, .int 0), (3, .int v1496), (0, .ref 223), (1, .int a1), (2, .int a2)]) rfl ?_
    refine Ar.fall 43 rfl ?_
    have z_1840 : (0 : Int32).toInt = 0 := rfl
    have z_1841 : (0 : Int32).toInt = 0 := rfl
    have z_1842 : (0 : Int32).toInt = 0 := rfl
    refine w_loopI (fun n_ l_ g_ => ∃ x1820 : Int32, ∃ x1821 : Int32, ∃ x1822 : Int32, ∃ x1823 : Int32, n_ = 11 - x1823.toInt ∧ HI g_ ∧ Fr F_X2_costBeside_223 A_X2_costBeside_223 g0 g_ ∧ en_get 0 l_ = some (.ref 223) ∧ en_get 1 l_ = some (.int a1) ∧ en_get 2 l_ = some (.int a2) ∧ en_get 3 l_ = some (.int v1496) ∧ en_get 4 l_ = some (.int x1820) ∧ en_get 5 l_ = some (.int x1821) ∧ en_get 6 l_ = some (.int x1822) ∧ en_get 7 l_ = some (.int x1823) ∧ (0 ≤ x1820.toInt ∧ x1820.toInt ≤ 1) ∧ (0 ≤ x1823.toInt ∧ x1823.toInt ≤ 11)) ?_ (11 - 0) ⟨0, 0, v1503, 0, by first | rfl | omega, hI1501, hF1505, rfl, rfl, rfl, rfl, rfl, rfl, rfl, rfl, by decide, by decide⟩
    rintro n1828 l1827 g1824 ⟨x1820, x1821, x1822, x1823, hm1843, hI1825, hF1826, e1830, e1831, e1832, e1833, e1834, e1835, e1836, e1837, r1838, r1839⟩ ih1829
    refine At.enter rfl ?_
    refine r_iload e1837 ?_
    refine r_iload_n e1833 ?_
    have bv1845 := q_bnd x1823
    have bv1846 := q_bnd v1496
    refine r_ics 49 rfl (fun c1844 => ?_) (fun c1844 => ?_)
    · have c1844_ : x1823.toInt ≥ v1496.toInt := en_i_ge_t c1844
      refine At.enter rfl ?_
      refine r_iload e1834 ?_
      refine r_ifs 114 rfl (fun c1847 => ?_) (fun c1847 => ?_)
      · have c1847_ : x1820.toInt = 0 := en_k_eq_t c1847
        refine At.enter rfl ?_
        refine r_iconst (-1) rfl ?_
        refine Ar.fall 120 rfl ?_
        refine At.enter rfl ?_
        refine r_ireti ?_
        exact ⟨_, rfl, hI1825, hF1826, _, rfl, trivial⟩
      · have c1847_ : x1820.toInt ≠ 0 := en_k_eq_f c1847
        refine At.enter rfl ?_
        refine r_iload e1835 ?_
        refine r_goto ?_
        refine At.enter rfl ?_
        refine r_ireti ?_
        exact ⟨_, rfl, hI1825, hF1826, _, rfl, trivial⟩
    · have c1844_ : x1823.toInt < v1496.toInt := en_i_ge_f c1844
      refine At.enter rfl ?_
      refine r_aload_n e1830 ?_
      refine q_getR (Sh.ref hI1825.1 kx_223 rfl) ?_
      refine r_iload e1836 ?_
      refine q_inlV 58 rfl [.ref 1, .int x1822] [] (Nat.le_of_ble_eq_true rfl) rfl ?_
      refine Ev.mk rfl rfl ⟨Nat.le_of_ble_eq_true rfl, Or.inr (q_rc hI1825.1 kx_1 rfl)⟩ ?_
      show At _ none _ _ (0, [(0, .ref 1), (1, .int x1822)], [], (_, _)) _
      refine At.enter rfl ?_
      refine r_iload_n rfl ?_
      refine r_ifs 4 rfl (fun c1848 => ?_) (fun c1848 => ?_)
      · have c1848_ : x1822.toInt < 0 := en_k_lt_t c1848
        refine At.enter rfl ?_
        refine r_iconst 0 rfl ?_
        refine Ar.fall 17 rfl ?_
        refine At.enter rfl ?_
        refine q_iretz (by decide) ?_
        refine At.enter rfl ?_
        refine r_ift (by decide) ?_
        refine At.enter rfl ?_
        refine r_iload e1834 ?_
        refine r_ifs 114 rfl (fun c1849 => ?_) (fun c1849 => ?_)
        · have c1849_ : x1820.toInt = 0 := en_k_eq_t c1849
          refine At.enter rfl ?_
          refine r_iconst (-1) rfl ?_
          refine Ar.fall 120 rfl ?_
          refine At.enter rfl ?_
          refine r_ireti ?_
          exact ⟨_, rfl, hI1825, hF1826, _, rfl, trivial⟩
        · have c1849_ : x1820.toInt ≠ 0 := en_k_eq_f c1849
          refine At.enter rfl ?_
          refine r_iload e1835 ?_
          refine r_goto ?_
          refine At.enter rfl ?_
          refine r_ireti ?_
          exact ⟨_, rfl, hI1825, hF1826, _, rfl, trivial⟩
      · have c1848_ : x1822.toInt ≥ 0 := en_k_lt_f c1848
        refine At.enter rfl ?_
        refine r_iload_n rfl ?_
        refine r_aload_n rfl ?_
        obtain ⟨v1850, hv1850⟩ : ∃ v, gI g0 1 0 = v := ⟨_, rfl⟩
        have rv1850 := RgF.at hI0.2.1 (p := 1) (b := 0) rfl
        rw [hv1850] at rv1850
        dsimp only at rv1850
        refine q_getI (Sh.int hI1825.1 kx_1 rfl) v1850 ((hF1826.1 1 0 (by decide)).trans hv1850) ?_
        have bv1852 := q_bnd x1822
        have bv1853 := q_bnd v1850
        refine r_ics 12 rfl (fun c1851 => ?_) (fun c1851 => ?_)
        · have c1851_ : x1822.toInt ≥ v1850.toInt := en_i_ge_t c1851
          refine At.enter rfl ?_
          refine r_iconst 0 rfl ?_
          refine Ar.fall 17 rfl ?_
          refine At.enter rfl ?_
          refine q_iretz (by decide) ?_
          refine At.enter rfl ?_
          refine r_ift (by decide) ?_
          refine At.enter rfl ?_
          refine r_iload e1834 ?_
          refine r_ifs 114 rfl (fun c1854 => ?_) (fun c1854 => ?_)
          · have c1854_ : x1820.toInt = 0 := en_k_eq_t c1854
            refine At.enter rfl ?_
            refine r_iconst (-1) rfl ?_
            refine Ar.fall 120 rfl ?_
            refine At.enter rfl ?_
            refine r_ireti ?_
            exact ⟨_, rfl, hI1825, hF1826, _, rfl, trivial⟩
          · have c1854_ : x1820.toInt ≠ 0 := en_k_eq_f c1854
            refine At.enter rfl ?_
            refine r_iload e1835 ?_
            refine r_goto ?_
            refine At.enter rfl ?_
            refine r_ireti ?_
            exact ⟨_, rfl, hI1825, hF1826, _, rfl, trivial⟩
        · have c1851_ : x1822.toInt < v1850.toInt := en_i_ge_f c1851
          refine At.enter rfl ?_
          refine r_iconst 1 rfl ?_
          refine r_goto ?_
          refine At.enter rfl ?_
          refine q_iretz (by decide) ?_
          refine At.enter rfl ?_
          refine r_iff 61 rfl (by decide) ?_
          refine At.enter rfl ?_
          refine r_iload e1836 ?_
          refine r_iload_n e1832 ?_
          refine r_ics 67 rfl (fun c1855 => ?_) (fun c1855 => ?_)
          · have c1855_ : x1822.toInt ≠ a2.toInt := en_i_ne_t c1855
            refine At.enter rfl ?_
            refine r_iload e1835 ?_
            refine r_aload_n e1830 ?_
            refine r_iload_n e1831 ?_
            refine r_iload e1836 ?_
            refine r_aload_n e1830 ?_
            refine q_getR (Sh.ref hI1825.1 kx_223 rfl) ?_
            refine r_iload e1836 ?_
            obtain ⟨v1856, hv1856⟩ : ∃ v, eA g0 224 x1822.toInt = v := ⟨_, rfl⟩
            refine q_iald (Sh.arr hI1825.1 ka_224) x1822.toInt rfl (by omega) v1856 ((eA_c (hF1826.2.1 224 (by decide))).trans hv1856) ?_
            refine r_callV 89 rfl [.ref 223, .int a1, .int x1822, .int v1856] [.int x1821] (Nat.le_of_ble_eq_true rfl) rfl (T_X2_gets_223 _ hI1825 a1 x1822 v1856) ?_
            rintro _ _ ⟨g1857, rfl, hI1858, hF1859, v1860, rfl, hr1861⟩
            refine At.sti ?_
            have hF1862 := Fr.tr hF1826 hF1859 rfl rfl
            refine At.enter rfl ?_
            refine q_iaddO (fun v1863 _ => ?_)
            refine r_istore _ rfl ?_
            refine Ar.fall 92 rfl ?_
            refine At.enter rfl ?_
            refine r_aload_n (w_p1 (by decide) (Or.inr rfl) e1830) ?_
            refine q_getR (Sh.ref hI1858.1 kx_223 rfl) ?_
            refine r_iload (w_p1 (by decide) (Or.inr rfl) e1836) ?_
            refine r_callV 101 rfl [.ref 1, .int x1822] [] (Nat.le_of_ble_eq_true rfl) rfl (T_X0_next_1 _ hI1858 x1822) ?_
            rintro _ _ ⟨g1864, rfl, hI1865, hF1866, v1867, rfl, hr1868⟩
            refine At.sti ?_
            have hF1869 := Fr.tr hF1862 hF1866 rfl rfl
            refine At.enter rfl ?_
            refine r_istore _ rfl ?_
            refine q_iinc (w_p1 (by decide) (Or.inr rfl) (w_p1 (by decide) (Or.inr rfl) e1837)) (x1823.toInt + 1) rfl (by omega) (fun v1870 hv1870 => ?_)
            refine r_goto ?_
            have bv1871 := q_bnd v1863
            have bv1872 := q_bnd v1867
            exact ih1829 (11 - v1870.toInt) _ _ ⟨x1820, v1863, v1867, v1870, by first | rfl | omega, hI1865, hF1869, (w_p1 (by decide) (Or.inr rfl) (w_p1 (by decide) (Or.inr rfl) (w_p1 (by decide) (Or.inr rfl) e1830))), (w_p1 (by decide) (Or.inr rfl) (w_p1 (by decide) (Or.inr rfl) (w_p1 (by decide) (Or.inr rfl) e1831))), (w_p1 (by decide) (Or.inr rfl) (w_p1 (by decide) (Or.inr rfl) (w_p1 (by decide) (Or.inr rfl) e1832))), (w_p1 (by decide) (Or.inr rfl) (w_p1 (by decide) (Or.inr rfl) (w_p1 (by decide) (Or.inr rfl) e1833))), (w_p1 (by decide) (Or.inr rfl) (w_p1 (by decide) (Or.inr rfl) (w_p1 (by decide) (Or.inr rfl) e1834))), (w_p1 (by decide) (Or.inr rfl) (w_p1 (by decide) (Or.inr rfl) (w_e1 _ _ _))), (w_p1 (by decide) (Or.inr rfl) (w_e1 _ _ _)), (w_e1 _ _ _), by omega, by omega⟩ ⟨by omega, by omega⟩
          · have c1855_ : x1822.toInt = a2.toInt := en_i_ne_f c1855
            refine At.enter rfl ?_
            refine r_iconst 1 rfl ?_
            refine r_istore _ rfl ?_
            refine r_goto ?_
            refine At.enter rfl ?_
            refine r_aload_n (w_p1 (by decide) (Or.inr rfl) e1830) ?_
            refine q_getR (Sh.ref hI1825.1 kx_223 rfl) ?_
            refine r_iload (w_p1 (by decide) (Or.inr rfl) e1836) ?_
            refine r_callV 101 rfl [.ref 1, .int x1822] [] (Nat.le_of_ble_eq_true rfl) rfl (T_X0_next_1 _ hI1825 x1822) ?_
            rintro _ _ ⟨g1873, rfl, hI1874, hF1875, v1876, rfl, hr1877⟩
            refine At.sti ?_
            have hF1878 := Fr.tr hF1826 hF1875 rfl rfl
            refine At.enter rfl ?_
            refine r_istore _ rfl ?_
            refine q_iinc (w_p1 (by decide) (Or.inr rfl) (w_p1 (by decide) (Or.inr rfl) e1837)) (x1823.toInt + 1) rfl (by omega) (fun v1879 hv1879 => ?_)
            refine r_goto ?_
            have bv1880 := q_bnd x1821
            have bv1881 := q_bnd v1876
            exact ih1829 (11 - v1879.toInt) _ _ ⟨1, x1821, v1876, v1879, by first | rfl | omega, hI1874, hF1878, (w_p1 (by decide) (Or.inr rfl) (w_p1 (by decide) (Or.inr rfl) (w_p1 (by decide) (Or.inr rfl) e1830))), (w_p1 (by decide) (Or.inr rfl) (w_p1 (by decide) (Or.inr rfl) (w_p1 (by decide) (Or.inr rfl) e1831))), (w_p1 (by decide) (Or.inr rfl) (w_p1 (by decide) (Or.inr rfl) (w_p1 (by decide) (Or.inr rfl) e1832))), (w_p1 (by decide) (Or.inr rfl) (w_p1 (by decide) (Or.inr rfl) (w_p1 (by decide) (Or.inr rfl) e1833))), (w_p1 (by decide) (Or.inr rfl) (w_p1 (by decide) (Or.inr rfl) (w_e1 _ _ _))), (w_p1 (by decide) (Or.inr rfl) (w_p1 (by decide) (Or.inr rfl) (w_p1 (by decide) (Or.inr rfl) e1835))), (w_p1 (by decide) (Or.inr rfl) (w_e1 _ _ _)), (w_e1 _ _ _), by decide, by omega⟩ ⟨by omega, by omega⟩
  · have c1499_ : a2.toInt = (-1) := en_i_ne_f c1499
    refine At.enter rfl ?_
    refine r_iload_n rfl ?_
    refine r_iconst (-1) rfl ?_
    refine r_ics 19 rfl (fun c1882 => ?_) (fun c1882 => ?_)
    · have c1882_ : v1496.toInt = (-1) := en_i_eq_t c1882
      refine At.enter rfl ?_
      refine r_iconst 0 rfl ?_
      refine Ar.fall 24 rfl ?_
      refine At.enter rfl ?_
      refine r_istore ([(4, .int 0), (3, .int v1496), (0, .ref 223), (1, .int a1), (2, .int a2)]) rfl ?_
      refine r_iconst 0 rfl ?_
      refine r_istore ([(5, .int 0), (4, .int 0), (3, .int v1496), (0, .ref 223), (1, .int a1), (2, .int a2)]) rfl ?_
      refine r_aload_n rfl ?_
      refine q_getR (Sh.ref hI1494.1 kx_223 rfl) ?_
      refine r_iload_n rfl ?_
      refine r_iconst 1 rfl ?_
      refine r_callV 38 rfl [.ref 1, .int a1, .int 1] [] (Nat.le_of_ble_eq_true rfl) rfl (T_X0_about_1 _ hI1494 a1 1) ?_
      rintro _ _ ⟨g1883, rfl, hI1884, hF1885, v1886, rfl, hr1887⟩
      refine At.sti ?_
      have hF1888 := Fr.tr hF1498 hF1885 rfl rfl
      have zv1889 : (1 : Int32).toInt = 1 := rfl
      refine At.enter rfl ?_
      refine r_istore ([(6, .int v1886), (5, .int 0), (4, .int 0), (3, .int v1496), (0, .ref 223), (1, .int a1), (2, .int a2)]) rfl ?_
      refine r_iconst 0 rfl ?_
      refine r_istore ([(7, .int 0), (6, .int v1886), (5, .int 0), (4, .int 0), (3, .int v1496), (0, .ref 223), (1, .int a1), (2, .int a2)]) rfl ?_
      refine Ar.fall 43 rfl ?_
      have z_1920 : (0 : Int32).toInt = 0 := rfl
      have z_1921 : (0 : Int32).toInt = 0 := rfl
      have z_1922 : (0 : Int32).toInt = 0 := rfl
      refine w_loopI (fun n_ l_ g_ => ∃ x1899 : Int32, ∃ x1900 : Int32, ∃ x1901 : Int32, ∃ x1902 : Int32, n_ = 0 ∧ HI g_ ∧ Fr F_X2_costBeside_223 A_X2_costBeside_223 g0 g_ ∧ en_get 0 l_ = some (.ref 223) ∧ en_get 1 l_ = some (.int a1) ∧ en_get 2 l_ = some (.int a2) ∧ en_get 3 l_ = some (.int v1496) ∧ en_get 4 l_ = some (.int x1899) ∧ en_get 5 l_ = some (.int x1900) ∧ en_get 6 l_ = some (.int x1901) ∧ en_get 7 l_ = some (.int x1902) ∧ (0 ≤ x1899.toInt ∧ x1899.toInt ≤ 0) ∧ (0 ≤ x1900.toInt ∧ x1900.toInt ≤ 0) ∧ (0 ≤ x1902.toInt ∧ x1902.toInt ≤ 0)) ?_ (0) ⟨0, 0, v1886, 0, by first | rfl | omega, hI1884, hF1888, rfl, rfl, rfl, rfl, rfl, rfl, rfl, rfl, by decide, by decide, by decide⟩
      rintro n1907 l1906 g1903 ⟨x1899, x1900, x1901, x1902, hm1923, hI1904, hF1905, e1909, e1910, e1911, e1912, e1913, e1914, e1915, e1916, r1917, r1918, r1919⟩ ih1908
      refine At.enter rfl ?_
      refine r_iload e1916 ?_
      refine r_iload_n e1912 ?_
      have bv1925 := q_bnd x1902
      have bv1926 := q_bnd v1496
      refine r_ics 49 rfl (fun c1924 => ?_) (fun c1924 => ?_)
      · have c1924_ : x1902.toInt ≥ v1496.toInt := en_i_ge_t c1924
        refine At.enter rfl ?_
        refine r_iload e1913 ?_
        refine r_ifs 114 rfl (fun c1927 => ?_) (fun c1927 => ?_)
        · have c1927_ : x1899.toInt = 0 := en_k_eq_t c1927
          refine At.enter rfl ?_
          refine r_iconst (-1) rfl ?_
          refine Ar.fall 120 rfl ?_
          refine At.enter rfl ?_
          refine r_ireti ?_
          exact ⟨_, rfl, hI1904, hF1905, _, rfl, trivial⟩
        · have c1927_ : x1899.toInt ≠ 0 := en_k_eq_f c1927
          exfalso; omega
      · have c1924_ : x1902.toInt < v1496.toInt := en_i_ge_f c1924
        exfalso; omega
    · have c1882_ : v1496.toInt ≠ (-1) := en_i_eq_f c1882
      refine At.enter rfl ?_
      refine r_iconst 1 rfl ?_
      refine r_goto ?_
      refine At.enter rfl ?_
      refine r_istore ([(4, .int 1), (3, .int v1496), (0, .ref 223), (1, .int a1), (2, .int a2)]) rfl ?_
      refine r_iconst 0 rfl ?_
      refine r_istore ([(5, .int 0), (4, .int 1), (3, .int v1496), (0, .ref 223), (1, .int a1), (2, .int a2)]) rfl ?_
      refine r_aload_n rfl ?_
      refine q_getR (Sh.ref hI1494.1 kx_223 rfl) ?_
      refine r_iload_n rfl ?_
      refine r_iconst 1 rfl ?_
      refine r_callV 38 rfl [.ref 1, .int a1, .int 1] [] (Nat.le_of_ble_eq_true rfl) rfl (T_X0_about_1 _ hI1494 a1 1) ?_
      rintro _ _ ⟨g1928, rfl, hI1929, hF1930, v1931, rfl, hr1932⟩
      refine At.sti ?_
      have hF1933 := Fr.tr hF1498 hF1930 rfl rfl
      have zv1934 : (1 : Int32).toInt = 1 := rfl
      refine At.enter rfl ?_
      refine r_istore ([(6, .int v1931), (5, .int 0), (4, .int 1), (3, .int v1496), (0, .ref 223), (1, .int a1), (2, .int a2)]) rfl ?_
      refine r_iconst 0 rfl ?_
      refine r_istore ([(7, .int 0), (6, .int v1931), (5, .int 0), (4, .int 1), (3, .int v1496), (0, .ref 223), (1, .int a1), (2, .int a2)]) rfl ?_
      refine Ar.fall 43 rfl ?_
      have z_2212 : (1 : Int32).toInt = 1 := rfl
      have z_2213 : (0 : Int32).toInt = 0 := rfl
      have z_2214 : (0 : Int32).toInt = 0 := rfl
      refine w_loopI (fun n_ l_ g_ => ∃ x2192 : Int32, ∃ x2193 : Int32, ∃ x2194 : Int32, ∃ x2195 : Int32, n_ = 11 - x2195.toInt ∧ HI g_ ∧ Fr F_X2_costBeside_223 A_X2_costBeside_223 g0 g_ ∧ en_get 0 l_ = some (.ref 223) ∧ en_get 1 l_ = some (.int a1) ∧ en_get 2 l_ = some (.int a2) ∧ en_get 3 l_ = some (.int v1496) ∧ en_get 4 l_ = some (.int x2192) ∧ en_get 5 l_ = some (.int x2193) ∧ en_get 6 l_ = some (.int x2194) ∧ en_get 7 l_ = some (.int x2195) ∧ (1 ≤ x2192.toInt ∧ x2192.toInt ≤ 1) ∧ (0 ≤ x2195.toInt ∧ x2195.toInt ≤ 11)) ?_ (11 - 0) ⟨1, 0, v1931, 0, by first | rfl | omega, hI1929, hF1933, rfl, rfl, rfl, rfl, rfl, rfl, rfl, rfl, by decide, by decide⟩
      rintro n2200 l2199 g2196 ⟨x2192, x2193, x2194, x2195, hm2215, hI2197, hF2198, e2202, e2203, e2204, e2205, e2206, e2207, e2208, e2209, r2210, r2211⟩ ih2201
      refine At.enter rfl ?_
      refine r_iload e2209 ?_
      refine r_iload_n e2205 ?_
      have bv2217 := q_bnd x2195
      have bv2218 := q_bnd v1496
      refine r_ics 49 rfl (fun c2216 => ?_) (fun c2216 => ?_)
      · have c2216_ : x2195.toInt ≥ v1496.toInt := en_i_ge_t c2216
        refine At.enter rfl ?_
        refine r_iload e2206 ?_
        refine r_ifs 114 rfl (fun c2219 => ?_) (fun c2219 => ?_)
        · have c2219_ : x2192.toInt = 0 := en_k_eq_t c2219
          exfalso; omega
        · have c2219_ : x2192.toInt ≠ 0 := en_k_eq_f c2219
          refine At.enter rfl ?_
          refine r_iload e2207 ?_
          refine r_goto ?_
          refine At.enter rfl ?_
          refine r_ireti ?_
          exact ⟨_, rfl, hI2197, hF2198, _, rfl, trivial⟩
      · have c2216_ : x2195.toInt < v1496.toInt := en_i_ge_f c2216
        refine At.enter rfl ?_
        refine r_aload_n e2202 ?_
        refine q_getR (Sh.ref hI2197.1 kx_223 rfl) ?_
        refine r_iload e2208 ?_
        refine q_inlV 58 rfl [.ref 1, .int x2194] [] (Nat.le_of_ble_eq_true rfl) rfl ?_
        refine Ev.mk rfl rfl ⟨Nat.le_of_ble_eq_true rfl, Or.inr (q_rc hI2197.1 kx_1 rfl)⟩ ?_
        show At _ none _ _ (0, [(0, .ref 1), (1, .int x2194)], [], (_, _)) _
        refine At.enter rfl ?_
        refine r_iload_n rfl ?_
        refine r_ifs 4 rfl (fun c2220 => ?_) (fun c2220 => ?_)
        · have c2220_ : x2194.toInt < 0 := en_k_lt_t c2220
          refine At.enter rfl ?_
          refine r_iconst 0 rfl ?_
          refine Ar.fall 17 rfl ?_
          refine At.enter rfl ?_
          refine q_iretz (by decide) ?_
          refine At.enter rfl ?_
          refine r_ift (by decide) ?_
          refine At.enter rfl ?_
          refine r_iload e2206 ?_
          refine r_ifs 114 rfl (fun c2221 => ?_) (fun c2221 => ?_)
          · have c2221_ : x2192.toInt = 0 := en_k_eq_t c2221
            exfalso; omega
          · have c2221_ : x2192.toInt ≠ 0 := en_k_eq_f c2221
            refine At.enter rfl ?_
            refine r_iload e2207 ?_
            refine r_goto ?_
            refine At.enter rfl ?_
            refine r_ireti ?_
            exact ⟨_, rfl, hI2197, hF2198, _, rfl, trivial⟩
        · have c2220_ : x2194.toInt ≥ 0 := en_k_lt_f c2220
          refine At.enter rfl ?_
          refine r_iload_n rfl ?_
          refine r_aload_n rfl ?_
          obtain ⟨v2222, hv2222⟩ : ∃ v, gI g0 1 0 = v := ⟨_, rfl⟩
          have rv2222 := RgF.at hI0.2.1 (p := 1) (b := 0) rfl
          rw [hv2222] at rv2222
          dsimp only at rv2222
          refine q_getI (Sh.int hI2197.1 kx_1 rfl) v2222 ((hF2198.1 1 0 (by decide)).trans hv2222) ?_
          have bv2224 := q_bnd x2194
          have bv2225 := q_bnd v2222
          refine r_ics 12 rfl (fun c2223 => ?_) (fun c2223 => ?_)
          · have c2223_ : x2194.toInt ≥ v2222.toInt := en_i_ge_t c2223
            refine At.enter rfl ?_
            refine r_iconst 0 rfl ?_
            refine Ar.fall 17 rfl ?_
            refine At.enter rfl ?_
            refine q_iretz (by decide) ?_
            refine At.enter rfl ?_
            refine r_ift (by decide) ?_
            refine At.enter rfl ?_
            refine r_iload e2206 ?_
            refine r_ifs 114 rfl (fun c2226 => ?_) (fun c2226 => ?_)
            · have c2226_ : x2192.toInt = 0 := en_k_eq_t c2226
              exfalso; omega
            · have c2226_ : x2192.toInt ≠ 0 := en_k_eq_f c2226
              refine At.enter rfl ?_
              refine r_iload e2207 ?_
              refine r_goto ?_
              refine At.enter rfl ?_
              refine r_ireti ?_
              exact ⟨_, rfl, hI2197, hF2198, _, rfl, trivial⟩
          · have c2223_ : x2194.toInt < v2222.toInt := en_i_ge_f c2223
            refine At.enter rfl ?_
            refine r_iconst 1 rfl ?_
            refine r_goto ?_
            refine At.enter rfl ?_
            refine q_iretz (by decide) ?_
            refine At.enter rfl ?_
            refine r_iff 61 rfl (by decide) ?_
            refine At.enter rfl ?_
            refine r_iload e2208 ?_
            refine r_iload_n e2204 ?_
            refine r_ics 67 rfl (fun c2227 => ?_) (fun c2227 => ?_)
            · have c2227_ : x2194.toInt ≠ a2.toInt := en_i_ne_t c2227
              refine At.enter rfl ?_
              refine r_iload e2207 ?_
              refine r_aload_n e2202 ?_
              refine r_iload_n e2203 ?_
              refine r_iload e2208 ?_
              refine r_aload_n e2202 ?_
              refine q_getR (Sh.ref hI2197.1 kx_223 rfl) ?_
              refine r_iload e2208 ?_
              obtain ⟨v2228, hv2228⟩ : ∃ v, eA g0 224 x2194.toInt = v := ⟨_, rfl⟩
              refine q_iald (Sh.arr hI2197.1 ka_224) x2194.toInt rfl (by omega) v2228 ((eA_c (hF2198.2.1 224 (by decide))).trans hv2228) ?_
              refine r_callV 89 rfl [.ref 223, .int a1, .int x2194, .int v2228] [.int x2193] (Nat.le_of_ble_eq_true rfl) rfl (T_X2_gets_223 _ hI2197 a1 x2194 v2228) ?_
              rintro _ _ ⟨g2229, rfl, hI2230, hF2231, v2232, rfl, hr2233⟩
              refine At.sti ?_
              have hF2234 := Fr.tr hF2198 hF2231 rfl rfl
              refine At.enter rfl ?_
              refine q_iaddO (fun v2235 _ => ?_)
              refine r_istore _ rfl ?_
              refine Ar.fall 92 rfl ?_
              refine At.enter rfl ?_
              refine r_aload_n (w_p1 (by decide) (Or.inr rfl) e2202) ?_
              refine q_getR (Sh.ref hI2230.1 kx_223 rfl) ?_
              refine r_iload (w_p1 (by decide) (Or.inr rfl) e2208) ?_
              refine r_callV 101 rfl [.ref 1, .int x2194] [] (Nat.le_of_ble_eq_true rfl) rfl (T_X0_next_1 _ hI2230 x2194) ?_
              rintro _ _ ⟨g2236, rfl, hI2237, hF2238, v2239, rfl, hr2240⟩
              refine At.sti ?_
              have hF2241 := Fr.tr hF2234 hF2238 rfl rfl
              refine At.enter rfl ?_
              refine r_istore _ rfl ?_
              refine q_iinc (w_p1 (by decide) (Or.inr rfl) (w_p1 (by decide) (Or.inr rfl) e2209)) (x2195.toInt + 1) rfl (by omega) (fun v2242 hv2242 => ?_)
              refine r_goto ?_
              have bv2243 := q_bnd v2235
              have bv2244 := q_bnd v2239
              exact ih2201 (11 - v2242.toInt) _ _ ⟨x2192, v2235, v2239, v2242, by first | rfl | omega, hI2237, hF2241, (w_p1 (by decide) (Or.inr rfl) (w_p1 (by decide) (Or.inr rfl) (w_p1 (by decide) (Or.inr rfl) e2202))), (w_p1 (by decide) (Or.inr rfl) (w_p1 (by decide) (Or.inr rfl) (w_p1 (by decide) (Or.inr rfl) e2203))), (w_p1 (by decide) (Or.inr rfl) (w_p1 (by decide) (Or.inr rfl) (w_p1 (by decide) (Or.inr rfl) e2204))), (w_p1 (by decide) (Or.inr rfl) (w_p1 (by decide) (Or.inr rfl) (w_p1 (by decide) (Or.inr rfl) e2205))), (w_p1 (by decide) (Or.inr rfl) (w_p1 (by decide) (Or.inr rfl) (w_p1 (by decide) (Or.inr rfl) e2206))), (w_p1 (by decide) (Or.inr rfl) (w_p1 (by decide) (Or.inr rfl) (w_e1 _ _ _))), (w_p1 (by decide) (Or.inr rfl) (w_e1 _ _ _)), (w_e1 _ _ _), by omega, by omega⟩ ⟨by omega, by omega⟩
            · have c2227_ : x2194.toInt = a2.toInt := en_i_ne_f c2227
              exfalso; omega
