def F_X2_gets_223 : List (Nat × Nat) := [(185, 3)]
def A_X2_gets_223 : List Nat := [226]
set_option maxRecDepth 100000 in
set_option maxHeartbeats 4000000 in
theorem T_X2_gets_223 (d : Nat) {N : Nat} {g0 : List en_E} (hI0 : HI g0) (a1 : Int32) (a2 : Int32) (a3 : Int32) : Ev (d + 4) 49 [.ref 223, .int a1, .int a2, .int a3] (g0, N) (fun w h' => ∃ g', h' = (g', N) ∧ HI g' ∧ Fr F_X2_gets_223 A_X2_gets_223 g0 g' ∧ ∃ r : Int32, w = some (.int r) ∧ True) := by
  have hF0 : Fr F_X2_gets_223 A_X2_gets_223 g0 g0 := Fr.rf
  refine Ev.mk rfl rfl ⟨Nat.le_of_ble_eq_true rfl, Or.inr (q_rc hI0.1 kx_223 rfl)⟩ ?_
  show At _ none _ _ (0, [(0, .ref 223), (1, .int a1), (2, .int a2), (3, .int a3)], [], (_, _)) _
  refine At.enter rfl ?_
  refine r_aload_n rfl ?_
  obtain ⟨v69, hv69⟩ : ∃ v, gI g0 223 6 = v := ⟨_, rfl⟩
  refine q_getI (Sh.int hI0.1 kx_223 rfl) v69 hv69 ?_
  refine r_ifs 7 rfl (fun c70 => ?_) (fun c70 => ?_)
  · have c70_ : v69.toInt = 0 := en_k_eq_t c70
    refine At.enter rfl ?_
    refine r_iload_n rfl ?_
    refine r_ireti ?_
    exact ⟨_, rfl, hI0, hF0, _, rfl, trivial⟩
  · have c70_ : v69.toInt ≠ 0 := en_k_eq_f c70
    refine At.enter rfl ?_
    refine r_aload_n rfl ?_
    refine q_getR (Sh.ref hI0.1 kx_223 rfl) ?_
    refine r_iload_n rfl ?_
    refine q_inlV 15 rfl [.ref 1, .int a1] [] (Nat.le_of_ble_eq_true rfl) rfl ?_
    refine Ev.mk rfl rfl ⟨Nat.le_of_ble_eq_true rfl, Or.inr (q_rc hI0.1 kx_1 rfl)⟩ ?_
    show At _ none _ _ (0, [(0, .ref 1), (1, .int a1)], [], (_, _)) _
    refine At.enter rfl ?_
    refine r_iload_n rfl ?_
    refine r_ifs 4 rfl (fun c71 => ?_) (fun c71 => ?_)
    · have c71_ : a1.toInt < 0 := en_k_lt_t c71
      refine At.enter rfl ?_
      refine r_iconst 0 rfl ?_
      refine Ar.fall 17 rfl ?_
      refine At.enter rfl ?_
      refine q_iretz (by decide) ?_
      refine At.enter rfl ?_
      refine r_ift (by decide) ?_
      refine At.enter rfl ?_
      refine r_iload_n rfl ?_
      refine r_ireti ?_
      exact ⟨_, rfl, hI0, hF0, _, rfl, trivial⟩
    · have c71_ : a1.toInt ≥ 0 := en_k_lt_f c71
      refine At.enter rfl ?_
      refine r_iload_n rfl ?_
      refine r_aload_n rfl ?_
      obtain ⟨v72, hv72⟩ : ∃ v, gI g0 1 4 = v := ⟨_, rfl⟩
      have rv72 := RgF.at hI0.2.1 (p := 1) (b := 4) rfl
      rw [hv72] at rv72
      dsimp only at rv72
      refine q_getI (Sh.int hI0.1 kx_1 rfl) v72 hv72 ?_
      have bv74 := q_bnd a1
      have bv75 := q_bnd v72
      refine r_ics 12 rfl (fun c73 => ?_) (fun c73 => ?_)
      · have c73_ : a1.toInt ≥ v72.toInt := en_i_ge_t c73
        refine At.enter rfl ?_
        refine r_iconst 0 rfl ?_
        refine Ar.fall 17 rfl ?_
        refine At.enter rfl ?_
        refine q_iretz (by decide) ?_
        refine At.enter rfl ?_
        refine r_ift (by decide) ?_
        refine At.enter rfl ?_
        refine r_iload_n rfl ?_
        refine r_ireti ?_
        exact ⟨_, rfl, hI0, hF0, _, rfl, trivial⟩
      · have c73_ : a1.toInt < v72.toInt := en_i_ge_f c73
        refine At.enter rfl ?_
        refine r_iconst 1 rfl ?_
        refine r_goto ?_
        refine At.enter rfl ?_
        refine q_iretz (by decide) ?_
        refine At.enter rfl ?_
        refine r_iff 18 rfl (by decide) ?_
        refine At.enter rfl ?_
        refine r_aload_n rfl ?_
        refine q_getR (Sh.ref hI0.1 kx_223 rfl) ?_
        refine r_iload_n rfl ?_
        refine q_inlV 26 rfl [.ref 1, .int a2] [] (Nat.le_of_ble_eq_true rfl) rfl ?_
        refine Ev.mk rfl rfl ⟨Nat.le_of_ble_eq_true rfl, Or.inr (q_rc hI0.1 kx_1 rfl)⟩ ?_
        show At _ none _ _ (0, [(0, .ref 1), (1, .int a2)], [], (_, _)) _
        refine At.enter rfl ?_
        refine r_iload_n rfl ?_
        refine r_ifs 4 rfl (fun c76 => ?_) (fun c76 => ?_)
        · have c76_ : a2.toInt < 0 := en_k_lt_t c76
          refine At.enter rfl ?_
          refine r_iconst 0 rfl ?_
          refine Ar.fall 17 rfl ?_
          refine At.enter rfl ?_
          refine q_iretz (by decide) ?_
          refine At.enter rfl ?_
          refine r_ift (by decide) ?_
          refine At.enter rfl ?_
          refine r_iload_n rfl ?_
          refine r_ireti ?_
          exact ⟨_, rfl, hI0, hF0, _, rfl, trivial⟩
        · have c76_ : a2.toInt ≥ 0 := en_k_lt_f c76
          refine At.enter rfl ?_
          refine r_iload_n rfl ?_
          refine r_aload_n rfl ?_
          obtain ⟨v77, hv77⟩ : ∃ v, gI g0 1 0 = v := ⟨_, rfl⟩
          have rv77 := RgF.at hI0.2.1 (p := 1) (b := 0) rfl
          rw [hv77] at rv77
          dsimp only at rv77
          refine q_getI (Sh.int hI0.1 kx_1 rfl) v77 hv77 ?_
          have bv79 := q_bnd a2
          have bv80 := q_bnd v77
          refine r_ics 12 rfl (fun c78 => ?_) (fun c78 => ?_)
          · have c78_ : a2.toInt ≥ v77.toInt := en_i_ge_t c78
            refine At.enter rfl ?_
            refine r_iconst 0 rfl ?_
            refine Ar.fall 17 rfl ?_
            refine At.enter rfl ?_
            refine q_iretz (by decide) ?_
            refine At.enter rfl ?_
            refine r_ift (by decide) ?_
            refine At.enter rfl ?_
            refine r_iload_n rfl ?_
            refine r_ireti ?_
            exact ⟨_, rfl, hI0, hF0, _, rfl, trivial⟩
          · have c78_ : a2.toInt < v77.toInt := en_i_ge_f c78
            refine At.enter rfl ?_
            refine r_iconst 1 rfl ?_
            refine r_goto ?_
            refine At.enter rfl ?_
            refine q_iretz (by decide) ?_
            refine At.enter rfl ?_
            refine r_iff 29 rfl (by decide) ?_
            refine At.enter rfl ?_
            refine r_iload_n rfl ?_
            refine q_inlS 33 rfl [.int a3] [] (Nat.le_of_ble_eq_true rfl) rfl ?_
            refine Ev.mk rfl rfl ⟨Nat.le_of_ble_eq_true rfl, Or.inl rfl⟩ ?_
            show At _ none _ _ (0, [(0, .int a3)], [], (_, _)) _
            refine At.enter rfl ?_
            refine r_iload_n rfl ?_
            refine r_iconst 0 rfl ?_
            refine r_bipush 99 rfl ?_
            refine q_inlS 7 rfl [.int a3, .int 0, .int 99] [] (Nat.le_of_ble_eq_true rfl) rfl ?_
            refine Ev.mk rfl rfl ⟨Nat.le_of_ble_eq_true rfl, Or.inl rfl⟩ ?_
            show At _ none _ _ (0, [(0, .int a3), (1, .int 0), (2, .int 99)], [], (_, _)) _
            refine At.enter rfl ?_
            refine r_iload_n rfl ?_
            refine r_iload_n rfl ?_
            refine r_ics 5 rfl (fun c81 => ?_) (fun c81 => ?_)
            · have c81_ : a3.toInt < 0 := en_i_lt_t c81
              refine At.enter rfl ?_
              refine r_iconst 0 rfl ?_
              refine Ar.fall 15 rfl ?_
              refine At.enter rfl ?_
              refine q_iretz (by decide) ?_
              refine At.enter rfl ?_
              refine q_iretz (by decide) ?_
              refine At.enter rfl ?_
              refine r_iff 36 rfl (by decide) ?_
              refine At.enter rfl ?_
              refine r_iload_n rfl ?_
              refine r_ireti ?_
              exact ⟨_, rfl, hI0, hF0, _, rfl, trivial⟩
            · have c81_ : a3.toInt ≥ 0 := en_i_lt_f c81
              refine At.enter rfl ?_
              refine r_iload_n rfl ?_
              refine r_iload_n rfl ?_
              refine r_ics 10 rfl (fun c82 => ?_) (fun c82 => ?_)
              · have c82_ : a3.toInt > 99 := en_i_gt_t c82
                refine At.enter rfl ?_
                refine r_iconst 0 rfl ?_
                refine Ar.fall 15 rfl ?_
                refine At.enter rfl ?_
                refine q_iretz (by decide) ?_
                refine At.enter rfl ?_
                refine q_iretz (by decide) ?_
                refine At.enter rfl ?_
                refine r_iff 36 rfl (by decide) ?_
                refine At.enter rfl ?_
                refine r_iload_n rfl ?_
                refine r_ireti ?_
                exact ⟨_, rfl, hI0, hF0, _, rfl, trivial⟩
              · have c82_ : a3.toInt ≤ 99 := en_i_gt_f c82
                refine At.enter rfl ?_
                refine r_iconst 1 rfl ?_
                refine r_goto ?_
                refine At.enter rfl ?_
                refine q_iretz (by decide) ?_
                refine At.enter rfl ?_
                refine q_iretz (by decide) ?_
                refine At.enter rfl ?_
                refine r_ift (by decide) ?_
                refine At.enter rfl ?_
                refine r_iload_n rfl ?_
                refine r_bipush 12 rfl ?_
                refine q_imul (a1.toInt * 12) rfl (by omega) (fun v83 hv83 => ?_)
                refine r_iload_n rfl ?_
                refine q_iadd (v83.toInt + a2.toInt) rfl (by omega) (fun v84 hv84 => ?_)
                refine r_bipush 100 rfl ?_
                refine q_imul (v84.toInt * 100) rfl (by omega) (fun v85 hv85 => ?_)
                refine r_iload_n rfl ?_
                refine q_iadd (v85.toInt + a3.toInt) rfl (by omega) (fun v86 hv86 => ?_)
                refine r_istore ([(4, .int v86), (0, .ref 223), (1, .int a1), (2, .int a2), (3, .int a3)]) rfl ?_
                refine r_aload_n rfl ?_
                refine q_getR (Sh.ref hI0.1 kx_223 rfl) ?_
                refine r_iload rfl ?_
                obtain ⟨v87, hv87⟩ : ∃ v, eA g0 226 (1200 * a1.toInt + 100 * a2.toInt + a3.toInt) = v := ⟨_, rfl⟩
                refine q_iald (Sh.arr hI0.1 ka_226) (1200 * a1.toInt + 100 * a2.toInt + a3.toInt) (by omega) (by omega) v87 hv87 ?_
                refine r_iconst (-1) rfl ?_
                refine r_ics 62 rfl (fun c88 => ?_) (fun c88 => ?_)
                · have c88_ : v87.toInt ≠ (-1) := en_i_ne_t c88
                  refine At.enter rfl ?_
                  refine r_aload_n rfl ?_
                  refine q_getR (Sh.ref hI0.1 kx_223 rfl) ?_
                  refine r_iload rfl ?_
                  refine q_iald (Sh.arr hI0.1 ka_226) (1200 * a1.toInt + 100 * a2.toInt + a3.toInt) (by omega) (by omega) v87 hv87 ?_
                  refine r_ireti ?_
                  exact ⟨_, rfl, hI0, hF0, _, rfl, trivial⟩
                · have c88_ : v87.toInt = (-1) := en_i_ne_f c88
                  refine At.enter rfl ?_
                  refine r_aload_n rfl ?_
                  refine q_getR (Sh.ref hI0.1 kx_223 rfl) ?_
                  refine r_iconst 1 rfl ?_
                  refine r_iload_n rfl ?_
                  refine r_iload_n rfl ?_
                  refine r_iconst 0 rfl ?_
                  refine r_iconst 0 rfl ?_
                  refine r_aload_n rfl ?_
                  refine q_getR (Sh.ref hI0.1 kx_223 rfl) ?_
                  refine q_getR (Sh.ref hI0.1 kx_1 rfl) ?_
                  refine r_iload_n rfl ?_
                  obtain ⟨v89, hv89⟩ : ∃ v, eA g0 3 a2.toInt = v := ⟨_, rfl⟩
                  refine q_iald (Sh.arr hI0.1 ka_3) a2.toInt rfl (by omega) v89 hv89 ?_
                  refine r_iload_n rfl ?_
                  refine r_callV 84 rfl [.ref 185, .int 1, .int a1, .int a2, .int 0, .int 0, .int v89, .int a3] [] (Nat.le_of_ble_eq_true rfl) rfl (T_X3_tells_185 _ hI0 1 a1 a2 0 0 v89 a3) ?_
                  rintro _ _ ⟨g90, rfl, hI91, hF92, v93, rfl, hr94⟩
                  refine At.stl ?_
                  have hF95 := Fr.tr hF0 hF92 rfl rfl
                  refine At.enter rfl ?_
                  refine r_lstore ([(5, .long v93), (4, .int v86), (0, .ref 223), (1, .int a1), (2, .int a2), (3, .int a3)]) rfl ?_
                  refine r_aload_n rfl ?_
                  refine q_getR (Sh.ref hI91.1 kx_223 rfl) ?_
                  refine r_iload rfl ?_
                  refine r_lconst 0 rfl ?_
                  refine r_ldc2 999 rfl ?_
                  refine r_lload rfl ?_
                  refine q_lmin rfl (Nat.le_of_ble_eq_true rfl) (fun v96 hv96 => ?_)
                  have zv97 : (999 : Int64).toInt = 999 := rfl
                  refine q_lmax rfl (Nat.le_of_ble_eq_true rfl) (fun v98 hv98 => ?_)
                  have zv99 : (0 : Int64).toInt = 0 := rfl
                  refine q_l2iO (fun v100 hv100 => ?_)
                  refine q_iast (Sh.arr hI91.1 ka_226) ((1200 * a1.toInt + 100 * a2.toInt + a3.toInt)) (by omega) (by omega) ?_
                  have hI101 := HI.wA0 hI91 ka_226 (p := 226) rfl rfl ((1200 * a1.toInt + 100 * a2.toInt + a3.toInt)) (v100)
                  have hF102 := Fr.wA (p := 226) (j := (1200 * a1.toInt + 100 * a2.toInt + a3.toInt)) (v := v100) hF95 rfl
                  refine Ar.fall 106 rfl ?_
                  refine At.enter rfl ?_
                  refine r_aload_n rfl ?_
                  refine q_getR (Sh.ref hI101.1 kx_223 rfl) ?_
                  refine r_iload rfl ?_
                  refine q_iald (Sh.arr hI101.1 ka_226) (1200 * a1.toInt + 100 * a2.toInt + a3.toInt) (by omega) (by omega) v100 (eA_sA_eq hI91.1 ka_226 (by first | rfl | omega) (by first | decide | omega) (by first | decide | omega)) ?_
                  refine r_ireti ?_
                  exact ⟨_, rfl, hI101, hF102, _, rfl, trivial⟩

def F_X2_costBeside_223 : List (Nat × Nat) := [(185, 3)]
def A_X2_costBeside_223 : List Nat := [226]
set_option maxRecDepth 100000 in
set_option maxHeartbeats 4000000 in
theorem T_X2_costBeside_223 (d : Nat) {N : Nat} {g0 : List en_E} (hI0 : HI g0) (a1 : Int32) (a2 : Int32) : Ev (d + 5) 48 [.ref 223, .int a1, .int a2] (g0, N) (fun w h' => ∃ g', h' = (g', N) ∧ HI g' ∧ Fr F_X2_costBeside_223 A_X2_costBeside_223 g0 g' ∧ ∃ r : Int32, w = some (.int r) ∧ True) := by
  have hF0 : Fr F_X2_costBeside_223 A_X2_costBeside_223 g0 g0 := Fr.rf
  refine Ev.mk rfl rfl ⟨Nat.le_of_ble_eq_true rfl, Or.inr (q_rc hI0.1 kx_223 rfl)⟩ ?_
  show At _ none _ _ (0, [(0, .ref 223), (1, .int a1), (2, .int a2)], [], (_, _)) _
  refine At.enter rfl ?_
  refine r_aload_n rfl ?_
  refine q_getR (Sh.ref hI0.1 kx_223 rfl) ?_
  refine r_iload_n rfl ?_
  refine r_callV 8 rfl [.ref 1, .int a1] [] (Nat.le_of_ble_eq_true rfl) rfl (T_X0_handsOf_1 _ hI0 a1) ?_
  rintro _ _ ⟨g1487, rfl, hI1488, hF1489, v1490, rfl, hr1491⟩
  refine At.sti ?_
  have hF1492 := Fr.tr hF0 hF1489 rfl rfl
  refine At.enter rfl ?_
  refine r_istore_n ([(3, .int v1490), (0, .ref 223), (1, .int a1), (2, .int a2)]) rfl ?_
  refine r_iload_n rfl ?_
  refine r_iconst (-1) rfl ?_
  refine r_ics 14 rfl (fun c1493 => ?_) (fun c1493 => ?_)
  · have c1493_ : a2.toInt ≠ (-1) := en_i_ne_t c1493
    refine At.enter rfl ?_
    refine r_iconst 0 rfl ?_
    refine Ar.fall 24 rfl ?_
    refine At.enter rfl ?_
    refine r_istore ([(4, .int 0), (3, .int v1490), (0, .ref 223), (1, .int a1), (2, .int a2)]) rfl ?_
    refine r_iconst 0 rfl ?_
    refine r_istore ([(5, .int 0), (4, .int 0), (3, .int v1490), (0, .ref 223), (1, .int a1), (2, .int a2)]) rfl ?_
    refine r_aload_n rfl ?_
    refine q_getR (Sh.ref hI1488.1 kx_223 rfl) ?_
    refine r_iload_n rfl ?_
    refine r_iconst 1 rfl ?_
    refine r_callV 38 rfl [.ref 1, .int a1, .int 1] [] (Nat.le_of_ble_eq_true rfl) rfl (T_X0_about_1 _ hI1488 a1 1) ?_
    rintro _ _ ⟨g1494, rfl, hI1495, hF1496, v1497, rfl, hr1498⟩
    refine At.sti ?_
    have hF1499 := Fr.tr hF1492 hF1496 rfl rfl
    refine At.enter rfl ?_
    refine r_istore ([(6, .int v1497), (5, .int 0), (4, .int 0), (3, .int v1490), (0, .ref 223), (1, .int a1), (2, .int a2)]) rfl ?_
    refine r_iconst 0 rfl ?_
    refine r_istore ([(7, .int 0), (6, .int v1497), (5, .int 0), (4, .int 0), (3, .int v1490), (0, .ref 223), (1, .int a1), (2, .int a2)]) rfl ?_
    refine Ar.fall 43 rfl ?_
    have z_1833 : (0 : Int32).toInt = 0 := rfl
    have z_1834 : (0 : Int32).toInt = 0 := rfl
    have z_1835 : (0 : Int32).toInt = 0 := rfl
    refine w_loopI (fun n_ l_ g_ => ∃ x1813 : Int32, ∃ x1814 : Int32, ∃ x1815 : Int32, ∃ x1816 : Int32, n_ = 11 - x1816.toInt ∧ HI g_ ∧ Fr F_X2_costBeside_223 A_X2_costBeside_223 g0 g_ ∧ en_get 0 l_ = some (.ref 223) ∧ en_get 1 l_ = some (.int a1) ∧ en_get 2 l_ = some (.int a2) ∧ en_get 3 l_ = some (.int v1490) ∧ en_get 4 l_ = some (.int x1813) ∧ en_get 5 l_ = some (.int x1814) ∧ en_get 6 l_ = some (.int x1815) ∧ en_get 7 l_ = some (.int x1816) ∧ (0 ≤ x1813.toInt ∧ x1813.toInt ≤ 1) ∧ (0 ≤ x1816.toInt ∧ x1816.toInt ≤ 11)) ?_ (11 - 0) ⟨0, 0, v1497, 0, by first | rfl | omega, hI1495, hF1499, rfl, rfl, rfl, rfl, rfl, rfl, rfl, rfl, by decide, by decide⟩
    rintro n1821 l1820 g1817 ⟨x1813, x1814, x1815, x1816, hm1836, hI1818, hF1819, e1823, e1824, e1825, e1826, e1827, e1828, e1829, e1830, r1831, r1832⟩ ih1822
    refine At.enter rfl ?_
    refine r_iload e1830 ?_
    refine r_iload_n e1826 ?_
    have bv1838 := q_bnd x1816
    have bv1839 := q_bnd v1490
    refine r_ics 49 rfl (fun c1837 => ?_) (fun c1837 => ?_)
    · have c1837_ : x1816.toInt ≥ v1490.toInt := en_i_ge_t c1837
      refine At.enter rfl ?_
      refine r_iload e1827 ?_
      refine r_ifs 114 rfl (fun c1840 => ?_) (fun c1840 => ?_)
      · have c1840_ : x1813.toInt = 0 := en_k_eq_t c1840
        refine At.enter rfl ?_
        refine r_iconst (-1) rfl ?_
        refine Ar.fall 120 rfl ?_
        refine At.enter rfl ?_
        refine r_ireti ?_
        exact ⟨_, rfl, hI1818, hF1819, _, rfl, trivial⟩
      · have c1840_ : x1813.toInt ≠ 0 := en_k_eq_f c1840
        refine At.enter rfl ?_
        refine r_iload e1828 ?_
        refine r_goto ?_
        refine At.enter rfl ?_
        refine r_ireti ?_
        exact ⟨_, rfl, hI1818, hF1819, _, rfl, trivial⟩
    · have c1837_ : x1816.toInt < v1490.toInt := en_i_ge_f c1837
      refine At.enter rfl ?_
      refine r_aload_n e1823 ?_
      refine q_getR (Sh.ref hI1818.1 kx_223 rfl) ?_
      refine r_iload e1829 ?_
      refine q_inlV 58 rfl [.ref 1, .int x1815] [] (Nat.le_of_ble_eq_true rfl) rfl ?_
      refine Ev.mk rfl rfl ⟨Nat.le_of_ble_eq_true rfl, Or.inr (q_rc hI1818.1 kx_1 rfl)⟩ ?_
      show At _ none _ _ (0, [(0, .ref 1), (1, .int x1815)], [], (_, _)) _
      refine At.enter rfl ?_
      refine r_iload_n rfl ?_
      refine r_ifs 4 rfl (fun c1841 => ?_) (fun c1841 => ?_)
      · have c1841_ : x1815.toInt < 0 := en_k_lt_t c1841
        refine At.enter rfl ?_
        refine r_iconst 0 rfl ?_
        refine Ar.fall 17 rfl ?_
        refine At.enter rfl ?_
        refine q_iretz (by decide) ?_
        refine At.enter rfl ?_
        refine r_ift (by decide) ?_
        refine At.enter rfl ?_
        refine r_iload e1827 ?_
        refine r_ifs 114 rfl (fun c1842 => ?_) (fun c1842 => ?_)
        · have c1842_ : x1813.toInt = 0 := en_k_eq_t c1842
          refine At.enter rfl ?_
          refine r_iconst (-1) rfl ?_
          refine Ar.fall 120 rfl ?_
          refine At.enter rfl ?_
          refine r_ireti ?_
          exact ⟨_, rfl, hI1818, hF1819, _, rfl, trivial⟩
        · have c1842_ : x1813.toInt ≠ 0 := en_k_eq_f c1842
          refine At.enter rfl ?_
          refine r_iload e1828 ?_
          refine r_goto ?_
          refine At.enter rfl ?_
          refine r_ireti ?_
          exact ⟨_, rfl, hI1818, hF1819, _, rfl, trivial⟩
      · have c1841_ : x1815.toInt ≥ 0 := en_k_lt_f c1841
        refine At.enter rfl ?_
        refine r_iload_n rfl ?_
        refine r_aload_n rfl ?_
        obtain ⟨v1843, hv1843⟩ : ∃ v, gI g0 1 0 = v := ⟨_, rfl⟩
        have rv1843 := RgF.at hI0.2.1 (p := 1) (b := 0) rfl
        rw [hv1843] at rv1843
        dsimp only at rv1843
        refine q_getI (Sh.int hI1818.1 kx_1 rfl) v1843 ((hF1819.1 1 0 (by decide)).trans hv1843) ?_
        have bv1845 := q_bnd x1815
        have bv1846 := q_bnd v1843
        refine r_ics 12 rfl (fun c1844 => ?_) (fun c1844 => ?_)
        · have c1844_ : x1815.toInt ≥ v1843.toInt := en_i_ge_t c1844
          refine At.enter rfl ?_
          refine r_iconst 0 rfl ?_
          refine Ar.fall 17 rfl ?_
          refine At.enter rfl ?_
          refine q_iretz (by decide) ?_
          refine At.enter rfl ?_
          refine r_ift (by decide) ?_
          refine At.enter rfl ?_
          refine r_iload e1827 ?_
          refine r_ifs 114 rfl (fun c1847 => ?_) (fun c1847 => ?_)
          · have c1847_ : x1813.toInt = 0 := en_k_eq_t c1847
            refine At.enter rfl ?_
            refine r_iconst (-1) rfl ?_
            refine Ar.fall 120 rfl ?_
            refine At.enter rfl ?_
            refine r_ireti ?_
            exact ⟨_, rfl, hI1818, hF1819, _, rfl, trivial⟩
          · have c1847_ : x1813.toInt ≠ 0 := en_k_eq_f c1847
            refine At.enter rfl ?_
            refine r_iload e1828 ?_
            refine r_goto ?_
            refine At.enter rfl ?_
            refine r_ireti ?_
            exact ⟨_, rfl, hI1818, hF1819, _, rfl, trivial⟩
        · have c1844_ : x1815.toInt < v1843.toInt := en_i_ge_f c1844
          refine At.enter rfl ?_
          refine r_iconst 1 rfl ?_
          refine r_goto ?_
          refine At.enter rfl ?_
          refine q_iretz (by decide) ?_
          refine At.enter rfl ?_
          refine r_iff 61 rfl (by decide) ?_
          refine At.enter rfl ?_
          refine r_iload e1829 ?_
          refine r_iload_n e1825 ?_
          refine r_ics 67 rfl (fun c1848 => ?_) (fun c1848 => ?_)
          · have c1848_ : x1815.toInt ≠ a2.toInt := en_i_ne_t c1848
            refine At.enter rfl ?_
            refine r_iload e1828 ?_
            refine r_aload_n e1823 ?_
            refine r_iload_n e1824 ?_
            refine r_iload e1829 ?_
            refine r_aload_n e1823 ?_
            refine q_getR (Sh.ref hI1818.1 kx_223 rfl) ?_
            refine r_iload e1829 ?_
            obtain ⟨v1849, hv1849⟩ : ∃ v, eA g0 224 x1815.toInt = v := ⟨_, rfl⟩
            refine q_iald (Sh.arr hI1818.1 ka_224) x1815.toInt rfl (by omega) v1849 ((eA_c (hF1819.2.1 224 (by decide))).trans hv1849) ?_
            refine r_callV 89 rfl [.ref 223, .int a1, .int x1815, .int v1849] [.int x1814] (Nat.le_of_ble_eq_true rfl) rfl (T_X2_gets_223 _ hI1818 a1 x1815 v1849) ?_
            rintro _ _ ⟨g1850, rfl, hI1851, hF1852, v1853, rfl, hr1854⟩
            refine At.sti ?_
            have hF1855 := Fr.tr hF1819 hF1852 rfl rfl
            refine At.enter rfl ?_
            refine q_iaddO (fun v1856 _ => ?_)
            refine r_istore _ rfl ?_
            refine Ar.fall 92 rfl ?_
            refine At.enter rfl ?_
            refine r_aload_n (w_p1 (by decide) (Or.inr rfl) e1823) ?_
            refine q_getR (Sh.ref hI1851.1 kx_223 rfl) ?_
            refine r_iload (w_p1 (by decide) (Or.inr rfl) e1829) ?_
            refine r_callV 101 rfl [.ref 1, .int x1815] [] (Nat.le_of_ble_eq_true rfl) rfl (T_X0_next_1 _ hI1851 x1815) ?_
            rintro _ _ ⟨g1857, rfl, hI1858, hF1859, v1860, rfl, hr1861⟩
            refine At.sti ?_
            have hF1862 := Fr.tr hF1855 hF1859 rfl rfl
            refine At.enter rfl ?_
            refine r_istore _ rfl ?_
            refine q_iinc (w_p1 (by decide) (Or.inr rfl) (w_p1 (by decide) (Or.inr rfl) e1830)) (x1816.toInt + 1) rfl (by omega) (fun v1863 hv1863 => ?_)
            refine r_goto ?_
            have bv1864 := q_bnd v1856
            have bv1865 := q_bnd v1860
            exact ih1822 (11 - v1863.toInt) _ _ ⟨x1813, v1856, v1860, v1863, by first | rfl | omega, hI1858, hF1862, (w_p1 (by decide) (Or.inr rfl) (w_p1 (by decide) (Or.inr rfl) (w_p1 (by decide) (Or.inr rfl) e1823))), (w_p1 (by decide) (Or.inr rfl) (w_p1 (by decide) (Or.inr rfl) (w_p1 (by decide) (Or.inr rfl) e1824))), (w_p1 (by decide) (Or.inr rfl) (w_p1 (by decide) (Or.inr rfl) (w_p1 (by decide) (Or.inr rfl) e1825))), (w_p1 (by decide) (Or.inr rfl) (w_p1 (by decide) (Or.inr rfl) (w_p1 (by decide) (Or.inr rfl) e1826))), (w_p1 (by decide) (Or.inr rfl) (w_p1 (by decide) (Or.inr rfl) (w_p1 (by decide) (Or.inr rfl) e1827))), (w_p1 (by decide) (Or.inr rfl) (w_p1 (by decide) (Or.inr rfl) (w_e1 _ _ _))), (w_p1 (by decide) (Or.inr rfl) (w_e1 _ _ _)), (w_e1 _ _ _), by omega, by omega⟩ ⟨by omega, by omega⟩
          · have c1848_ : x1815.toInt = a2.toInt := en_i_ne_f c1848
            refine At.enter rfl ?_
            refine r_iconst 1 rfl ?_
            refine r_istore _ rfl ?_
            refine r_goto ?_
            refine At.enter rfl ?_
            refine r_aload_n (w_p1 (by decide) (Or.inr rfl) e1823) ?_
            refine q_getR (Sh.ref hI1818.1 kx_223 rfl) ?_
            refine r_iload (w_p1 (by decide) (Or.inr rfl) e1829) ?_
            refine r_callV 101 rfl [.ref 1, .int x1815] [] (Nat.le_of_ble_eq_true rfl) rfl (T_X0_next_1 _ hI1818 x1815) ?_
            rintro _ _ ⟨g1866, rfl, hI1867, hF1868, v1869, rfl, hr1870⟩
            refine At.sti ?_
            have hF1871 := Fr.tr hF1819 hF1868 rfl rfl
            refine At.enter rfl ?_
            refine r_istore _ rfl ?_
            refine q_iinc (w_p1 (by decide) (Or.inr rfl) (w_p1 (by decide) (Or.inr rfl) e1830)) (x1816.toInt + 1) rfl (by omega) (fun v1872 hv1872 => ?_)
            refine r_goto ?_
            have bv1873 := q_bnd x1814
            have bv1874 := q_bnd v1869
            exact ih1822 (11 - v1872.toInt) _ _ ⟨1, x1814, v1869, v1872, by first | rfl | omega, hI1867, hF1871, (w_p1 (by decide) (Or.inr rfl) (w_p1 (by decide) (Or.inr rfl) (w_p1 (by decide) (Or.inr rfl) e1823))), (w_p1 (by decide) (Or.inr rfl) (w_p1 (by decide) (Or.inr rfl) (w_p1 (by decide) (Or.inr rfl) e1824))), (w_p1 (by decide) (Or.inr rfl) (w_p1 (by decide) (Or.inr rfl) (w_p1 (by decide) (Or.inr rfl) e1825))), (w_p1 (by decide) (Or.inr rfl) (w_p1 (by decide) (Or.inr rfl) (w_p1 (by decide) (Or.inr rfl) e1826))), (w_p1 (by decide) (Or.inr rfl) (w_p1 (by decide) (Or.inr rfl) (w_e1 _ _ _))), (w_p1 (by decide) (Or.inr rfl) (w_p1 (by decide) (Or.inr rfl) (w_p1 (by decide) (Or.inr rfl) e1828))), (w_p1 (by decide) (Or.inr rfl) (w_e1 _ _ _)), (w_e1 _ _ _), by decide, by omega⟩ ⟨by omega, by omega⟩
  · have c1493_ : a2.toInt = (-1) := en_i_ne_f c1493
    refine At.enter rfl ?_
    refine r_iload_n rfl ?_
    refine r_iconst (-1) rfl ?_
    refine r_ics 19 rfl (fun c1875 => ?_) (fun c1875 => ?_)
    · have c1875_ : v1490.toInt = (-1) := en_i_eq_t c1875
      refine At.enter rfl ?_
      refine r_iconst 0 rfl ?_
      refine Ar.fall 24 rfl ?_
      refine At.enter rfl ?_
      refine r_istore ([(4, .int 0), (3, .int v1490), (0, .ref 223), (1, .int a1), (2, .int a2)]) rfl ?_
      refine r_iconst 0 rfl ?_
      refine r_istore ([(5, .int 0), (4, .int 0), (3, .int v1490), (0, .ref 223), (1, .int a1), (2, .int a2)]) rfl ?_
      refine r_aload_n rfl ?_
      refine q_getR (Sh.ref hI1488.1 kx_223 rfl) ?_
      refine r_iload_n rfl ?_
      refine r_iconst 1 rfl ?_
      refine r_callV 38 rfl [.ref 1, .int a1, .int 1] [] (Nat.le_of_ble_eq_true rfl) rfl (T_X0_about_1 _ hI1488 a1 1) ?_
      rintro _ _ ⟨g1876, rfl, hI1877, hF1878, v1879, rfl, hr1880⟩
      refine At.sti ?_
      have hF1881 := Fr.tr hF1492 hF1878 rfl rfl
      refine At.enter rfl ?_
      refine r_istore ([(6, .int v1879), (5, .int 0), (4, .int 0), (3, .int v1490), (0, .ref 223), (1, .int a1), (2, .int a2)]) rfl ?_
      refine r_iconst 0 rfl ?_
      refine r_istore ([(7, .int 0), (6, .int v1879), (5, .int 0), (4, .int 0), (3, .int v1490), (0, .ref 223), (1, .int a1), (2, .int a2)]) rfl ?_
      refine Ar.fall 43 rfl ?_
      have z_1912 : (0 : Int32).toInt = 0 := rfl
      have z_1913 : (0 : Int32).toInt = 0 := rfl
      have z_1914 : (0 : Int32).toInt = 0 := rfl
      refine w_loopI (fun n_ l_ g_ => ∃ x1891 : Int32, ∃ x1892 : Int32, ∃ x1893 : Int32, ∃ x1894 : Int32, n_ = 0 ∧ HI g_ ∧ Fr F_X2_costBeside_223 A_X2_costBeside_223 g0 g_ ∧ en_get 0 l_ = some (.ref 223) ∧ en_get 1 l_ = some (.int a1) ∧ en_get 2 l_ = some (.int a2) ∧ en_get 3 l_ = some (.int v1490) ∧ en_get 4 l_ = some (.int x1891) ∧ en_get 5 l_ = some (.int x1892) ∧ en_get 6 l_ = some (.int x1893) ∧ en_get 7 l_ = some (.int x1894) ∧ (0 ≤ x1891.toInt ∧ x1891.toInt ≤ 0) ∧ (0 ≤ x1892.toInt ∧ x1892.toInt ≤ 0) ∧ (0 ≤ x1894.toInt ∧ x1894.toInt ≤ 0)) ?_ (0) ⟨0, 0, v1879, 0, by first | rfl | omega, hI1877, hF1881, rfl, rfl, rfl, rfl, rfl, rfl, rfl, rfl, by decide, by decide, by decide⟩
      rintro n1899 l1898 g1895 ⟨x1891, x1892, x1893, x1894, hm1915, hI1896, hF1897, e1901, e1902, e1903, e1904, e1905, e1906, e1907, e1908, r1909, r1910, r1911⟩ ih1900
      refine At.enter rfl ?_
      refine r_iload e1908 ?_
      refine r_iload_n e1904 ?_
      have bv1917 := q_bnd x1894
      have bv1918 := q_bnd v1490
      refine r_ics 49 rfl (fun c1916 => ?_) (fun c1916 => ?_)
      · have c1916_ : x1894.toInt ≥ v1490.toInt := en_i_ge_t c1916
        refine At.enter rfl ?_
        refine r_iload e1905 ?_
        refine r_ifs 114 rfl (fun c1919 => ?_) (fun c1919 => ?_)
        · have c1919_ : x1891.toInt = 0 := en_k_eq_t c1919
          refine At.enter rfl ?_
          refine r_iconst (-1) rfl ?_
          refine Ar.fall 120 rfl ?_
          refine At.enter rfl ?_
          refine r_ireti ?_
          exact ⟨_, rfl, hI1896, hF1897, _, rfl, trivial⟩
        · have c1919_ : x1891.toInt ≠ 0 := en_k_eq_f c1919
          exfalso; omega
      · have c1916_ : x1894.toInt < v1490.toInt := en_i_ge_f c1916
        exfalso; omega
    · have c1875_ : v1490.toInt ≠ (-1) := en_i_eq_f c1875
      refine At.enter rfl ?_
      refine r_iconst 1 rfl ?_
      refine r_goto ?_
      refine At.enter rfl ?_
      refine r_istore ([(4, .int 1), (3, .int v1490), (0, .ref 223), (1, .int a1), (2, .int a2)]) rfl ?_
      refine r_iconst 0 rfl ?_
      refine r_istore ([(5, .int 0), (4, .int 1), (3, .int v1490), (0, .ref 223), (1, .int a1), (2, .int a2)]) rfl ?_
      refine r_aload_n rfl ?_
      refine q_getR (Sh.ref hI1488.1 kx_223 rfl) ?_
      refine r_iload_n rfl ?_
      refine r_iconst 1 rfl ?_
      refine r_callV 38 rfl [.ref 1, .int a1, .int 1] [] (Nat.le_of_ble_eq_true rfl) rfl (T_X0_about_1 _ hI1488 a1 1) ?_
      rintro _ _ ⟨g1920, rfl, hI1921, hF1922, v1923, rfl, hr1924⟩
      refine At.sti ?_
      have hF1925 := Fr.tr hF1492 hF1922 rfl rfl
      refine At.enter rfl ?_
      refine r_istore ([(6, .int v1923), (5, .int 0), (4, .int 1), (3, .int v1490), (0, .ref 223), (1, .int a1), (2, .int a2)]) rfl ?_
      refine r_iconst 0 rfl ?_
      refine r_istore ([(7, .int 0), (6, .int v1923), (5, .int 0), (4, .int 1), (3, .int v1490), (0, .ref 223), (1, .int a1), (2, .int a2)]) rfl ?_
      refine Ar.fall 43 rfl ?_
      have z_2203 : (1 : Int32).toInt = 1 := rfl
      have z_2204 : (0 : Int32).toInt = 0 := rfl
      have z_2205 : (0 : Int32).toInt = 0 := rfl
      refine w_loopI (fun n_ l_ g_ => ∃ x2183 : Int32, ∃ x2184 : Int32, ∃ x2185 : Int32, ∃ x2186 : Int32, n_ = 11 - x2186.toInt ∧ HI g_ ∧ Fr F_X2_costBeside_223 A_X2_costBeside_223 g0 g_ ∧ en_get 0 l_ = some (.ref 223) ∧ en_get 1 l_ = some (.int a1) ∧ en_get 2 l_ = some (.int a2) ∧ en_get 3 l_ = some (.int v1490) ∧ en_get 4 l_ = some (.int x2183) ∧ en_get 5 l_ = some (.int x2184) ∧ en_get 6 l_ = some (.int x2185) ∧ en_get 7 l_ = some (.int x2186) ∧ (1 ≤ x2183.toInt ∧ x2183.toInt ≤ 1) ∧ (0 ≤ x2186.toInt ∧ x2186.toInt ≤ 11)) ?_ (11 - 0) ⟨1, 0, v1923, 0, by first | rfl | omega, hI1921, hF1925, rfl, rfl, rfl, rfl, rfl, rfl, rfl, rfl, by decide, by decide⟩
      rintro n2191 l2190 g2187 ⟨x2183, x2184, x2185, x2186, hm2206, hI2188, hF2189, e2193, e2194, e2195, e2196, e2197, e2198, e2199, e2200, r2201, r2202⟩ ih2192
      refine At.enter rfl ?_
      refine r_iload e2200 ?_
      refine r_iload_n e2196 ?_
      have bv2208 := q_bnd x2186
      have bv2209 := q_bnd v1490
      refine r_ics 49 rfl (fun c2207 => ?_) (fun c2207 => ?_)
      · have c2207_ : x2186.toInt ≥ v1490.toInt := en_i_ge_t c2207
        refine At.enter rfl ?_
        refine r_iload e2197 ?_
        refine r_ifs 114 rfl (fun c2210 => ?_) (fun c2210 => ?_)
        · have c2210_ : x2183.toInt = 0 := en_k_eq_t c2210
          exfalso; omega
        · have c2210_ : x2183.toInt ≠ 0 := en_k_eq_f c2210
          refine At.enter rfl ?_
          refine r_iload e2198 ?_
          refine r_goto ?_
          refine At.enter rfl ?_
          refine r_ireti ?_
          exact ⟨_, rfl, hI2188, hF2189, _, rfl, trivial⟩
      · have c2207_ : x2186.toInt < v1490.toInt := en_i_ge_f c2207
        refine At.enter rfl ?_
        refine r_aload_n e2193 ?_
        refine q_getR (Sh.ref hI2188.1 kx_223 rfl) ?_
        refine r_iload e2199 ?_
        refine q_inlV 58 rfl [.ref 1, .int x2185] [] (Nat.le_of_ble_eq_true rfl) rfl ?_
        refine Ev.mk rfl rfl ⟨Nat.le_of_ble_eq_true rfl, Or.inr (q_rc hI2188.1 kx_1 rfl)⟩ ?_
        show At _ none _ _ (0, [(0, .ref 1), (1, .int x2185)], [], (_, _)) _
        refine At.enter rfl ?_
        refine r_iload_n rfl ?_
        refine r_ifs 4 rfl (fun c2211 => ?_) (fun c2211 => ?_)
        · have c2211_ : x2185.toInt < 0 := en_k_lt_t c2211
          refine At.enter rfl ?_
          refine r_iconst 0 rfl ?_
          refine Ar.fall 17 rfl ?_
          refine At.enter rfl ?_
          refine q_iretz (by decide) ?_
          refine At.enter rfl ?_
          refine r_ift (by decide) ?_
          refine At.enter rfl ?_
          refine r_iload e2197 ?_
          refine r_ifs 114 rfl (fun c2212 => ?_) (fun c2212 => ?_)
          · have c2212_ : x2183.toInt = 0 := en_k_eq_t c2212
            exfalso; omega
          · have c2212_ : x2183.toInt ≠ 0 := en_k_eq_f c2212
            refine At.enter rfl ?_
            refine r_iload e2198 ?_
            refine r_goto ?_
            refine At.enter rfl ?_
            refine r_ireti ?_
            exact ⟨_, rfl, hI2188, hF2189, _, rfl, trivial⟩
        · have c2211_ : x2185.toInt ≥ 0 := en_k_lt_f c2211
          refine At.enter rfl ?_
          refine r_iload_n rfl ?_
          refine r_aload_n rfl ?_
          obtain ⟨v2213, hv2213⟩ : ∃ v, gI g0 1 0 = v := ⟨_, rfl⟩
          have rv2213 := RgF.at hI0.2.1 (p := 1) (b := 0) rfl
          rw [hv2213] at rv2213
          dsimp only at rv2213
          refine q_getI (Sh.int hI2188.1 kx_1 rfl) v2213 ((hF2189.1 1 0 (by decide)).trans hv2213) ?_
          have bv2215 := q_bnd x2185
          have bv2216 := q_bnd v2213
          refine r_ics 12 rfl (fun c2214 => ?_) (fun c2214 => ?_)
          · have c2214_ : x2185.toInt ≥ v2213.toInt := en_i_ge_t c2214
            refine At.enter rfl ?_
            refine r_iconst 0 rfl ?_
            refine Ar.fall 17 rfl ?_
            refine At.enter rfl ?_
            refine q_iretz (by decide) ?_
            refine At.enter rfl ?_
            refine r_ift (by decide) ?_
            refine At.enter rfl ?_
            refine r_iload e2197 ?_
            refine r_ifs 114 rfl (fun c2217 => ?_) (fun c2217 => ?_)
            · have c2217_ : x2183.toInt = 0 := en_k_eq_t c2217
              exfalso; omega
            · have c2217_ : x2183.toInt ≠ 0 := en_k_eq_f c2217
              refine At.enter rfl ?_
              refine r_iload e2198 ?_
              refine r_goto ?_
              refine At.enter rfl ?_
              refine r_ireti ?_
              exact ⟨_, rfl, hI2188, hF2189, _, rfl, trivial⟩
          · have c2214_ : x2185.toInt < v2213.toInt := en_i_ge_f c2214
            refine At.enter rfl ?_
            refine r_iconst 1 rfl ?_
            refine r_goto ?_
            refine At.enter rfl ?_
            refine q_iretz (by decide) ?_
            refine At.enter rfl ?_
            refine r_iff 61 rfl (by decide) ?_
            refine At.enter rfl ?_
            refine r_iload e2199 ?_
            refine r_iload_n e2195 ?_
            refine r_ics 67 rfl (fun c2218 => ?_) (fun c2218 => ?_)
            · have c2218_ : x2185.toInt ≠ a2.toInt := en_i_ne_t c2218
              refine At.enter rfl ?_
              refine r_iload e2198 ?_
              refine r_aload_n e2193 ?_
              refine r_iload_n e2194 ?_
              refine r_iload e2199 ?_
              refine r_aload_n e2193 ?_
              refine q_getR (Sh.ref hI2188.1 kx_223 rfl) ?_
              refine r_iload e2199 ?_
              obtain ⟨v2219, hv2219⟩ : ∃ v, eA g0 224 x2185.toInt = v := ⟨_, rfl⟩
              refine q_iald (Sh.arr hI2188.1 ka_224) x2185.toInt rfl (by omega) v2219 ((eA_c (hF2189.2.1 224 (by decide))).trans hv2219) ?_
              refine r_callV 89 rfl [.ref 223, .int a1, .int x2185, .int v2219] [.int x2184] (Nat.le_of_ble_eq_true rfl) rfl (T_X2_gets_223 _ hI2188 a1 x2185 v2219) ?_
              rintro _ _ ⟨g2220, rfl, hI2221, hF2222, v2223, rfl, hr2224⟩
              refine At.sti ?_
              have hF2225 := Fr.tr hF2189 hF2222 rfl rfl
              refine At.enter rfl ?_
              refine q_iaddO (fun v2226 _ => ?_)
              refine r_istore _ rfl ?_
              refine Ar.fall 92 rfl ?_
              refine At.enter rfl ?_
              refine r_aload_n (w_p1 (by decide) (Or.inr rfl) e2193) ?_
              refine q_getR (Sh.ref hI2221.1 kx_223 rfl) ?_
              refine r_iload (w_p1 (by decide) (Or.inr rfl) e2199) ?_
              refine r_callV 101 rfl [.ref 1, .int x2185] [] (Nat.le_of_ble_eq_true rfl) rfl (T_X0_next_1 _ hI2221 x2185) ?_
              rintro _ _ ⟨g2227, rfl, hI2228, hF2229, v2230, rfl, hr2231⟩
              refine At.sti ?_
              have hF2232 := Fr.tr hF2225 hF2229 rfl rfl
              refine At.enter rfl ?_
              refine r_istore _ rfl ?_
              refine q_iinc (w_p1 (by decide) (Or.inr rfl) (w_p1 (by decide) (Or.inr rfl) e2200)) (x2186.toInt + 1) rfl (by omega) (fun v2233 hv2233 => ?_)
              refine r_goto ?_
              have bv2234 := q_bnd v2226
              have bv2235 := q_bnd v2230
              exact ih2192 (11 - v2233.toInt) _ _ ⟨x2183, v2226, v2230, v2233, by first | rfl | omega, hI2228, hF2232, (w_p1 (by decide) (Or.inr rfl) (w_p1 (by decide) (Or.inr rfl) (w_p1 (by decide) (Or.inr rfl) e2193))), (w_p1 (by decide) (Or.inr rfl) (w_p1 (by decide) (Or.inr rfl) (w_p1 (by decide) (Or.inr rfl) e2194))), (w_p1 (by decide) (Or.inr rfl) (w_p1 (by decide) (Or.inr rfl) (w_p1 (by decide) (Or.inr rfl) e2195))), (w_p1 (by decide) (Or.inr rfl) (w_p1 (by decide) (Or.inr rfl) (w_p1 (by decide) (Or.inr rfl) e2196))), (w_p1 (by decide) (Or.inr rfl) (w_p1 (by decide) (Or.inr rfl) (w_p1 (by decide) (Or.inr rfl) e2197))), (w_p1 (by decide) (Or.inr rfl) (w_p1 (by decide) (Or.inr rfl) (w_e1 _ _ _))), (w_p1 (by decide) (Or.inr rfl) (w_e1 _ _ _)), (w_e1 _ _ _), by omega, by omega⟩ ⟨by omega, by omega⟩
            · have c2218_ : x2185.toInt = a2.toInt := en_i_ne_f c2218
              exfalso; omega
