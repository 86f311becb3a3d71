def F_X2_gets_223 : List (Nat × Nat) := [(185, 3)]
def A_X2_gets_223 : List Nat := [226]
set_option maxRecDepth 100000 in
set_option maxHeartbeats 4000000 in
theorem T_X2_gets_223 (d : Nat) {N : Nat} {g0 : List en_E} (hI0 : HI g0) (a1 : Int32) (a2 : Int32) (a3 : Int32) : Ev (d + 4) 49 [.ref 223, .int a1, .int a2, .int a3] (g0, N) (fun w h' => ∃ g', h' = (g', N) ∧ HI g' ∧ Fr F_X2_gets_223 A_X2_gets_223 g0 g' ∧ ∃ r : Int32, w = some (.int r) ∧ True) := by
  have hF0 : Fr F_X2_gets_223 A_X2_gets_223 g0 g0 := Fr.rf
  refine Ev.mk rfl rfl ⟨Nat.le_of_ble_eq_true rfl, Or.inr (q_rc hI0.1 kx_223 rfl)⟩ ?_
  show At _ none _ _ (0, [(0, .ref 223), (1, .int a1), (2, .int a2), (3, .int a3)], [], (_, _)) _
  refine At.enter rfl ?_
  refine r_aload_n rfl ?_
  obtain ⟨v69, hv69⟩ : ∃ v, gI g0 223 6 = v := ⟨_, rfl⟩
  refine q_getI (Sh.int hI0.1 kx_223 rfl) v69 hv69 ?_
  refine r_ifs 7 rfl (fun c70 => ?_) (fun c70 => ?_)
  · have c70_ : v69.toInt = 0 := en_k_eq_t c70
    refine At.enter rfl ?_
    refine r_iload_n rfl ?_
    refine r_ireti ?_
    exact ⟨_, rfl, hI0, hF0, _, rfl, trivial⟩
  · have c70_ : v69.toInt ≠ 0 := en_k_eq_f c70
    refine At.enter rfl ?_
    refine r_aload_n rfl ?_
    refine q_getR (Sh.ref hI0.1 kx_223 rfl) ?_
    refine r_iload_n rfl ?_
    refine q_inlV 15 rfl [.ref 1, .int a1] [] (Nat.le_of_ble_eq_true rfl) rfl ?_
    refine Ev.mk rfl rfl ⟨Nat.le_of_ble_eq_true rfl, Or.inr (q_rc hI0.1 kx_1 rfl)⟩ ?_
    show At _ none _ _ (0, [(0, .ref 1), (1, .int a1)], [], (_, _)) _
    refine At.enter rfl ?_
    refine r_iload_n rfl ?_
    refine r_ifs 4 rfl (fun c71 => ?_) (fun c71 => ?_)
    · have c71_ : a1.toInt < 0 := en_k_lt_t c71
      refine At.enter rfl ?_
      refine r_iconst 0 rfl ?_
      refine Ar.fall 17 rfl ?_
      refine At.enter rfl ?_
      refine q_iretz (by decide) ?_
      refine At.enter rfl ?_
      refine r_ift (by decide) ?_
      refine At.enter rfl ?_
      refine r_iload_n rfl ?_
      refine r_ireti ?_
      exact ⟨_, rfl, hI0, hF0, _, rfl, trivial⟩
    · have c71_ : a1.toInt ≥ 0 := en_k_lt_f c71
      refine At.enter rfl ?_
      refine r_iload_n rfl ?_
      refine r_aload_n rfl ?_
      obtain ⟨v72, hv72⟩ : ∃ v, gI g0 1 4 = v := ⟨_, rfl⟩
      have rv72 := RgF.at hI0.2.1 (p := 1) (b := 4) rfl
      rw [hv72] at rv72
      dsimp only at rv72
      refine q_getI (Sh.int hI0.1 kx_1 rfl) v72 hv72 ?_
      have bv74 := q_bnd a1
      have bv75 := q_bnd v72
      refine r_ics 12 rfl (fun c73 => ?_) (fun c73 => ?_)
      · have c73_ : a1.toInt ≥ v72.toInt := en_i_ge_t c73
        refine At.enter rfl ?_
        refine r_iconst 0 rfl ?_
        refine Ar.fall 17 rfl ?_
        refine At.enter rfl ?_
        refine q_iretz (by decide) ?_
        refine At.enter rfl ?_
        refine r_ift (by decide) ?_
        refine At.enter rfl ?_
        refine r_iload_n rfl ?_
        refine r_ireti ?_
        exact ⟨_, rfl, hI0, hF0, _, rfl, trivial⟩
      · have c73_ : a1.toInt < v72.toInt := en_i_ge_f c73
        refine At.enter rfl ?_
        refine r_iconst 1 rfl ?_
        refine r_goto ?_
        refine At.enter rfl ?_
        refine q_iretz (by decide) ?_
        refine At.enter rfl ?_
        refine r_iff 18 rfl (by decide) ?_
        refine At.enter rfl ?_
        refine r_aload_n rfl ?_
        refine q_getR (Sh.ref hI0.1 kx_223 rfl) ?_
        refine r_iload_n rfl ?_
        refine q_inlV 26 rfl [.ref 1, .int a2] [] (Nat.le_of_ble_eq_true rfl) rfl ?_
        refine Ev.mk rfl rfl ⟨Nat.le_of_ble_eq_true rfl, Or.inr (q_rc hI0.1 kx_1 rfl)⟩ ?_
        show At _ none _ _ (0, [(0, .ref 1), (1, .int a2)], [], (_, _)) _
        refine At.enter rfl ?_
        refine r_iload_n rfl ?_
        refine r_ifs 4 rfl (fun c76 => ?_) (fun c76 => ?_)
        · have c76_ : a2.toInt < 0 := en_k_lt_t c76
          refine At.enter rfl ?_
          refine r_iconst 0 rfl ?_
          refine Ar.fall 17 rfl ?_
          refine At.enter rfl ?_
          refine q_iretz (by decide) ?_
          refine At.enter rfl ?_
          refine r_ift (by decide) ?_
          refine At.enter rfl ?_
          refine r_iload_n rfl ?_
          refine r_ireti ?_
          exact ⟨_, rfl, hI0, hF0, _, rfl, trivial⟩
        · have c76_ : a2.toInt ≥ 0 := en_k_lt_f c76
          refine At.enter rfl ?_
          refine r_iload_n rfl ?_
          refine r_aload_n rfl ?_
          obtain ⟨v77, hv77⟩ : ∃ v, gI g0 1 0 = v := ⟨_, rfl⟩
          have rv77 := RgF.at hI0.2.1 (p := 1) (b := 0) rfl
          rw [hv77] at rv77
          dsimp only at rv77
          refine q_getI (Sh.int hI0.1 kx_1 rfl) v77 hv77 ?_
          have bv79 := q_bnd a2
          have bv80 := q_bnd v77
          refine r_ics 12 rfl (fun c78 => ?_) (fun c78 => ?_)
          · have c78_ : a2.toInt ≥ v77.toInt := en_i_ge_t c78
            refine At.enter rfl ?_
            refine r_iconst 0 rfl ?_
            refine Ar.fall 17 rfl ?_
            refine At.enter rfl ?_
            refine q_iretz (by decide) ?_
            refine At.enter rfl ?_
            refine r_ift (by decide) ?_
            refine At.enter rfl ?_
            refine r_iload_n rfl ?_
            refine r_ireti ?_
            exact ⟨_, rfl, hI0, hF0, _, rfl, trivial⟩
          · have c78_ : a2.toInt < v77.toInt := en_i_ge_f c78
            refine At.enter rfl ?_
            refine r_iconst 1 rfl ?_
            refine r_goto ?_
            refine At.enter rfl ?_
            refine q_iretz (by decide) ?_
            refine At.enter rfl ?_
            refine r_iff 29 rfl (by decide) ?_
            refine At.enter rfl ?_
            refine r_iload_n rfl ?_
            refine q_inlS 33 rfl [.int a3] [] (Nat.le_of_ble_eq_true rfl) rfl ?_
            refine Ev.mk rfl rfl ⟨Nat.le_of_ble_eq_true rfl, Or.inl rfl⟩ ?_
            show At _ none _ _ (0, [(0, .int a3)], [], (_, _)) _
            refine At.enter rfl ?_
            refine r_iload_n rfl ?_
            refine r_iconst 0 rfl ?_
            refine r_bipush 99 rfl ?_
            refine q_inlS 7 rfl [.int a3, .int 0, .int 99] [] (Nat.le_of_ble_eq_true rfl) rfl ?_
            refine Ev.mk rfl rfl ⟨Nat.le_of_ble_eq_true rfl, Or.inl rfl⟩ ?_
            show At _ none _ _ (0, [(0, .int a3), (1, .int 0), (2, .int 99)], [], (_, _)) _
            refine At.enter rfl ?_
            refine r_iload_n rfl ?_
            refine r_iload_n rfl ?_
            refine r_ics 5 rfl (fun c81 => ?_) (fun c81 => ?_)
            · have c81_ : a3.toInt < 0 := en_i_lt_t c81
              refine At.enter rfl ?_
              refine r_iconst 0 rfl ?_
              refine Ar.fall 15 rfl ?_
              refine At.enter rfl ?_
              refine q_iretz (by decide) ?_
              refine At.enter rfl ?_
              refine q_iretz (by decide) ?_
              refine At.enter rfl ?_
              refine r_iff 36 rfl (by decide) ?_
              refine At.enter rfl ?_
              refine r_iload_n rfl ?_
              refine r_ireti ?_
              exact ⟨_, rfl, hI0, hF0, _, rfl, trivial⟩
            · have c81_ : a3.toInt ≥ 0 := en_i_lt_f c81
              refine At.enter rfl ?_
              refine r_iload_n rfl ?_
              refine r_iload_n rfl ?_
              refine r_ics 10 rfl (fun c82 => ?_) (fun c82 => ?_)
              · have c82_ : a3.toInt > 99 := en_i_gt_t c82
                refine At.enter rfl ?_
                refine r_iconst 0 rfl ?_
                refine Ar.fall 15 rfl ?_
                refine At.enter rfl ?_
                refine q_iretz (by decide) ?_
                refine At.enter rfl ?_
                refine q_iretz (by decide) ?_
                refine At.enter rfl ?_
                refine r_iff 36 rfl (by decide) ?_
                refine At.enter rfl ?_
                refine r_iload_n rfl ?_
                refine r_ireti ?_
                exact ⟨_, rfl, hI0, hF0, _, rfl, trivial⟩
              · have c82_ : a3.toInt ≤ 99 := en_i_gt_f c82
                refine At.enter rfl ?_
                refine r_iconst 1 rfl ?_
                refine r_goto ?_
                refine At.enter rfl ?_
                refine q_iretz (by decide) ?_
                refine At.enter rfl ?_
                refine q_iretz (by decide) ?_
                refine At.enter rfl ?_
                refine r_ift (by decide) ?_
                refine At.enter rfl ?_
                refine r_iload_n rfl ?_
                refine r_bipush 12 rfl ?_
                refine q_imul (a1.toInt * 12) rfl (by omega) (fun v83 hv83 => ?_)
                refine r_iload_n rfl ?_
                refine q_iadd (v83.toInt + a2.toInt) rfl (by omega) (fun v84 hv84 => ?_)
                refine r_bipush 100 rfl ?_
                refine q_imul (v84.toInt * 100) rfl (by omega) (fun v85 hv85 => ?_)
                refine r_iload_n rfl ?_
                refine q_iadd (v85.toInt + a3.toInt) rfl (by omega) (fun v86 hv86 => ?_)
                refine r_istore ([(4, .int v86), (0, .ref 223), (1, .int a1), (2, .int a2), (3, .int a3)]) rfl ?_
                refine r_aload_n rfl ?_
                refine q_getR (Sh.ref hI0.1 kx_223 rfl) ?_
                refine r_iload rfl ?_
                obtain ⟨v87, hv87⟩ : ∃ v, eA g0 226 (1200 * a1.toInt + 100 * a2.toInt + a3.toInt) = v := ⟨_, rfl⟩
                refine q_iald (Sh.arr hI0.1 ka_226) (1200 * a1.toInt + 100 * a2.toInt + a3.toInt) (by omega) (by omega) v87 hv87 ?_
                refine r_iconst (-1) rfl ?_
                refine r_ics 62 rfl (fun c88 => ?_) (fun c88 => ?_)
                · have c88_ : v87.toInt ≠ (-1) := en_i_ne_t c88
                  refine At.enter rfl ?_
                  refine r_aload_n rfl ?_
                  refine q_getR (Sh.ref hI0.1 kx_223 rfl) ?_
                  refine r_iload rfl ?_
                  refine q_iald (Sh.arr hI0.1 ka_226) (1200 * a1.toInt + 100 * a2.toInt + a3.toInt) (by omega) (by omega) v87 hv87 ?_
                  refine r_ireti ?_
                  exact ⟨_, rfl, hI0, hF0, _, rfl, trivial⟩
                · have c88_ : v87.toInt = (-1) := en_i_ne_f c88
                  refine At.enter rfl ?_
                  refine r_aload_n rfl ?_
                  refine q_getR (Sh.ref hI0.1 kx_223 rfl) ?_
                  refine r_iconst 1 rfl ?_
                  refine r_iload_n rfl ?_
                  refine r_iload_n rfl ?_
                  refine r_iconst 0 rfl ?_
                  refine r_iconst 0 rfl ?_
                  refine r_aload_n rfl ?_
                  refine q_getR (Sh.ref hI0.1 kx_223 rfl) ?_
                  refine q_getR (Sh.ref hI0.1 kx_1 rfl) ?_
                  refine r_iload_n rfl ?_
                  obtain ⟨v89, hv89⟩ : ∃ v, eA g0 3 a2.toInt = v := ⟨_, rfl⟩
                  refine q_iald (Sh.arr hI0.1 ka_3) a2.toInt rfl (by omega) v89 hv89 ?_
                  refine r_iload_n rfl ?_
                  refine r_callV 84 rfl [.ref 185, .int 1, .int a1, .int a2, .int 0, .int 0, .int v89, .int a3] [] (Nat.le_of_ble_eq_true rfl) rfl (T_X3_tells_185 _ hI0 1 a1 a2 0 0 v89 a3) ?_
                  rintro _ _ ⟨g90, rfl, hI91, hF92, v93, rfl, hr94⟩
                  refine At.stl ?_
                  have hF95 := Fr.tr hF0 hF92 rfl rfl
                  refine At.enter rfl ?_
                  refine r_lstore ([(5, .long v93), (4, .int v86), (0, .ref 223), (1, .int a1), (2, .int a2), (3, .int a3)]) rfl ?_
                  refine r_aload_n rfl ?_
                  refine q_getR (Sh.ref hI91.1 kx_223 rfl) ?_
                  refine r_iload rfl ?_
                  refine r_lconst 0 rfl ?_
                  refine r_ldc2 999 rfl ?_
                  refine r_lload rfl ?_
                  refine q_lmin rfl (Nat.le_of_ble_eq_true rfl) (fun v96 hv96 => ?_)
                  have zv97 : (999 : Int64).toInt = 999 := rfl
                  refine q_lmax rfl (Nat.le_of_ble_eq_true rfl) (fun v98 hv98 => ?_)
                  have zv99 : (0 : Int64).toInt = 0 := rfl
                  refine q_l2iO (fun v100 hv100 => ?_)
                  refine q_iast (Sh.arr hI91.1 ka_226) ((1200 * a1.toInt + 100 * a2.toInt + a3.toInt)) (by omega) (by omega) ?_
                  have hI101 := HI.wA0 hI91 ka_226 (p := 226) rfl rfl ((1200 * a1.toInt + 100 * a2.toInt + a3.toInt)) (v100)
                  have hF102 := Fr.wA (p := 226) (j := (1200 * a1.toInt + 100 * a2.toInt + a3.toInt)) (v := v100) hF95 rfl
                  refine Ar.fall 106 rfl ?_
                  refine At.enter rfl ?_
                  refine r_aload_n rfl ?_
                  refine q_getR (Sh.ref hI101.1 kx_223 rfl) ?_
                  refine r_iload rfl ?_
                  refine q_iald (Sh.arr hI101.1 ka_226) (1200 * a1.toInt + 100 * a2.toInt + a3.toInt) (by omega) (by omega) v100 (eA_sA_eq hI91.1 ka_226 (by first | rfl | omega) (by first | decide | omega) (by first | decide | omega)) ?_
                  refine r_ireti ?_
                  exact ⟨_, rfl, hI101, hF102, _, rfl, trivial⟩

def F_X2_costBeside_223 : List (Nat × Nat) := [(185, 3)]
def A_X2_costBeside_223 : List Nat := [226]
set_option maxRecDepth 100000 in
set_option maxHeartbeats 4000000 in
theorem T_X2_costBeside_223 (d : Nat) {N : Nat} {g0 : List en_E} (hI0 : HI g0) (a1 : Int32) (a2 : Int32) : Ev (d + 5) 48 [.ref 223, .int a1, .int a2] (g0, N) (fun w h' => ∃ g', h' = (g', N) ∧ HI g' ∧ Fr F_X2_costBeside_223 A_X2_costBeside_223 g0 g' ∧ ∃ r : Int32, w = some (.int r) ∧ True) := by
  have hF0 : Fr F_X2_costBeside_223 A_X2_costBeside_223 g0 g0 := Fr.rf
  refine Ev.mk rfl rfl ⟨Nat.le_of_ble_eq_true rfl, Or.inr (q_rc hI0.1 kx_223 rfl)⟩ ?_
  show At _ none _ _ (0, [(0, .ref 223), (1, .int a1), (2, .int a2)], [], (_, _)) _
  refine At.enter rfl ?_
  refine r_aload_n rfl ?_
  refine q_getR (Sh.ref hI0.1 kx_223 rfl) ?_
  refine r_iload_n rfl ?_
  refine r_callV 8 rfl [.ref 1, .int a1] [] (Nat.le_of_ble_eq_true rfl) rfl (T_X0_handsOf_1 _ hI0 a1) ?_
  rintro _ _ ⟨g1487, rfl, hI1488, hF1489, v1490, rfl, hr1491⟩
  refine At.sti ?_
  have hF1492 := Fr.tr hF0 hF1489 rfl rfl
  refine At.enter rfl ?_
  refine r_istore_n ([(3, .int v1490), (0, .ref 223), (1, .int a1), (2, .int a2)]) rfl ?_
  refine r_iload_n rfl ?_
  refine r_iconst (-1) rfl ?_
  refine r_ics 14 rfl (fun c1493 => ?_) (fun c1493 => ?_)
  · have c1493_ : a2.toInt ≠ (-1) := en_i_ne_t c1493
    refine At.enter rfl ?_
    refine r_iconst 0 rfl ?_
    refine Ar.fall 24 rfl ?_
    refine At.enter rfl ?_
    refine r_istore ([(4, .int 0), (3, .int v1490), (0, .ref 223), (1, .int a1), (2, .int a2)]) rfl ?_
    refine r_iconst 0 rfl ?_
    refine r_istore ([(5, .int 0), (4, .int 0), (3, .int v1490), (0, .ref 223), (1, .int a1), (2, .int a2)]) rfl ?_
    refine r_aload_n rfl ?_
    refine q_getR (Sh.ref hI1488.1 kx_223 rfl) ?_
    refine r_iload_n rfl ?_
    refine r_iconst 1 rfl ?_
    refine r_callV 38 rfl [.ref 1, .int a1, .int 1] [] (Nat.le_of_ble_eq_true rfl) rfl (T_X0_about_1 _ hI1488 a1 1) ?_
    rintro _ _ ⟨g1494, rfl, hI1495, hF1496, v1497, rfl, hr1498⟩
    refine At.sti ?_
    have hF1499 := Fr.tr hF1492 hF1496 rfl rfl
    refine At.enter rfl ?_
    refine r_istore ([(6, .int v1497), (5, .int 0), (4, .int 0), (3, .int v1490), (0, .ref 223), (1, .int a1), (2, .int a2)]) rfl ?_
    refine r_iconst 0 rfl ?_
    refine r_istore ([(7, .int 0), (6, .int v1497), (5, .int 0), (4, .int 0), (3, .int v1490), (0, .ref 223), (1, .int a1), (2, .int a2)]) rfl ?_
    refine Ar.fall 43 rfl ?_
    have z_1833 : (0 : Int32).toInt = 0 := rfl
    have z_1834 : (0 : Int32).toInt = 0 := rfl
    have z_1835 : (0 : Int32).toInt = 0 := rfl
    refine w_loopI (fun n_ l_ g_ => ∃ x1813 : Int32, ∃ x1814 : Int32, ∃ x1815 : Int32, ∃ x1816 : Int32, n_ = 11 - x1816.toInt ∧ HI g_ ∧ Fr F_X2_costBeside_223 A_X2_costBeside_223 g0 g_ ∧ en_get 0 l_ = some (.ref 223) ∧ en_get 1 l_ = some (.int a1) ∧ en_get 2 l_ = some (.int a2) ∧ en_get 3 l_ = some (.int v1490) ∧ en_get 4 l_ = some (.int x1813) ∧ en_get 5 l_ = some (.int x1814) ∧ en_get 6 l_ = some (.int x1815) ∧ en_get 7 l_ = some (.int x1816) ∧ (0 ≤ x1813.toInt ∧ x1813.toInt ≤ 1) ∧ (0 ≤ x1816.toInt ∧ x1816.toInt ≤ 11)) ?_ (11 - 0) ⟨0, 0, v1497, 0, by first | rfl | omega, hI1495, hF1499, rfl, rfl, rfl, rfl, rfl, rfl, rfl, rfl, by decide, by decide⟩
    rintro n1821 l1820 g1817 ⟨x1813, x1814, x1815, x1816, hm1836, hI1818, hF1819, e1823, e1824, e1825, e1826, e1827, e1828, e1829, e1830, r1831, r1832⟩ ih1822
    refine At.enter rfl ?_
    refine r_iload e1830 ?_
    refine r_iload_n e1826 ?_
    have bv1838 := q_bnd x1816
    have bv1839 := q_bnd v1490
    refine r_ics 49 rfl (fun c1837 => ?_) (fun c1837 => ?_)
    · have c1837_ : x1816.toInt ≥ v1490.toInt := en_i_ge_t c1837
      refine At.enter rfl ?_
      refine r_iload e1827 ?_
      refine r_ifs 114 rfl (fun c1840 => ?_) (fun c1840 => ?_)
      · have c1840_ : x1813.toInt = 0 := en_k_eq_t c1840
        refine At.enter rfl ?_
        refine r_iconst (-1) rfl ?_
        refine Ar.fall 120 rfl ?_
        refine At.enter rfl ?_
        refine r_ireti ?_
        exact ⟨_, rfl, hI1818, hF1819, _, rfl, trivial⟩
      · have c1840_ : x1813.toInt ≠ 0 := en_k_eq_f c1840
        refine At.enter rfl ?_
        refine r_iload e1828 ?_
        refine r_goto ?_
        refine At.enter rfl ?_
        refine r_ireti ?_
        exact ⟨_, rfl, hI1818, hF1819, _, rfl, trivial⟩
    · have c1837_ : x1816.toInt < v1490.toInt := en_i_ge_f c1837
      refine At.enter rfl ?_
      refine r_aload_n e1823 ?_
      refine q_getR (Sh.ref hI1818.1 kx_223 rfl) ?_
      refine r_iload e1829 ?_
      refine q_inlV 58 rfl [.ref 1, .int x1815] [] (Nat.le_of_ble_eq_true rfl) rfl ?_
      refine Ev.mk rfl rfl ⟨Nat.le_of_ble_eq_true rfl, Or.inr (q_rc hI1818.1 kx_1 rfl)⟩ ?_
      show At _ none _ _ (0, [(0, .ref 1), (1, .int x1815)], [], (_, _)) _
      refine At.enter rfl ?_
      refine r_iload_n rfl ?_
      refine r_ifs 4 rfl (fun c1841 => ?_) (fun c1841 => ?_)
      · have c1841_ : x1815.toInt < 0 := en_k_lt_t c1841
        refine At.enter rfl ?_
        refine r_iconst 0 rfl ?_
        refine Ar.fall 17 rfl ?_
        refine At.enter rfl ?_
        refine q_iretz (by decide) ?_
        refine At.enter rfl ?_
        refine r_ift (by decide) ?_
        refine At.enter rfl ?_
        refine r_iload e1827 ?_
        refine r_ifs 114 rfl (fun c1842 => ?_) (fun c1842 => ?_)
        · have c1842_ : x1813.toInt = 0 := en_k_eq_t c1842
          refine At.enter rfl ?_
          refine r_iconst (-1) rfl ?_
          refine Ar.fall 120 rfl ?_
          refine At.enter rfl ?_
          refine r_ireti ?_
          exact ⟨_, rfl, hI1818, hF1819, _, rfl, trivial⟩
        · have c1842_ : x1813.toInt ≠ 0 := en_k_eq_f c1842
          refine At.enter rfl ?_
          refine r_iload e1828 ?_
          refine r_goto ?_
          refine At.enter rfl ?_
          refine r_ireti ?_
          exact ⟨_, rfl, hI1818, hF1819, _, rfl, trivial⟩
      · have c1841_ : x1815.toInt ≥ 0 := en_k_lt_f c1841
        refine At.enter rfl ?_
        refine r_iload_n rfl ?_
        refine r_aload_n rfl ?_
        obtain ⟨v1843, hv1843⟩ : ∃ v, gI g0 1 0 = v := ⟨_, rfl⟩
        have rv1843 := RgF.at hI0.2.1 (p := 1) (b := 0) rfl
        rw [hv1843] at rv1843
        dsimp only at rv1843
        refine q_getI (Sh.int hI1818.1 kx_1 rfl) v1843 ((hF1819.1 1 0 (by decide)).trans hv1843) ?_
        have bv1845 := q_bnd x1815
        have bv1846 := q_bnd v1843
        refine r_ics 12 rfl (fun c1844 => ?_) (fun c1844 => ?_)
        · have c1844_ : x1815.toInt ≥ v1843.toInt := en_i_ge_t c1844
          refine At.enter rfl ?_
          refine r_iconst 0 rfl ?_
          refine Ar.fall 17 rfl ?_
          refine At.enter rfl ?_
          refine q_iretz (by decide) ?_
          refine At.enter rfl ?_
          refine r_ift (by decide) ?_
          refine At.enter rfl ?_
          refine r_iload e1827 ?_
          refine r_ifs 114 rfl (fun c1847 => ?_) (fun c1847 => ?_)
          · have c1847_ : x1813.toInt = 0 := en_k_eq_t c1847
            refine At.enter rfl ?_
            refine r_iconst (-1) rfl ?_
            refine Ar.fall 120 rfl ?_
            refine At.enter rfl ?_
            refine r_ireti ?_
            exact ⟨_, rfl, hI1818, hF1819, _, rfl, trivial⟩
          · have c1847_ : x1813.toInt ≠ 0 := en_k_eq_f c1847
            refine At.enter rfl ?_
            refine r_iload e1828 ?_
            refine r_goto ?_
            refine At.enter rfl ?_
            refine r_ireti ?_
            exact ⟨_, rfl, hI1818, hF1819, _, rfl, trivial⟩
        · have c1844_ : x1815.toInt < v1843.toInt := en_i_ge_f c1844
          refine At.enter rfl ?_
          refine r_iconst 1 rfl ?_
          refine r_goto ?_
          refine At.enter rfl ?_
          refine q_iretz (by decide) ?_
          refine At.enter rfl ?_
          refine r_iff 61 rfl (by decide) ?_
          refine At.enter rfl ?_
          refine r_iload e1829 ?_
          refine r_iload_n e1825 ?_
          refine r_ics 67 rfl (fun c1848 => ?_) (fun c1848 => ?_)
          · have c1848_ : x1815.toInt ≠ a2.toInt := en_i_ne_t c1848
            refine At.enter rfl ?_
            refine r_iload e1828 ?_
            refine r_aload_n e1823 ?_
            refine r_iload_n e1824 ?_
            refine r_iload e1829 ?_
            refine r_aload_n e1823 ?_
            refine q_getR (Sh.ref hI1818.1 kx_223 rfl) ?_
            refine r_iload e1829 ?_
            obtain ⟨v1849, hv1849⟩ : ∃ v, eA g0 224 x1815.toInt = v := ⟨_, rfl⟩
            refine q_iald (Sh.arr hI1818.1 ka_224) x1815.toInt rfl (by omega) v1849 ((eA_c (hF1819.2.1 224 (by decide))).trans hv1849) ?_
            refine r_callV 89 rfl [.ref 223, .int a1, .int x1815, .int v1849] [.int x1814] (Nat.le_of_ble_eq_true rfl) rfl (T_X2_gets_223 _ hI1818 a1 x1815 v1849) ?_
            rintro _ _ ⟨g1850, rfl, hI1851, hF1852, v1853, rfl, hr1854⟩
            refine At.sti ?_
            have hF1855 := Fr.tr hF1819 hF1852 rfl rfl
            refine At.enter rfl ?_
            refine q_iaddO (fun v1856 _ => ?_)
            refine r_istore _ rfl ?_
            refine Ar.fall 92 rfl ?_
            refine At.enter rfl ?_
            refine r_aload_n (w_p1 (by decide) (Or.inr rfl) e1823) ?_
            refine q_getR (Sh.ref hI1851.1 kx_223 rfl) ?_
            refine r_iload (w_p1 (by decide) (Or.inr rfl) e1829) ?_
            refine r_callV 101 rfl [.ref 1, .int x1815] [] (Nat.le_of_ble_eq_true rfl) rfl (T_X0_next_1 _ hI1851 x1815) ?_
            rintro _ _ ⟨g1857, rfl, hI1858, hF1859, v1860, rfl, hr1861⟩
            refine At.sti ?_
            have hF1862 := Fr.tr hF1855 hF1859 rfl rfl
            refine At.enter rfl ?_
            refine r_istore _ rfl ?_
            refine q_iinc (w_p1 (by decide) (Or.inr rfl) (w_p1 (by decide) (Or.inr rfl) e1830)) (x1816.toInt + 1) rfl (by omega) (fun v1863 hv1863 => ?_)
            refine r_goto ?_
            have bv1864 := q_bnd v1856
            have bv1865 := q_bnd v1860
            exact ih1822 (11 - v1863.toInt) _ _ ⟨x1813, v1856, v1860, v1863, by first | rfl | omega, hI1858, hF1862, (w_p1 (by decide) (Or.inr rfl) (w_p1 (by decide) (Or.inr rfl) (w_p1 (by decide) (Or.inr rfl) e1823))), (w_p1 (by decide) (Or.inr rfl) (w_p1 (by decide) (Or.inr rfl) (w_p1 (by decide) (Or.inr rfl) e1824))), (w_p1 (by decide) (Or.inr rfl) (w_p1 (by decide) (Or.inr rfl) (w_p1 (by decide) (Or.inr rfl) e1825))), (w_p1 (by decide) (Or.inr rfl) (w_p1 (by decide) (Or.inr rfl) (w_p1 (by decide) (Or.inr rfl) e1826))), (w_p1 (by decide) (Or.inr rfl) (w_p1 (by decide) (Or.inr rfl) (w_p1 (by decide) (Or.inr rfl) e1827))), (w_p1 (by decide) (Or.inr rfl) (w_p1 (by decide) (Or.inr rfl) (w_e1 _ _ _))), (w_p1 (by decide) (Or.inr rfl) (w_e1 _ _ _)), (w_e1 _ _ _), by omega, by omega⟩ ⟨by omega, by omega⟩
          · have c1848_ : x1815.toInt = a2.toInt := en_i_ne_f c1848
            refine At.enter rfl ?_
            refine r_iconst 1 rfl ?_
            refine r_istore _ rfl ?_
            refine r_goto ?_
            refine At.enter rfl ?_
            refine r_aload_n (w_p1 (by decide) (Or.inr rfl) e1823) ?_
            refine q_getR (Sh.ref hI1818.1 kx_223 rfl) ?_
            refine r_iload (w_p1 (by decide) (Or.inr rfl) e1829) ?_
            refine r_callV 101 rfl [.ref 1, .int x1815] [] (Nat.le_of_ble_eq_true rfl) rfl (T_X0_next_1 _ hI1818 x1815) ?_
            rintro _ _ ⟨g1866, rfl, hI1867, hF1868, v1869, rfl, hr1870⟩
            refine At.sti ?_
            have hF1871 := Fr.tr hF1819 hF1868 rfl rfl
            refine At.enter rfl ?_
            refine r_istore _ rfl ?_
            refine q_iinc (w_p1 (by decide) (Or.inr rfl) (w_p1 (by decide) (Or.inr rfl) e1830)) (x1816.toInt + 1) rfl (by omega) (fun v1872 hv1872 => ?_)
            refine r_goto ?_
            have bv1873 := q_bnd x1814
            have bv1874 := q_bnd v1869
            exact ih1822 (11 - v1872.toInt) _ _ ⟨1, x1814, v1869, v1872, by first | rfl | omega, hI1867, hF1871, (w_p1 (by decide) (Or.inr rfl) (w_p1 (by decide) (Or.inr rfl) (w_p1 (by decide) (Or.inr rfl) e1823))), (w_p1 (by decide) (Or.inr rfl) (w_p1 (by decide) (Or.inr rfl) (w_p1 (by decide) (Or.inr rfl) e1824))), (w_p1 (by decide) (Or.inr rfl) (w_p1 (by decide) (Or.inr rfl) (w_p1 (by decide) (Or.inr rfl) e1825))), (w_p1 (by decide) (Or.inr rfl) (w_p1 (by decide) (Or.inr rfl) (w_p1 (by decide) (Or.inr rfl) e1826))), (w_p1 (by decide) (Or.inr rfl) (w_p1 (by decide) (Or.inr rfl) (w_e1 _ _ _))), (w_p1 (by decide) (Or.inr rfl) (w_p1 (by decide) (Or.inr rfl) (w_p1 (by decide) (Or.inr rfl) e1828))), (w_p1 (by decide) (Or.inr rfl) (w_e1 _ _ _)), (w_e1 _ _ _), by decide, by omega⟩ ⟨by omega, by omega⟩
  · have c1493_ : a2.toInt = (-1) := en_i_ne_f c1493
    refine At.enter rfl ?_
    refine r_iload_n rfl ?_
    refine r_iconst (-1) rfl ?_
    refine r_ics 19 rfl (fun c1875 => ?_) (fun c1875 => ?_)
    · have c1875_ : v1490.toInt = (-1) := en_i_eq_t c1875
      refine At.enter rfl ?_
      refine r_iconst 0 rfl ?_
      refine Ar.fall 24 rfl ?_
      refine At.enter rfl ?_
      refine r_istore ([(4, .int 0), (3, .int v1490), (0, .ref 223), (1, .int a1), (2, .int a2)]) rfl ?_
      refine r_iconst 0 rfl ?_
      refine r_istore ([(5, .int 0), (4, .int 0), (3, .int v1490), (0, .ref 223), (1, .int a1), (2, .int a2)]) rfl ?_
      refine r_aload_n rfl ?_
      refine q_getR (Sh.ref hI1488.1 kx_223 rfl) ?_
      refine r_iload_n rfl ?_
      refine r_iconst 1 rfl ?_
      refine r_callV 38 rfl [.ref 1, .int a1, .int 1] [] (Nat.le_of_ble_eq_true rfl) rfl (T_X0_about_1 _ hI1488 a1 1) ?_
      rintro _ _ ⟨g1876, rfl, hI1877, hF1878, v1879, rfl, hr1880⟩
      refine At.sti ?_
      have hF1881 := Fr.tr hF1492 hF1878 rfl rfl
      refine At.enter rfl ?_
      refine r_istore ([(6, .int v1879), (5, .int 0), (4, .int 0), (3, .int v1490), (0, .ref 223), (1, .int a1), (2, .int a2)]) rfl ?_
      refine r_iconst 0 rfl ?_
      refine r_istore ([(7, .int 0), (6, .int v1879), (5, .int 0), (4, .int 0), (3, .int v1490), (0, .ref 223), (1, .int a1), (2, .int a2)]) rfl ?_
      refine Ar.fall 43 rfl ?_
      have z_1912 : (0 : Int32).toInt = 0 := rfl
      have z_1913 : (0 : Int32).toInt = 0 := rfl
      have z_1914 : (0 : Int32).toInt = 0 := rfl
      refine w_loopI (fun n_ l_ g_ => ∃ x1891 : Int32, ∃ x1892 : Int32, ∃ x1893 : Int32, ∃ x1894 : Int32, n_ = 0 ∧ HI g_ ∧ Fr F_X2_costBeside_223 A_X2_costBeside_223 g0 g_ ∧ en_get 0 l_ = some (.ref 223) ∧ en_get 1 l_ = some (.int a1) ∧ en_get 2 l_ = some (.int a2) ∧ en_get 3 l_ = some (.int v1490) ∧ en_get 4 l_ = some (.int x1891) ∧ en_get 5 l_ = some (.int x1892) ∧ en_get 6 l_ = some (.int x1893) ∧ en_get 7 l_ = some (.int x1894) ∧ (0 ≤ x1891.toInt ∧ x1891.toInt ≤ 0) ∧ (0 ≤ x1892.toInt ∧ x1892.toInt ≤ 0) ∧ (0 ≤ x1894.toInt ∧ x1894.toInt ≤ 0)) ?_ (0) ⟨0, 0, v1879, 0, by first | rfl | omega, hI1877, hF1881, rfl, rfl, rfl, rfl, rfl, rfl, rfl, rfl, by decide, by decide, by decide⟩
      rintro n1899 l1898 g1895 ⟨x1891, x1892, x1893, x1894, hm1915, hI1896, hF1897, e1901, e1902, e1903, e1904, e1905, e1906, e1907, e1908, r1909, r1910, r1911⟩ ih1900
      refine At.enter rfl ?_
      refine r_iload e1908 ?_
      refine r_iload_n e1904 ?_
      have bv1917 := q_bnd x1894
      have bv1918 := q_bnd v1490
      refine r_ics 49 rfl (fun c1916 => ?_) (fun c1916 => ?_)
      · have c1916_ : x1894.toInt ≥ v1490.toInt := en_i_ge_t c1916
        refine At.enter rfl ?_
        refine r_iload e1905 ?_
        refine r_ifs 114 rfl (fun c1919 => ?_) (fun c1919 => ?_)
        · have c1919_ : x1891.toInt = 0 := en_k_eq_t c1919
          refine At.enter rfl ?_
          refine r_iconst (-1) rfl ?_
          refine Ar.fall 120 rfl ?_
          refine At.enter rfl ?_
          refine r_ireti ?_
          exact ⟨_, rfl, hI1896, hF1897, _, rfl, trivial⟩
        · have c1919_ : x1891.toInt ≠ 0 := en_k_eq_f c1919
          exfalso; omega
      · have c1916_ : x1894.toInt < v1490.toInt := en_i_ge_f c1916
        exfalso; omega
    · have c1875_ : v1490.toInt ≠ (-1) := en_i_eq_f c1875
      refine At.enter rfl ?_
      refine r_iconst 1 rfl ?_
      refine r_goto ?_
      refine At.enter rfl ?_
      refine r_istore ([(4, .int 1), (3, .int v1490), (0, .ref 223), (1, .int a1), (2, .int a2)]) rfl ?_
      refine r_iconst 0 rfl ?_
      refine r_istore ([(5, .int 0), (4, .int 1), (3, .int v1490), (0, .ref 223), (1, .int a1), (2, .int a2)]) rfl ?_
      refine r_aload_n rfl ?_
      refine q_getR (Sh.ref hI1488.1 kx_223 rfl) ?_
      refine r_iload_n rfl ?_
      refine r_iconst 1 rfl ?_
      refine r_callV 38 rfl [.ref 1, .int a1, .int 1] [] (Nat.le_of_ble_eq_true rfl) rfl (T_X0_about_1 _ hI1488 a1 1) ?_
      rintro _ _ ⟨g1920, rfl, hI1921, hF1922, v1923, rfl, hr1924⟩
      refine At.sti ?_
      have hF1925 := Fr.tr hF1492 hF1922 rfl rfl
      refine At.enter rfl ?_
      refine r_istore ([(6, .int v1923), (5, .int 0), (4, .int 1), (3, .int v1490), (0, .ref 223), (1, .int a1), (2, .int a2)]) rfl ?_
      refine r_iconst 0 rfl ?_
      refine r_istore ([(7, .int 0), (6, .int v1923), (5, .int 0), (4, .int 1), (3, .int v1490), (0, .ref 223), (1, .int a1), (2, .int a2)]) rfl ?_
      refine Ar.fall 43 rfl ?_
      have z_2203 : (1 : Int32).toInt = 1 := rfl
      have z_2204 : (0 : Int32).toInt = 0 := rfl
      have z_2205 : (0 : Int32).toInt = 0 := rfl
      refine w_loopI (fun n_ l_ g_ => ∃ x2183 : Int32, ∃ x2184 : Int32, ∃ x2185 : Int32, ∃ x2186 : Int32, n_ = 11 - x2186.toInt ∧ HI g_ ∧ Fr F_X2_costBeside_223 A_X2_costBeside_223 g0 g_ ∧ en_get 0 l_ = some (.ref 223) ∧ en_get 1 l_ = some (.int a1) ∧ en_get 2 l_ = some (.int a2) ∧ en_get 3 l_ = some (.int v1490) ∧ en_get 4 l_ = some (.int x2183) ∧ en_get 5 l_ = some (.int x2184) ∧ en_get 6 l_ = some (.int x2185) ∧ en_get 7 l_ = some (.int x2186) ∧ (1 ≤ x2183.toInt ∧ x2183.toInt ≤ 1) ∧ (0 ≤ x2186.toInt ∧ x2186.toInt ≤ 11)) ?_ (11 - 0) ⟨1, 0, v1923, 0, by first | rfl | omega, hI1921, hF1925, rfl, rfl, rfl, rfl, rfl, rfl, rfl, rfl, by decide, by decide⟩
      rintro n2191 l2190 g2187 ⟨x2183, x2184, x2185, x2186, hm2206, hI2188, hF2189, e2193, e2194, e2195, e2196, e2197, e2198, e2199, e2200, r2201, r2202⟩ ih2192
      refine At.enter rfl ?_
      refine r_iload e2200 ?_
      refine r_iload_n e2196 ?_
      have bv2208 := q_bnd x2186
      have bv2209 := q_bnd v1490
      refine r_ics 49 rfl (fun c2207 => ?_) (fun c2207 => ?_)
      · have c2207_ : x2186.toInt ≥ v1490.toInt := en_i_ge_t c2207
        refine At.enter rfl ?_
        refine r_iload e2197 ?_
        refine r_ifs 114 rfl (fun c2210 => ?_) (fun c2210 => ?_)
        · have c2210_ : x2183.toInt = 0 := en_k_eq_t c2210
          exfalso; omega
        · have c2210_ : x2183.toInt ≠ 0 := en_k_eq_f c2210
          refine At.enter rfl ?_
          refine r_iload e2198 ?_
          refine r_goto ?_
          refine At.enter rfl ?_
          refine r_ireti ?_
          exact ⟨_, rfl, hI2188, hF2189, _, rfl, trivial⟩
      · have c2207_ : x2186.toInt < v1490.toInt := en_i_ge_f c2207
        refine At.enter rfl ?_
        refine r_aload_n e2193 ?_
        refine q_getR (Sh.ref hI2188.1 kx_223 rfl) ?_
        refine r_iload e2199 ?_
        refine q_inlV 58 rfl [.ref 1, .int x2185] [] (Nat.le_of_ble_eq_true rfl) rfl ?_
        refine Ev.mk rfl rfl ⟨Nat.le_of_ble_eq_true rfl, Or.inr (q_rc hI2188.1 kx_1 rfl)⟩ ?_
        show At _ none _ _ (0, [(0, .ref 1), (1, .int x2185)], [], (_, _)) _
        refine At.enter rfl ?_
        refine r_iload_n rfl ?_
        refine r_ifs 4 rfl (fun c2211 => ?_) (fun c2211 => ?_)
        · have c2211_ : x2185.toInt < 0 := en_k_lt_t c2211
          refine At.enter rfl ?_
          refine r_iconst 0 rfl ?_
          refine Ar.fall 17 rfl ?_
          refine At.enter rfl ?_
          refine q_iretz (by decide) ?_
          refine At.enter rfl ?_
          refine r_ift (by decide) ?_
          refine At.enter rfl ?_
          refine r_iload e2197 ?_
          refine r_ifs 114 rfl (fun c2212 => ?_) (fun c2212 => ?_)
          · have c2212_ : x2183.toInt = 0 := en_k_eq_t c2212
            exfalso; omega
          · have c2212_ : x2183.toInt ≠ 0 := en_k_eq_f c2212
            refine At.enter rfl ?_
            refine r_iload e2198 ?_
            refine r_goto ?_
            refine At.enter rfl ?_
            refine r_ireti ?_
            exact ⟨_, rfl, hI2188, hF2189, _, rfl, trivial⟩
        · have c2211_ : x2185.toInt ≥ 0 := en_k_lt_f c2211
          refine At.enter rfl ?_
          refine r_iload_n rfl ?_
          refine r_aload_n rfl ?_
          obtain ⟨v2213, hv2213⟩ : ∃ v, gI g0 1 0 = v := ⟨_, rfl⟩
          have rv2213 := RgF.at hI0.2.1 (p := 1) (b := 0) rfl
          rw [hv2213] at rv2213
          dsimp only at rv2213
          refine q_getI (Sh.int hI2188.1 kx_1 rfl) v2213 ((hF2189.1 1 0 (by decide)).trans hv2213) ?_
          have bv2215 := q_bnd x2185
          have bv2216 := q_bnd v2213
          refine r_ics 12 rfl (fun c2214 => ?_) (fun c2214 => ?_)
          · have c2214_ : x2185.toInt ≥ v2213.toInt := en_i_ge_t c2214
            refine At.enter rfl ?_
            refine r_iconst 0 rfl ?_
            refine Ar.fall 17 rfl ?_
            refine At.enter rfl ?_
            refine q_iretz (by decide) ?_
            refine At.enter rfl ?_
            refine r_ift (by decide) ?_
            refine At.enter rfl ?_
            refine r_iload e2197 ?_
            refine r_ifs 114 rfl (fun c2217 => ?_) (fun c2217 => ?_)
            · have c2217_ : x2183.toInt = 0 := en_k_eq_t c2217
              exfalso; omega
            · have c2217_ : x2183.toInt ≠ 0 := en_k_eq_f c2217
              refine At.enter rfl ?_
              refine r_iload e2198 ?_
              refine r_goto ?_
              refine At.enter rfl ?_
              refine r_ireti ?_
              exact ⟨_, rfl, hI2188, hF2189, _, rfl, trivial⟩
          · have c2214_ : x2185.toInt < v2213.toInt := en_i_ge_f c2214
            refine At.enter rfl ?_
            refine r_iconst 1 rfl ?_
            refine r_goto ?_
            refine At.enter rfl ?_
            refine q_iretz (by decide) ?_
            refine At.enter rfl ?_
            refine r_iff 61 rfl (by decide) ?_
            refine At.enter rfl ?_
            refine r_iload e2199 ?_
            refine r_iload_n e2195 ?_
            refine r_ics 67 rfl (fun c2218 => ?_) (fun c2218 => ?_)
            · have c2218_ : x2185.toInt ≠ a2.toInt := en_i_ne_t c2218
              refine At.enter rfl ?_
              refine r_iload e2198 ?_
              refine r_aload_n e2193 ?_
              refine r_iload_n e2194 ?_
              refine r_iload e2199 ?_
              refine r_aload_n e2193 ?_
              refine q_getR (Sh.ref hI2188.1 kx_223 rfl) ?_
              refine r_iload e2199 ?_
              obtain ⟨v2219, hv2219⟩ : ∃ v, eA g0 224 x2185.toInt = v := ⟨_, rfl⟩
              refine q_iald (Sh.arr hI2188.1 ka_224) x2185.toInt rfl (by omega) v2219 ((eA_c (hF2189.2.1 224 (by decide))).trans hv2219) ?_
              refine r_callV 89 rfl [.ref 223, .int a1, .int x2185, .int v2219] [.int x2184] (Nat.le_of_ble_eq_true rfl) rfl (T_X2_gets_223 _ hI2188 a1 x2185 v2219) ?_
              rintro _ _ ⟨g2220, rfl, hI2221, hF2222, v2223, rfl, hr2224⟩
              refine At.sti ?_
              have hF2225 := Fr.tr hF2189 hF2222 rfl rfl
              refine At.enter rfl ?_
              refine q_iaddO (fun v2226 _ => ?_)
              refine r_istore _ rfl ?_
              refine Ar.fall 92 rfl ?_
              refine At.enter rfl ?_
              refine r_aload_n (w_p1 (by decide) (Or.inr rfl) e2193) ?_
              refine q_getR (Sh.ref hI2221.1 kx_223 rfl) ?_
              refine r_iload (w_p1 (by decide) (Or.inr rfl) e2199) ?_
              refine r_callV 101 rfl [.ref 1, .int x2185] [] (Nat.le_of_ble_eq_true rfl) rfl (T_X0_next_1 _ hI2221 x2185) ?_
              rintro _ _ ⟨g2227, rfl, hI2228, hF2229, v2230, rfl, hr2231⟩
              refine At.sti ?_
              have hF2232 := Fr.tr hF2225 hF2229 rfl rfl
              refine At.enter rfl ?_
              refine r_istore _ rfl ?_
              refine q_iinc (w_p1 (by decide) (Or.inr rfl) (w_p1 (by decide) (Or.inr rfl) e2200)) (x2186.toInt + 1) rfl (by omega) (fun v2233 hv2233 => ?_)
              refine r_goto ?_
              have bv2234 := q_bnd v2226
              have bv2235 := q_bnd v2230
              exact ih2192 (11 - v2233.toInt) _ _ ⟨x2183, v2226, v2230, v2233, by first | rfl | omega, hI2228, hF2232, (w_p1 (by decide) (Or.inr rfl) (w_p1 (by decide) (Or.inr rfl) (w_p1 (by decide) (Or.inr rfl) e2193))), (w_p1 (by decide) (Or.inr rfl) (w_p1 (by decide) (Or.inr rfl) (w_p1 (by decide) (Or.inr rfl) e2194))), (w_p1 (by decide) (Or.inr rfl) (w_p1 (by decide) (Or.inr rfl) (w_p1 (by decide) (Or.inr rfl) e2195))), (w_p1 (by decide) (Or.inr rfl) (w_p1 (by decide) (Or.inr rfl) (w_p1 (by decide) (Or.inr rfl) e2196))), (w_p1 (by decide) (Or.inr rfl) (w_p1 (by decide) (Or.inr rfl) (w_p1 (by decide) (Or.inr rfl) e2197))), (w_p1 (by decide) (Or.inr rfl) (w_p1 (by decide) (Or.inr rfl) (w_e1 _ _ _))), (w_p1 (by decide) (Or.inr rfl) (w_e1 _ _ _)), (w_e1 _ _ _), by omega, by omega⟩ ⟨by omega, by omega⟩
            · have c2218_ : x2185.toInt = a2.toInt := en_i_ne_f c2218
              exfalso; omega

def F_X2_incomeBy_223 : List (Nat × Nat) := [(185, 3)]
def A_X2_incomeBy_223 : List Nat := [226]
set_option maxRecDepth 100000 in
set_option maxHeartbeats 4000000 in
theorem T_X2_incomeBy_223 (d : Nat) {N : Nat} {g0 : List en_E} (hI0 : HI g0) (a1 : Int32) (a2 : Int32) : Ev (d + 5) 47 [.ref 223, .int a1, .int a2] (g0, N) (fun w h' => ∃ g', h' = (g', N) ∧ HI g' ∧ Fr F_X2_incomeBy_223 A_X2_incomeBy_223 g0 g' ∧ ∃ r : Int32, w = some (.int r) ∧ True) := by
  have hF0 : Fr F_X2_incomeBy_223 A_X2_incomeBy_223 g0 g0 := Fr.rf
  refine Ev.mk rfl rfl ⟨Nat.le_of_ble_eq_true rfl, Or.inr (q_rc hI0.1 kx_223 rfl)⟩ ?_
  show At _ none _ _ (0, [(0, .ref 223), (1, .int a1), (2, .int a2)], [], (_, _)) _
  refine At.enter rfl ?_
  refine r_iconst 0 rfl ?_
  refine r_istore_n ([(3, .int 0), (0, .ref 223), (1, .int a1), (2, .int a2)]) rfl ?_
  refine r_iconst 0 rfl ?_
  refine r_istore ([(4, .int 0), (3, .int 0), (0, .ref 223), (1, .int a1), (2, .int a2)]) rfl ?_
  refine Ar.fall 5 rfl ?_
  have z_713 : (0 : Int32).toInt = 0 := rfl
  have z_714 : (0 : Int32).toInt = 0 := rfl
  refine w_loopI (fun n_ l_ g_ => ∃ x699 : Int32, ∃ x700 : Int32, n_ = 8 - x700.toInt ∧ HI g_ ∧ Fr F_X2_incomeBy_223 A_X2_incomeBy_223 g0 g_ ∧ en_get 0 l_ = some (.ref 223) ∧ en_get 1 l_ = some (.int a1) ∧ en_get 2 l_ = some (.int a2) ∧ en_get 3 l_ = some (.int x699) ∧ en_get 4 l_ = some (.int x700) ∧ (0 ≤ x700.toInt ∧ x700.toInt ≤ 8)) ?_ (8 - 0) ⟨0, 0, by first | rfl | omega, hI0, hF0, rfl, rfl, rfl, rfl, rfl, by decide⟩
  rintro n705 l704 g701 ⟨x699, x700, hm715, hI702, hF703, e707, e708, e709, e710, e711, r712⟩ ih706
  refine At.enter rfl ?_
  refine r_iload e711 ?_
  refine r_aload_n e707 ?_
  refine q_getR (Sh.ref hI702.1 kx_223 rfl) ?_
  obtain ⟨v716, hv716⟩ : ∃ v, gI g0 1 4 = v := ⟨_, rfl⟩
  have rv716 := RgF.at hI0.2.1 (p := 1) (b := 4) rfl
  rw [hv716] at rv716
  dsimp only at rv716
  refine q_getI (Sh.int hI702.1 kx_1 rfl) v716 ((hF703.1 1 4 (by decide)).trans hv716) ?_
  have bv718 := q_bnd x700
  have bv719 := q_bnd v716
  refine r_ics 17 rfl (fun c717 => ?_) (fun c717 => ?_)
  · have c717_ : x700.toInt ≥ v716.toInt := en_i_ge_t c717
    refine At.enter rfl ?_
    refine r_iload_n e710 ?_
    refine r_ireti ?_
    exact ⟨_, rfl, hI702, hF703, _, rfl, trivial⟩
  · have c717_ : x700.toInt < v716.toInt := en_i_ge_f c717
    refine At.enter rfl ?_
    refine r_aload_n e707 ?_
    refine q_getR (Sh.ref hI702.1 kx_223 rfl) ?_
    refine r_iload e711 ?_
    obtain ⟨v720, hv720⟩ : ∃ v, eA g0 225 x700.toInt = v := ⟨_, rfl⟩
    refine q_iald (Sh.arr hI702.1 ka_225) x700.toInt rfl (by omega) v720 ((eA_c (hF703.2.1 225 (by decide))).trans hv720) ?_
    refine r_iconst (-1) rfl ?_
    refine r_ics 28 rfl (fun c721 => ?_) (fun c721 => ?_)
    · have c721_ : v720.toInt = (-1) := en_i_eq_t c721
      refine At.enter rfl ?_
      refine q_iinc e711 (x700.toInt + 1) rfl (by omega) (fun v722 hv722 => ?_)
      refine r_goto ?_
      have bv723 := q_bnd x699
      exact ih706 (8 - v722.toInt) _ _ ⟨x699, v722, by first | rfl | omega, hI702, hF703, (w_p1 (by decide) (Or.inr rfl) e707), (w_p1 (by decide) (Or.inr rfl) e708), (w_p1 (by decide) (Or.inr rfl) e709), (w_p1 (by decide) (Or.inr rfl) e710), (w_e1 _ _ _), by omega⟩ ⟨by omega, by omega⟩
    · have c721_ : v720.toInt ≠ (-1) := en_i_eq_f c721
      refine At.enter rfl ?_
      refine r_aload_n e707 ?_
      refine r_iload e711 ?_
      refine r_iload_n e708 ?_
      refine r_iload_n e709 ?_
      refine r_callV 36 rfl [.ref 223, .int x700, .int a1, .int a2] [] (Nat.le_of_ble_eq_true rfl) rfl (T_X2_gets_223 _ hI702 x700 a1 a2) ?_
      rintro _ _ ⟨g724, rfl, hI725, hF726, v727, rfl, hr728⟩
      refine At.sti ?_
      have hF729 := Fr.tr hF703 hF726 rfl rfl
      refine At.enter rfl ?_
      refine r_istore _ rfl ?_
      refine r_iload (w_e1 _ _ _) ?_
      refine r_aload_n (w_p1 (by decide) (Or.inr rfl) e707) ?_
      refine q_getR (Sh.ref hI725.1 kx_223 rfl) ?_
      refine r_iload (w_p1 (by decide) (Or.inr rfl) e711) ?_
      refine q_iald (Sh.arr hI725.1 ka_225) x700.toInt rfl (by omega) v720 ((eA_c ((hF726.2.1 225 (by decide)).trans (hF703.2.1 225 (by decide)))).trans hv720) ?_
      refine q_iaddO (fun v730 _ => ?_)
      refine r_aload_n (w_p1 (by decide) (Or.inr rfl) e707) ?_
      refine q_getR (Sh.ref hI725.1 kx_223 rfl) ?_
      refine r_iload (w_p1 (by decide) (Or.inr rfl) e711) ?_
      refine r_iconst 5 rfl ?_
      refine r_callV 58 rfl [.ref 1, .int x700, .int 5] [.int v730] (Nat.le_of_ble_eq_true rfl) rfl (T_X0_about_1 _ hI725 x700 5) ?_
      rintro _ _ ⟨g731, rfl, hI732, hF733, v734, rfl, hr735⟩
      refine At.sti ?_
      have hF736 := Fr.tr hF729 hF733 rfl rfl
      refine At.enter rfl ?_
      have bv738 := q_bnd v730
      have bv739 := q_bnd v734
      refine r_ics 61 rfl (fun c737 => ?_) (fun c737 => ?_)
      · have c737_ : v730.toInt > v734.toInt := en_i_gt_t c737
        refine At.enter rfl ?_
        refine q_iinc (w_p1 (by decide) (Or.inr rfl) e711) (x700.toInt + 1) rfl (by omega) (fun v740 hv740 => ?_)
        refine r_goto ?_
        have bv741 := q_bnd x699
        exact ih706 (8 - v740.toInt) _ _ ⟨x699, v740, by first | rfl | omega, hI732, hF736, (w_p1 (by decide) (Or.inr rfl) (w_p1 (by decide) (Or.inr rfl) e707)), (w_p1 (by decide) (Or.inr rfl) (w_p1 (by decide) (Or.inr rfl) e708)), (w_p1 (by decide) (Or.inr rfl) (w_p1 (by decide) (Or.inr rfl) e709)), (w_p1 (by decide) (Or.inr rfl) (w_p1 (by decide) (Or.inr rfl) e710)), (w_e1 _ _ _), by omega⟩ ⟨by omega, by omega⟩
      · have c737_ : v730.toInt ≤ v734.toInt := en_i_gt_f c737
        refine At.enter rfl ?_
        refine r_iload_n (w_p1 (by decide) (Or.inr rfl) e710) ?_
        refine r_iload (w_e1 _ _ _) ?_
        refine q_iaddO (fun v742 _ => ?_)
        refine r_istore_n _ rfl ?_
        refine Ar.fall 66 rfl ?_
        refine At.enter rfl ?_
        refine q_iinc (w_p1 (by decide) (Or.inr rfl) (w_p1 (by decide) (Or.inr rfl) e711)) (x700.toInt + 1) rfl (by omega) (fun v743 hv743 => ?_)
        refine r_goto ?_
        have bv744 := q_bnd v742
        exact ih706 (8 - v743.toInt) _ _ ⟨v742, v743, by first | rfl | omega, hI732, hF736, (w_p1 (by decide) (Or.inr rfl) (w_p1 (by decide) (Or.inr rfl) (w_p1 (by decide) (Or.inr rfl) e707))), (w_p1 (by decide) (Or.inr rfl) (w_p1 (by decide) (Or.inr rfl) (w_p1 (by decide) (Or.inr rfl) e708))), (w_p1 (by decide) (Or.inr rfl) (w_p1 (by decide) (Or.inr rfl) (w_p1 (by decide) (Or.inr rfl) e709))), (w_p1 (by decide) (Or.inr rfl) (w_e1 _ _ _)), (w_e1 _ _ _), by omega⟩ ⟨by omega, by omega⟩

def F_X2_seekAnswer_223 : List (Nat × Nat) := [(185, 3), (223, 7), (223, 8), (223, 9)]
def A_X2_seekAnswer_223 : List Nat := [225, 226]
set_option maxRecDepth 100000 in
set_option maxHeartbeats 4000000 in
theorem T_X2_seekAnswer_223 (d : Nat) {N : Nat} {g0 : List en_E} (hI0 : HI g0) (a1 : Int32) (h_a1 : 0 ≤ a1.toInt ∧ a1.toInt ≤ 11) : Ev (d + 6) 46 [.ref 223, .int a1] (g0, N) (fun w h' => ∃ g', h' = (g', N) ∧ HI g' ∧ Fr F_X2_seekAnswer_223 A_X2_seekAnswer_223 g0 g' ∧ w = none) := by
  have hF0 : Fr F_X2_seekAnswer_223 A_X2_seekAnswer_223 g0 g0 := Fr.rf
  refine Ev.mk rfl rfl ⟨Nat.le_of_ble_eq_true rfl, Or.inr (q_rc hI0.1 kx_223 rfl)⟩ ?_
  show At _ none _ _ (0, [(0, .ref 223), (1, .int a1)], [], (_, _)) _
  refine At.enter rfl ?_
  refine r_iconst 0 rfl ?_
  refine r_istore_n ([(2, .int 0), (0, .ref 223), (1, .int a1)]) rfl ?_
  refine Ar.fall 2 rfl ?_
  have z_7486 : (0 : Int32).toInt = 0 := rfl
  refine w_loopI (fun n_ l_ g_ => ∃ x7475 : Int32, n_ = 8 - x7475.toInt ∧ HI g_ ∧ Fr F_X2_seekAnswer_223 A_X2_seekAnswer_223 g0 g_ ∧ en_get 0 l_ = some (.ref 223) ∧ en_get 1 l_ = some (.int a1) ∧ en_get 2 l_ = some (.int x7475) ∧ (0 ≤ x7475.toInt ∧ x7475.toInt ≤ 8)) ?_ (8 - 0) ⟨0, by first | rfl | omega, hI0, hF0, rfl, rfl, rfl, by decide⟩
  rintro n7480 l7479 g7476 ⟨x7475, hm7487, hI7477, hF7478, e7482, e7483, e7484, r7485⟩ ih7481
  refine At.enter rfl ?_
  refine r_iload_n e7484 ?_
  refine r_aload_n e7482 ?_
  refine q_getR (Sh.ref hI7477.1 kx_223 rfl) ?_
  obtain ⟨v7488, hv7488⟩ : ∃ v, gI g0 1 4 = v := ⟨_, rfl⟩
  have rv7488 := RgF.at hI0.2.1 (p := 1) (b := 4) rfl
  rw [hv7488] at rv7488
  dsimp only at rv7488
  refine q_getI (Sh.int hI7477.1 kx_1 rfl) v7488 ((hF7478.1 1 4 (by decide)).trans hv7488) ?_
  have bv7490 := q_bnd x7475
  have bv7491 := q_bnd v7488
  refine r_ics 13 rfl (fun c7489 => ?_) (fun c7489 => ?_)
  · have c7489_ : x7475.toInt ≥ v7488.toInt := en_i_ge_t c7489
    refine At.enter rfl ?_
    refine r_aload_n e7482 ?_
    refine r_aload_n e7482 ?_
    refine r_iload_n e7483 ?_
    refine r_aload_n e7482 ?_
    refine q_getR (Sh.ref hI7477.1 kx_223 rfl) ?_
    refine r_iload_n e7483 ?_
    obtain ⟨v7492, hv7492⟩ : ∃ v, eA g0 224 a1.toInt = v := ⟨_, rfl⟩
    refine q_iald (Sh.arr hI7477.1 ka_224) a1.toInt rfl (by omega) v7492 ((eA_c (hF7478.2.1 224 (by decide))).trans hv7492) ?_
    refine r_callV 43 rfl [.ref 223, .int a1, .int v7492] [.ref 223] (Nat.le_of_ble_eq_true rfl) rfl (T_X2_incomeBy_223 _ hI7477 a1 v7492) ?_
    rintro _ _ ⟨g7493, rfl, hI7494, hF7495, v7496, rfl, hr7497⟩
    refine At.sti ?_
    have hF7498 := Fr.tr hF7478 hF7495 rfl rfl
    refine At.enter rfl ?_
    refine q_putI (Sh.int hI7494.1 kx_223 rfl) rfl ?_
    have hI7499 := HI.wI0 hI7494 kx_223 rfl (p := 223) (b := 9) (v := v7496) rfl
    have hF7500 := Fr.wI (p := 223) (b := 9) (v := v7496) hF7498 rfl
    refine r_aload_n e7482 ?_
    refine r_iconst 0 rfl ?_
    refine q_putI (Sh.int hI7499.1 kx_223 rfl) rfl ?_
    have hI7501 := HI.wI0 hI7499 kx_223 rfl (p := 223) (b := 7) (v := 0) rfl
    have hF7502 := Fr.wI (p := 223) (b := 7) (v := 0) hF7500 rfl
    refine r_aload_n e7482 ?_
    refine r_iconst (-1) rfl ?_
    refine q_putI (Sh.int hI7501.1 kx_223 rfl) rfl ?_
    have hI7503 := HI.wI0 hI7501 kx_223 rfl (p := 223) (b := 8) (v := (-1)) rfl
    have hF7504 := Fr.wI (p := 223) (b := 8) (v := (-1)) hF7502 rfl
    refine r_iconst 0 rfl ?_
    refine r_istore_n _ rfl ?_
    refine Ar.fall 58 rfl ?_
    have z_7782 : (0 : Int32).toInt = 0 := rfl
    refine w_loopI (fun n_ l_ g_ => ∃ x7771 : Int32, n_ = 100 - x7771.toInt ∧ HI g_ ∧ Fr F_X2_seekAnswer_223 A_X2_seekAnswer_223 g0 g_ ∧ en_get 0 l_ = some (.ref 223) ∧ en_get 1 l_ = some (.int a1) ∧ en_get 2 l_ = some (.int x7771) ∧ (0 ≤ x7771.toInt ∧ x7771.toInt ≤ 100)) ?_ (100 - 0) ⟨0, by first | rfl | omega, hI7503, hF7504, (w_p1 (by decide) (Or.inr rfl) e7482), (w_p1 (by decide) (Or.inr rfl) e7483), (w_e1 _ _ _), by decide⟩
    rintro n7776 l7775 g7772 ⟨x7771, hm7783, hI7773, hF7774, e7778, e7779, e7780, r7781⟩ ih7777
    refine At.enter rfl ?_
    refine r_iload_n e7780 ?_
    refine r_bipush 100 rfl ?_
    refine r_ics 64 rfl (fun c7784 => ?_) (fun c7784 => ?_)
    · have c7784_ : x7771.toInt ≥ 100 := en_i_ge_t c7784
      refine At.enter rfl ?_
      refine r_vret ?_
      exact ⟨_, rfl, hI7773, hF7774, rfl⟩
    · have c7784_ : x7771.toInt < 100 := en_i_ge_f c7784
      refine At.enter rfl ?_
      refine r_aload_n e7778 ?_
      refine r_iload_n e7779 ?_
      refine r_iload_n e7780 ?_
      refine r_callV 70 rfl [.ref 223, .int a1, .int x7771] [] (Nat.le_of_ble_eq_true rfl) rfl (T_X2_incomeBy_223 _ hI7773 a1 x7771) ?_
      rintro _ _ ⟨g7785, rfl, hI7786, hF7787, v7788, rfl, hr7789⟩
      refine At.sti ?_
      have hF7790 := Fr.tr hF7774 hF7787 rfl rfl
      refine At.enter rfl ?_
      refine r_istore_n _ rfl ?_
      refine r_iload_n (w_e1 _ _ _) ?_
      refine r_aload_n (w_p1 (by decide) (Or.inr rfl) e7778) ?_
      obtain ⟨v7791, hv7791⟩ : ∃ v, gI g7772 223 8 = v := ⟨_, rfl⟩
      refine q_getI (Sh.int hI7786.1 kx_223 rfl) v7791 ((hF7787.1 223 8 (by decide)).trans hv7791) ?_
      have bv7793 := q_bnd v7788
      have bv7794 := q_bnd v7791
      refine r_ics 79 rfl (fun c7792 => ?_) (fun c7792 => ?_)
      · have c7792_ : v7788.toInt ≤ v7791.toInt := en_i_le_t c7792
        refine At.enter rfl ?_
        refine q_iinc (w_p1 (by decide) (Or.inr rfl) e7780) (x7771.toInt + 1) rfl (by omega) (fun v7795 hv7795 => ?_)
        refine r_goto ?_
        exact ih7777 (100 - v7795.toInt) _ _ ⟨v7795, by first | rfl | omega, hI7786, hF7790, (w_p1 (by decide) (Or.inr rfl) (w_p1 (by decide) (Or.inr rfl) e7778)), (w_p1 (by decide) (Or.inr rfl) (w_p1 (by decide) (Or.inr rfl) e7779)), (w_e1 _ _ _), by omega⟩ ⟨by omega, by omega⟩
      · have c7792_ : v7788.toInt > v7791.toInt := en_i_le_f c7792
        refine At.enter rfl ?_
        refine r_aload_n (w_p1 (by decide) (Or.inr rfl) e7778) ?_
        refine r_iload_n (w_e1 _ _ _) ?_
        refine q_putI (Sh.int hI7786.1 kx_223 rfl) rfl ?_
        have hI7796 := HI.wI0 hI7786 kx_223 rfl (p := 223) (b := 8) (v := v7788) rfl
        have hF7797 := Fr.wI (p := 223) (b := 8) (v := v7788) hF7790 rfl
        refine r_aload_n (w_p1 (by decide) (Or.inr rfl) e7778) ?_
        refine r_iload_n (w_p1 (by decide) (Or.inr rfl) e7780) ?_
        refine q_putI (Sh.int hI7796.1 kx_223 rfl) rfl ?_
        have hI7798 := HI.wI0 hI7796 kx_223 rfl (p := 223) (b := 7) (v := x7771) rfl
        have hF7799 := Fr.wI (p := 223) (b := 7) (v := x7771) hF7797 rfl
        refine Ar.fall 89 rfl ?_
        refine At.enter rfl ?_
        refine q_iinc (w_p1 (by decide) (Or.inr rfl) e7780) (x7771.toInt + 1) rfl (by omega) (fun v7800 hv7800 => ?_)
        refine r_goto ?_
        exact ih7777 (100 - v7800.toInt) _ _ ⟨v7800, by first | rfl | omega, hI7798, hF7799, (w_p1 (by decide) (Or.inr rfl) (w_p1 (by decide) (Or.inr rfl) e7778)), (w_p1 (by decide) (Or.inr rfl) (w_p1 (by decide) (Or.inr rfl) e7779)), (w_e1 _ _ _), by omega⟩ ⟨by omega, by omega⟩
  · have c7489_ : x7475.toInt < v7488.toInt := en_i_ge_f c7489
    refine At.enter rfl ?_
    refine r_aload_n e7482 ?_
    refine q_getR (Sh.ref hI7477.1 kx_223 rfl) ?_
    refine r_iload_n e7484 ?_
    refine r_aload_n e7482 ?_
    refine r_iload_n e7484 ?_
    refine r_iload_n e7483 ?_
    refine r_callV 24 rfl [.ref 223, .int x7475, .int a1] [.int x7475, .ref 225] (Nat.le_of_ble_eq_true rfl) rfl (T_X2_costBeside_223 _ hI7477 x7475 a1) ?_
    rintro _ _ ⟨g7801, rfl, hI7802, hF7803, v7804, rfl, hr7805⟩
    refine At.sti ?_
    have hF7806 := Fr.tr hF7478 hF7803 rfl rfl
    refine At.enter rfl ?_
    refine q_iast (Sh.arr hI7802.1 ka_225) (x7475.toInt) rfl (by omega) ?_
    have hI7807 := HI.wA0 hI7802 ka_225 (p := 225) rfl rfl (x7475.toInt) (v7804)
    have hF7808 := Fr.wA (p := 225) (j := x7475.toInt) (v := v7804) hF7806 rfl
    refine q_iinc e7484 (x7475.toInt + 1) rfl (by omega) (fun v7809 hv7809 => ?_)
    refine r_goto ?_
    exact ih7481 (8 - v7809.toInt) _ _ ⟨v7809, by first | rfl | omega, hI7807, hF7808, (w_p1 (by decide) (Or.inr rfl) e7482), (w_p1 (by decide) (Or.inr rfl) e7483), (w_e1 _ _ _), by omega⟩ ⟨by omega, by omega⟩

def F_X2_begin_223 : List (Nat × Nat) := [(223, 5), (223, 6)]
def A_X2_begin_223 : List Nat := [224, 226]
set_option maxRecDepth 100000 in
set_option maxHeartbeats 4000000 in
theorem T_X2_begin_223 (d : Nat) {N : Nat} {g0 : List en_E} (hI0 : HI g0) : Ev (d + 3) 45 [.ref 223] (g0, N) (fun w h' => ∃ g', h' = (g', N) ∧ HI g' ∧ Fr F_X2_begin_223 A_X2_begin_223 g0 g' ∧ w = none) := by
  have hF0 : Fr F_X2_begin_223 A_X2_begin_223 g0 g0 := Fr.rf
  refine Ev.mk rfl rfl ⟨Nat.le_of_ble_eq_true rfl, Or.inr (q_rc hI0.1 kx_223 rfl)⟩ ?_
  show At _ none _ _ (0, [(0, .ref 223)], [], (_, _)) _
  refine At.enter rfl ?_
  refine r_aload_n rfl ?_
  refine q_getR (Sh.ref hI0.1 kx_223 rfl) ?_
  refine q_getR (Sh.ref hI0.1 kx_1 rfl) ?_
  refine r_iconst 0 rfl ?_
  refine r_aload_n rfl ?_
  refine q_getR (Sh.ref hI0.1 kx_223 rfl) ?_
  refine r_iconst 0 rfl ?_
  refine r_bipush 12 rfl ?_
  have zv315 : (0 : Int32).toInt = 0 := rfl
  have zv316 : (0 : Int32).toInt = 0 := rfl
  have zv317 : (12 : Int32).toInt = 12 := rfl
  refine q_cpy rfl (Nat.le_of_ble_eq_true rfl) (Sh.arr hI0.1 ka_4) (Sh.arr hI0.1 ka_224) ⟨by omega, by omega, by omega, by omega, by omega⟩ ?_
  have hI318 := HI.cpy0 hI0 ka_4 ka_224 rfl rfl ((0 : Int32).toInt.toNat) ((0 : Int32).toInt.toNat) ((12 : Int32).toInt.toNat) (by omega) (by omega)
  have hF319 := Fr.cpy (p0 := 4) (p1 := 224) hF0 rfl ((0 : Int32).toInt.toNat) ((0 : Int32).toInt.toNat) ((12 : Int32).toInt.toNat)
  refine r_aload_n rfl ?_
  obtain ⟨v320, hv320⟩ : ∃ v, gI g0 223 5 = v := ⟨_, rfl⟩
  refine q_getI (Sh.int hI318.1 kx_223 rfl) v320 ((gI_sW).trans hv320) ?_
  refine r_ifs 25 rfl (fun c321 => ?_) (fun c321 => ?_)
  · have c321_ : v320.toInt ≠ 0 := en_k_ne_t c321
    refine At.enter rfl ?_
    refine r_vret ?_
    exact ⟨_, rfl, hI318, hF319, rfl⟩
  · have c321_ : v320.toInt = 0 := en_k_ne_f c321
    refine At.enter rfl ?_
    refine r_aload_n rfl ?_
    refine r_iconst 1 rfl ?_
    refine q_putI (Sh.int hI318.1 kx_223 rfl) rfl ?_
    have hI322 := HI.wI0 hI318 kx_223 rfl (p := 223) (b := 5) (v := 1) rfl
    have hF323 := Fr.wI (p := 223) (b := 5) (v := 1) hF319 rfl
    refine r_aload_n rfl ?_
    refine r_aload_n rfl ?_
    refine q_getR (Sh.ref hI322.1 kx_223 rfl) ?_
    refine q_inlV 38 rfl [.ref 1] [.ref 223] (Nat.le_of_ble_eq_true rfl) rfl ?_
    refine Ev.mk rfl rfl ⟨Nat.le_of_ble_eq_true rfl, Or.inr (q_rc hI322.1 kx_1 rfl)⟩ ?_
    show At _ none _ _ (0, [(0, .ref 1)], [], (_, _)) _
    refine At.enter rfl ?_
    refine r_aload_n rfl ?_
    refine r_aload_n rfl ?_
    obtain ⟨v324, hv324⟩ : ∃ v, gI g0 1 9 = v := ⟨_, rfl⟩
    refine q_getI (Sh.int hI322.1 kx_1 rfl) v324 (((gI_sI_ne (by decide)).trans (gI_sW)).trans hv324) ?_
    refine r_callV 8 rfl [.ref 1, .int v324] [] (Nat.le_of_ble_eq_true rfl) rfl (T_X0_lawAt_1 _ hI322 v324) ?_
    rintro _ _ ⟨g325, rfl, hI326, hF327, v328, rfl, hr329⟩
    refine At.str ?_
    have hF330 := Fr.tr hF323 hF327 rfl rfl
    refine At.enter rfl ?_
    refine q_aret ?_
    refine At.enter rfl ?_
    refine r_iconst 1 rfl ?_
    refine r_callV 42 rfl [.ref (v328), .int 1] [.ref 223] (Nat.le_of_ble_eq_true rfl) rfl (T_X4_speaksOf_law _ hI326 (v328) hr329 1) ?_
    rintro _ _ ⟨g331, rfl, hI332, hF333, v334, rfl, hr335⟩
    refine At.sti ?_
    have hF336 := Fr.tr hF330 hF333 rfl rfl
    refine At.enter rfl ?_
    refine q_putI (Sh.int hI332.1 kx_223 rfl) (q_fitb (by omega)) ?_
    have hI337 := HI.wI0 hI332 kx_223 rfl (p := 223) (b := 6) (v := v334) rfl
    have hF338 := Fr.wI (p := 223) (b := 6) (v := v334) hF336 rfl
    refine r_aload_n rfl ?_
    refine q_getI (Sh.int hI337.1 kx_223 rfl) v334 (gI_sI_eq hI332.1 kx_223 rfl _) ?_
    refine r_ifs 52 rfl (fun c339 => ?_) (fun c339 => ?_)
    · have c339_ : v334.toInt = 0 := en_k_eq_t c339
      refine At.enter rfl ?_
      refine r_vret ?_
      exact ⟨_, rfl, hI337, hF338, rfl⟩
    · have c339_ : v334.toInt ≠ 0 := en_k_eq_f c339
      refine At.enter rfl ?_
      refine r_aload_n rfl ?_
      refine q_getR (Sh.ref hI337.1 kx_223 rfl) ?_
      refine r_iconst (-1) rfl ?_
      refine q_inlS 60 rfl [.ref 226, .int (-1)] [] (Nat.le_of_ble_eq_true rfl) rfl ?_
      refine Ev.mk rfl rfl ⟨Nat.le_of_ble_eq_true rfl, Or.inl rfl⟩ ?_
      show At _ none _ _ (0, [(0, .ref 226), (1, .int (-1))], [], (_, _)) _
      refine At.enter rfl ?_
      refine r_iconst 0 rfl ?_
      refine r_istore_n ([(2, .int 0), (0, .ref 226), (1, .int (-1))]) rfl ?_
      refine r_aload_n rfl ?_
      refine r_alen (Sh.arr hI337.1 ka_226).1 (by decide) 9600 (by unfold en_sz; dsimp only; rw [(Sh.arr hI337.1 ka_226).2]; rfl) ?_
      refine r_istore_n ([(3, .int 9600), (2, .int 0), (0, .ref 226), (1, .int (-1))]) rfl ?_
      refine Ar.fall 5 rfl ?_
      have z_466 : (0 : Int32).toInt = 0 := rfl
      refine w_loopI (fun n_ l_ g_ => ∃ x454 : Int32, n_ = 9600 - x454.toInt ∧ HI g_ ∧ Fr F_X2_begin_223 A_X2_begin_223 g0 g_ ∧ en_get 0 l_ = some (.ref 226) ∧ en_get 1 l_ = some (.int (-1)) ∧ en_get 2 l_ = some (.int x454) ∧ en_get 3 l_ = some (.int 9600) ∧ (0 ≤ x454.toInt ∧ x454.toInt ≤ 9600)) ?_ (9600 - 0) ⟨0, by first | rfl | omega, hI337, hF338, rfl, rfl, rfl, rfl, by decide⟩
      rintro n459 l458 g455 ⟨x454, hm467, hI456, hF457, e461, e462, e463, e464, r465⟩ ih460
      refine At.enter rfl ?_
      refine r_iload_n e463 ?_
      refine r_iload_n e464 ?_
      refine r_ics 10 rfl (fun c468 => ?_) (fun c468 => ?_)
      · have c468_ : x454.toInt ≥ 9600 := en_i_ge_t c468
        refine At.enter rfl ?_
        refine q_vret ?_
        refine At.enter rfl ?_
        refine r_vret ?_
        exact ⟨_, rfl, hI456, hF457, rfl⟩
      · have c468_ : x454.toInt < 9600 := en_i_ge_f c468
        refine At.enter rfl ?_
        refine r_aload_n e461 ?_
        refine r_iload_n e463 ?_
        refine r_iload_n e462 ?_
        refine q_iast (Sh.arr hI456.1 ka_226) (x454.toInt) rfl (by omega) ?_
        have hI469 := HI.wA0 hI456 ka_226 (p := 226) rfl rfl (x454.toInt) ((-1))
        have hF470 := Fr.wA (p := 226) (j := x454.toInt) (v := (-1)) hF457 rfl
        refine q_iinc e463 (x454.toInt + 1) rfl (by omega) (fun v471 hv471 => ?_)
        refine r_goto ?_
        exact ih460 (9600 - v471.toInt) _ _ ⟨v471, by first | rfl | omega, hI469, hF470, (w_p1 (by decide) (Or.inr rfl) e461), (w_p1 (by decide) (Or.inr rfl) e462), (w_e1 _ _ _), (w_p1 (by decide) (Or.inr rfl) e464), by omega⟩ ⟨by omega, by omega⟩

def F_X2_settle_223 : List (Nat × Nat) := [(185, 3), (223, 5), (223, 6), (223, 7), (223, 8), (223, 9), (223, 10), (223, 11)]
def A_X2_settle_223 : List Nat := [224, 225, 226, 227]
set_option maxRecDepth 100000 in
set_option maxHeartbeats 4000000 in
theorem T_X2_settle_223 (d : Nat) {N : Nat} {g0 : List en_E} (hI0 : HI g0) : Ev (d + 7) 43 [.ref 223] (g0, N) (fun w h' => ∃ g', h' = (g', N) ∧ HI g' ∧ Fr F_X2_settle_223 A_X2_settle_223 g0 g' ∧ w = none) := by
  have hF0 : Fr F_X2_settle_223 A_X2_settle_223 g0 g0 := Fr.rf
  refine Ev.mk rfl rfl ⟨Nat.le_of_ble_eq_true rfl, Or.inr (q_rc hI0.1 kx_223 rfl)⟩ ?_
  show At _ none _ _ (0, [(0, .ref 223)], [], (_, _)) _
  refine At.enter rfl ?_
  refine r_aload_n rfl ?_
  obtain ⟨v6339, hv6339⟩ : ∃ v, gI g0 223 10 = v := ⟨_, rfl⟩
  refine q_getI (Sh.int hI0.1 kx_223 rfl) v6339 hv6339 ?_
  refine r_ifs 7 rfl (fun c6340 => ?_) (fun c6340 => ?_)
  · have c6340_ : v6339.toInt = 0 := en_k_eq_t c6340
    refine At.enter rfl ?_
    refine r_aload_n rfl ?_
    refine r_callV 12 rfl [.ref 223] [] (Nat.le_of_ble_eq_true rfl) rfl (T_X2_begin_223 _ hI0) ?_
    rintro _ _ ⟨g6341, rfl, hI6342, hF6343, rfl⟩
    refine At.stn ?_
    have hF6346 := Fr.tr hF0 hF6343 rfl rfl
    refine At.enter rfl ?_
    refine r_iconst 1 rfl ?_
    refine r_istore_n ([(1, .int 1), (0, .ref 223)]) rfl ?_
    refine r_aload_n rfl ?_
    refine r_iconst 0 rfl ?_
    refine q_putI (Sh.int hI6342.1 kx_223 rfl) rfl ?_
    have hI6347 := HI.wI0 hI6342 kx_223 rfl (p := 223) (b := 11) (v := 0) rfl
    have hF6348 := Fr.wI (p := 223) (b := 11) (v := 0) hF6346 rfl
    refine Ar.fall 19 rfl ?_
    have z_9236 : (1 : Int32).toInt = 1 := rfl
    have z_9237 : (0 : Int32).toInt = 0 := rfl
    refine w_loopI (fun n_ l_ g_ => ∃ x9223 : Int32, ∃ x9224 : Int32, n_ = 50 - x9224.toInt ∧ HI g_ ∧ Fr F_X2_settle_223 A_X2_settle_223 g0 g_ ∧ gI g_ 223 11 = x9224 ∧ en_get 0 l_ = some (.ref 223) ∧ en_get 1 l_ = some (.int x9223) ∧ (0 ≤ x9223.toInt ∧ x9223.toInt ≤ 1) ∧ (0 ≤ x9224.toInt ∧ x9224.toInt ≤ 50)) ?_ (50 - 0) ⟨1, 0, by first | rfl | omega, hI6347, hF6348, (gI_sI_eq hI6342.1 kx_223 rfl _), rfl, rfl, by decide, by decide⟩
    rintro n9229 l9228 g9225 ⟨x9223, x9224, hm9238, hI9226, hF9227, e9231, e9232, e9233, r9234, r9235⟩ ih9230
    refine At.enter rfl ?_
    refine r_iload_n e9233 ?_
    refine r_ifs 23 rfl (fun c9239 => ?_) (fun c9239 => ?_)
    · have c9239_ : x9223.toInt = 0 := en_k_eq_t c9239
      refine At.enter rfl ?_
      refine r_iload_n e9233 ?_
      refine r_ifs 98 rfl (fun c9240 => ?_) (fun c9240 => ?_)
      · have c9240_ : x9223.toInt = 0 := en_k_eq_t c9240
        refine At.enter rfl ?_
        refine r_aload_n e9232 ?_
        refine q_getR (Sh.ref hI9226.1 kx_223 rfl) ?_
        refine r_iconst 0 rfl ?_
        refine r_aload_n e9232 ?_
        refine q_getR (Sh.ref hI9226.1 kx_223 rfl) ?_
        refine r_iconst 0 rfl ?_
        refine r_bipush 12 rfl ?_
        have zv9241 : (0 : Int32).toInt = 0 := rfl
        have zv9242 : (0 : Int32).toInt = 0 := rfl
        have zv9243 : (12 : Int32).toInt = 12 := rfl
        refine q_cpy rfl (Nat.le_of_ble_eq_true rfl) (Sh.arr hI9226.1 ka_224) (Sh.arr hI9226.1 ka_227) ⟨by omega, by omega, by omega, by omega, by omega⟩ ?_
        have hI9244 := HI.cpy0 hI9226 ka_224 ka_227 rfl rfl ((0 : Int32).toInt.toNat) ((0 : Int32).toInt.toNat) ((12 : Int32).toInt.toNat) (by omega) (by omega)
        have hF9245 := Fr.cpy (p0 := 224) (p1 := 227) hF9227 rfl ((0 : Int32).toInt.toNat) ((0 : Int32).toInt.toNat) ((12 : Int32).toInt.toNat)
        refine r_aload_n e9232 ?_
        refine r_iconst 1 rfl ?_
        refine q_putI (Sh.int hI9244.1 kx_223 rfl) rfl ?_
        have hI9246 := HI.wI0 hI9244 kx_223 rfl (p := 223) (b := 10) (v := 1) rfl
        have hF9247 := Fr.wI (p := 223) (b := 10) (v := 1) hF9245 rfl
        refine r_vret ?_
        exact ⟨_, rfl, hI9246, hF9247, rfl⟩
      · have c9240_ : x9223.toInt ≠ 0 := en_k_eq_f c9240
        exfalso; omega
    · have c9239_ : x9223.toInt ≠ 0 := en_k_eq_f c9239
      refine At.enter rfl ?_
      refine r_aload_n e9232 ?_
      refine q_getI (Sh.int hI9226.1 kx_223 rfl) x9224 e9231 ?_
      refine r_bipush 50 rfl ?_
      refine r_ics 32 rfl (fun c9248 => ?_) (fun c9248 => ?_)
      · have c9248_ : x9224.toInt ≥ 50 := en_i_ge_t c9248
        refine At.enter rfl ?_
        refine r_iload_n e9233 ?_
        refine r_ifs 98 rfl (fun c9249 => ?_) (fun c9249 => ?_)
        · have c9249_ : x9223.toInt = 0 := en_k_eq_t c9249
          exfalso; omega
        · have c9249_ : x9223.toInt ≠ 0 := en_k_eq_f c9249
          refine At.enter rfl ?_
          refine r_aload_n e9232 ?_
          refine r_dup rfl ?_
          refine q_getI (Sh.int hI9226.1 kx_223 rfl) x9224 e9231 ?_
          refine r_iconst 1 rfl ?_
          refine q_iadd (x9224.toInt + 1) rfl (by omega) (fun v9250 hv9250 => ?_)
          refine q_putI (Sh.int hI9226.1 kx_223 rfl) rfl ?_
          have hI9251 := HI.wI0 hI9226 kx_223 rfl (p := 223) (b := 11) (v := v9250) rfl
          have hF9252 := Fr.wI (p := 223) (b := 11) (v := v9250) hF9227 rfl
          refine Ar.fall 108 rfl ?_
          refine At.enter rfl ?_
          refine r_aload_n e9232 ?_
          refine q_getR (Sh.ref hI9251.1 kx_223 rfl) ?_
          refine r_iconst 0 rfl ?_
          refine r_aload_n e9232 ?_
          refine q_getR (Sh.ref hI9251.1 kx_223 rfl) ?_
          refine r_iconst 0 rfl ?_
          refine r_bipush 12 rfl ?_
          have zv9253 : (0 : Int32).toInt = 0 := rfl
          have zv9254 : (0 : Int32).toInt = 0 := rfl
          have zv9255 : (12 : Int32).toInt = 12 := rfl
          refine q_cpy rfl (Nat.le_of_ble_eq_true rfl) (Sh.arr hI9251.1 ka_224) (Sh.arr hI9251.1 ka_227) ⟨by omega, by omega, by omega, by omega, by omega⟩ ?_
          have hI9256 := HI.cpy0 hI9251 ka_224 ka_227 rfl rfl ((0 : Int32).toInt.toNat) ((0 : Int32).toInt.toNat) ((12 : Int32).toInt.toNat) (by omega) (by omega)
          have hF9257 := Fr.cpy (p0 := 224) (p1 := 227) hF9252 rfl ((0 : Int32).toInt.toNat) ((0 : Int32).toInt.toNat) ((12 : Int32).toInt.toNat)
          refine r_aload_n e9232 ?_
          refine r_iconst 1 rfl ?_
          refine q_putI (Sh.int hI9256.1 kx_223 rfl) rfl ?_
          have hI9258 := HI.wI0 hI9256 kx_223 rfl (p := 223) (b := 10) (v := 1) rfl
          have hF9259 := Fr.wI (p := 223) (b := 10) (v := 1) hF9257 rfl
          refine r_vret ?_
          exact ⟨_, rfl, hI9258, hF9259, rfl⟩
      · have c9248_ : x9224.toInt < 50 := en_i_ge_f c9248
        refine At.enter rfl ?_
        refine r_aload_n e9232 ?_
        refine r_dup rfl ?_
        refine q_getI (Sh.int hI9226.1 kx_223 rfl) x9224 e9231 ?_
        refine r_iconst 1 rfl ?_
        refine q_iadd (x9224.toInt + 1) rfl (by omega) (fun v9260 hv9260 => ?_)
        refine q_putI (Sh.int hI9226.1 kx_223 rfl) rfl ?_
        have hI9261 := HI.wI0 hI9226 kx_223 rfl (p := 223) (b := 11) (v := v9260) rfl
        have hF9262 := Fr.wI (p := 223) (b := 11) (v := v9260) hF9227 rfl
        refine r_iconst 0 rfl ?_
        refine r_istore_n _ rfl ?_
        refine r_iconst 0 rfl ?_
        refine r_istore_n _ rfl ?_
        refine Ar.fall 46 rfl ?_
        have z_9484 : (0 : Int32).toInt = 0 := rfl
        have z_9485 : (0 : Int32).toInt = 0 := rfl
        refine w_loopI (fun n_ l_ g_ => ∃ x9470 : Int32, ∃ x9471 : Int32, n_ = 12 - x9471.toInt ∧ HI g_ ∧ Fr F_X2_settle_223 A_X2_settle_223 g0 g_ ∧ gI g_ 223 11 = v9260 ∧ en_get 0 l_ = some (.ref 223) ∧ en_get 1 l_ = some (.int x9470) ∧ en_get 2 l_ = some (.int x9471) ∧ (0 ≤ x9470.toInt ∧ x9470.toInt ≤ 1) ∧ (0 ≤ x9471.toInt ∧ x9471.toInt ≤ 12)) ?_ (12 - 0) ⟨0, 0, by first | rfl | omega, hI9261, hF9262, (gI_sI_eq hI9226.1 kx_223 rfl _), (w_p1 (by decide) (Or.inr rfl) (w_p1 (by decide) (Or.inr rfl) e9232)), (w_p1 (by decide) (Or.inr rfl) (w_e1 _ _ _)), (w_e1 _ _ _), by decide, by decide⟩
        rintro n9476 l9475 g9472 ⟨x9470, x9471, hm9486, hI9473, hF9474, e9478, e9479, e9480, e9481, r9482, r9483⟩ ih9477
        have tv9487 := congrArg Int32.toInt e9478
        refine At.enter rfl ?_
        refine r_iload_n e9481 ?_
        refine r_aload_n e9479 ?_
        refine q_getR (Sh.ref hI9473.1 kx_223 rfl) ?_
        obtain ⟨v9488, hv9488⟩ : ∃ v, gI g0 1 0 = v := ⟨_, rfl⟩
        have rv9488 := RgF.at hI0.2.1 (p := 1) (b := 0) rfl
        rw [hv9488] at rv9488
        dsimp only at rv9488
        refine q_getI (Sh.int hI9473.1 kx_1 rfl) v9488 ((hF9474.1 1 0 (by decide)).trans hv9488) ?_
        have bv9490 := q_bnd x9471
        have bv9491 := q_bnd v9488
        refine r_ics 57 rfl (fun c9489 => ?_) (fun c9489 => ?_)
        · have c9489_ : x9471.toInt ≥ v9488.toInt := en_i_ge_t c9489
          refine At.enter rfl ?_
          refine r_goto ?_
          exact ih9230 (50 - v9260.toInt) _ _ ⟨x9470, v9260, by first | rfl | omega, hI9473, hF9474, e9478, e9479, e9480, by omega, by omega⟩ ⟨by omega, by omega⟩
        · have c9489_ : x9471.toInt < v9488.toInt := en_i_ge_f c9489
          refine At.enter rfl ?_
          refine r_aload_n e9479 ?_
          refine r_iload_n e9481 ?_
          refine r_callV 62 rfl [.ref 223, .int x9471] [] (Nat.le_of_ble_eq_true rfl) rfl (T_X2_seekAnswer_223 _ hI9473 x9471 (by omega)) ?_
          rintro _ _ ⟨g9492, rfl, hI9493, hF9494, rfl⟩
          refine At.stn ?_
          have hF9497 := Fr.tr hF9474 hF9494 rfl rfl
          refine At.enter rfl ?_
          refine r_aload_n e9479 ?_
          obtain ⟨v9498, hv9498⟩ : ∃ v, gI g9492 223 8 = v := ⟨_, rfl⟩
          refine q_getI (Sh.int hI9493.1 kx_223 rfl) v9498 hv9498 ?_
          refine r_aload_n e9479 ?_
          obtain ⟨v9499, hv9499⟩ : ∃ v, gI g9492 223 9 = v := ⟨_, rfl⟩
          refine q_getI (Sh.int hI9493.1 kx_223 rfl) v9499 hv9499 ?_
          have bv9501 := q_bnd v9498
          have bv9502 := q_bnd v9499
          refine r_ics 73 rfl (fun c9500 => ?_) (fun c9500 => ?_)
          · have c9500_ : v9498.toInt ≤ v9499.toInt := en_i_le_t c9500
            refine At.enter rfl ?_
            refine q_iinc e9481 (x9471.toInt + 1) rfl (by omega) (fun v9503 hv9503 => ?_)
            refine r_goto ?_
            exact ih9477 (12 - v9503.toInt) _ _ ⟨x9470, v9503, by first | rfl | omega, hI9493, hF9497, ((hF9494.1 223 11 (by decide)).trans e9478), (w_p1 (by decide) (Or.inr rfl) e9479), (w_p1 (by decide) (Or.inr rfl) e9480), (w_e1 _ _ _), by omega, by omega⟩ ⟨by omega, by omega⟩
          · have c9500_ : v9498.toInt > v9499.toInt := en_i_le_f c9500
            refine At.enter rfl ?_
            refine r_aload_n e9479 ?_
            refine q_getR (Sh.ref hI9493.1 kx_223 rfl) ?_
            refine r_iload_n e9481 ?_
            refine r_aload_n e9479 ?_
            obtain ⟨v9504, hv9504⟩ : ∃ v, gI g9492 223 7 = v := ⟨_, rfl⟩
            refine q_getI (Sh.int hI9493.1 kx_223 rfl) v9504 hv9504 ?_
            refine q_iast (Sh.arr hI9493.1 ka_224) (x9471.toInt) rfl (by omega) ?_
            have hI9505 := HI.wA0 hI9493 ka_224 (p := 224) rfl rfl (x9471.toInt) (v9504)
            have hF9506 := Fr.wA (p := 224) (j := x9471.toInt) (v := v9504) hF9497 rfl
            refine r_iconst 1 rfl ?_
            refine r_istore_n _ rfl ?_
            refine Ar.fall 85 rfl ?_
            refine At.enter rfl ?_
            refine q_iinc (w_p1 (by decide) (Or.inr rfl) e9481) (x9471.toInt + 1) rfl (by omega) (fun v9507 hv9507 => ?_)
            refine r_goto ?_
            exact ih9477 (12 - v9507.toInt) _ _ ⟨1, v9507, by first | rfl | omega, hI9505, hF9506, (((gI_sW).trans (hF9494.1 223 11 (by decide))).trans e9478), (w_p1 (by decide) (Or.inr rfl) (w_p1 (by decide) (Or.inr rfl) e9479)), (w_p1 (by decide) (Or.inr rfl) (w_e1 _ _ _)), (w_e1 _ _ _), by decide, by omega⟩ ⟨by omega, by omega⟩
  · have c6340_ : v6339.toInt ≠ 0 := en_k_eq_f c6340
    refine At.enter rfl ?_
    refine r_vret ?_
    exact ⟨_, rfl, hI0, hF0, rfl⟩

def F_X2_firstRestless_223 : List (Nat × Nat) := [(185, 3), (223, 5), (223, 6), (223, 7), (223, 8), (223, 9)]
def A_X2_firstRestless_223 : List Nat := [224, 225, 226]
set_option maxRecDepth 100000 in
set_option maxHeartbeats 4000000 in
theorem T_X2_firstRestless_223 (d : Nat) {N : Nat} {g0 : List en_E} (hI0 : HI g0) : Ev (d + 7) 42 [.ref 223] (g0, N) (fun w h' => ∃ g', h' = (g', N) ∧ HI g' ∧ Fr F_X2_firstRestless_223 A_X2_firstRestless_223 g0 g' ∧ ∃ r : Int32, w = some (.int r) ∧ ((-1) ≤ r.toInt ∧ r.toInt ≤ 11)) := by
  have hF0 : Fr F_X2_firstRestless_223 A_X2_firstRestless_223 g0 g0 := Fr.rf
  refine Ev.mk rfl rfl ⟨Nat.le_of_ble_eq_true rfl, Or.inr (q_rc hI0.1 kx_223 rfl)⟩ ?_
  show At _ none _ _ (0, [(0, .ref 223)], [], (_, _)) _
  refine At.enter rfl ?_
  refine r_aload_n rfl ?_
  refine r_callV 4 rfl [.ref 223] [] (Nat.le_of_ble_eq_true rfl) rfl (T_X2_begin_223 _ hI0) ?_
  rintro _ _ ⟨g393, rfl, hI394, hF395, rfl⟩
  refine At.stn ?_
  have hF398 := Fr.tr hF0 hF395 rfl rfl
  refine At.enter rfl ?_
  refine r_iconst 0 rfl ?_
  refine r_istore_n ([(1, .int 0), (0, .ref 223)]) rfl ?_
  refine Ar.fall 6 rfl ?_
  have z_571 : (0 : Int32).toInt = 0 := rfl
  refine w_loopI (fun n_ l_ g_ => ∃ x561 : Int32, n_ = 12 - x561.toInt ∧ HI g_ ∧ Fr F_X2_firstRestless_223 A_X2_firstRestless_223 g0 g_ ∧ en_get 0 l_ = some (.ref 223) ∧ en_get 1 l_ = some (.int x561) ∧ (0 ≤ x561.toInt ∧ x561.toInt ≤ 12)) ?_ (12 - 0) ⟨0, by first | rfl | omega, hI394, hF398, rfl, rfl, by decide⟩
  rintro n566 l565 g562 ⟨x561, hm572, hI563, hF564, e568, e569, r570⟩ ih567
  refine At.enter rfl ?_
  refine r_iload_n e569 ?_
  refine r_aload_n e568 ?_
  refine q_getR (Sh.ref hI563.1 kx_223 rfl) ?_
  obtain ⟨v573, hv573⟩ : ∃ v, gI g0 1 0 = v := ⟨_, rfl⟩
  have rv573 := RgF.at hI0.2.1 (p := 1) (b := 0) rfl
  rw [hv573] at rv573
  dsimp only at rv573
  refine q_getI (Sh.int hI563.1 kx_1 rfl) v573 ((hF564.1 1 0 (by decide)).trans hv573) ?_
  have bv575 := q_bnd x561
  have bv576 := q_bnd v573
  refine r_ics 17 rfl (fun c574 => ?_) (fun c574 => ?_)
  · have c574_ : x561.toInt ≥ v573.toInt := en_i_ge_t c574
    refine At.enter rfl ?_
    refine r_iconst (-1) rfl ?_
    refine r_ireti ?_
    exact ⟨_, rfl, hI563, hF564, _, rfl, by decide⟩
  · have c574_ : x561.toInt < v573.toInt := en_i_ge_f c574
    refine At.enter rfl ?_
    refine r_aload_n e568 ?_
    refine r_iload_n e569 ?_
    refine r_callV 22 rfl [.ref 223, .int x561] [] (Nat.le_of_ble_eq_true rfl) rfl (T_X2_seekAnswer_223 _ hI563 x561 (by omega)) ?_
    rintro _ _ ⟨g577, rfl, hI578, hF579, rfl⟩
    refine At.stn ?_
    have hF582 := Fr.tr hF564 hF579 rfl rfl
    refine At.enter rfl ?_
    refine r_aload_n e568 ?_
    obtain ⟨v583, hv583⟩ : ∃ v, gI g577 223 8 = v := ⟨_, rfl⟩
    refine q_getI (Sh.int hI578.1 kx_223 rfl) v583 hv583 ?_
    refine r_aload_n e568 ?_
    obtain ⟨v584, hv584⟩ : ∃ v, gI g577 223 9 = v := ⟨_, rfl⟩
    refine q_getI (Sh.int hI578.1 kx_223 rfl) v584 hv584 ?_
    have bv586 := q_bnd v583
    have bv587 := q_bnd v584
    refine r_ics 33 rfl (fun c585 => ?_) (fun c585 => ?_)
    · have c585_ : v583.toInt ≤ v584.toInt := en_i_le_t c585
      refine At.enter rfl ?_
      refine q_iinc e569 (x561.toInt + 1) rfl (by omega) (fun v588 hv588 => ?_)
      refine r_goto ?_
      exact ih567 (12 - v588.toInt) _ _ ⟨v588, by first | rfl | omega, hI578, hF582, (w_p1 (by decide) (Or.inr rfl) e568), (w_e1 _ _ _), by omega⟩ ⟨by omega, by omega⟩
    · have c585_ : v583.toInt > v584.toInt := en_i_le_f c585
      refine At.enter rfl ?_
      refine r_iload_n e569 ?_
      refine r_ireti ?_
      exact ⟨_, rfl, hI578, hF582, _, rfl, by omega⟩

def F_X6_search_222 : List (Nat × Nat) := [(185, 3), (204, 16), (204, 18), (222, 3), (222, 4), (222, 5)]
def A_X6_search_222 : List Nat := [205, 206, 207, 208, 209, 210, 211, 212, 213, 214, 215, 216, 218]
set_option maxRecDepth 100000 in
set_option maxHeartbeats 4000000 in
theorem T_X6_search_222 (d : Nat) {N : Nat} {g0 : List en_E} (hI0 : HI g0) : Ev (d + 6) 82 [.ref 222] (g0, N) (fun w h' => ∃ g', h' = (g', N) ∧ HI g' ∧ Fr F_X6_search_222 A_X6_search_222 g0 g' ∧ w = none) := by
  have hF0 : Fr F_X6_search_222 A_X6_search_222 g0 g0 := Fr.rf
  refine Ev.mk rfl rfl ⟨Nat.le_of_ble_eq_true rfl, Or.inr (q_rc hI0.1 kx_222 rfl)⟩ ?_
  show At _ none _ _ (0, [(0, .ref 222)], [], (_, _)) _
  refine At.enter rfl ?_
  refine r_aload_n rfl ?_
  refine r_iconst 0 rfl ?_
  refine q_putI (Sh.int hI0.1 kx_222 rfl) rfl ?_
  have hI112197 := HI.wI0 hI0 kx_222 rfl (p := 222) (b := 5) (v := 0) rfl
  have hF112198 := Fr.wI (p := 222) (b := 5) (v := 0) hF0 rfl
  refine r_aload_n rfl ?_
  refine r_iconst (-1) rfl ?_
  refine q_putI (Sh.int hI112197.1 kx_222 rfl) rfl ?_
  have hI112199 := HI.wI0 hI112197 kx_222 rfl (p := 222) (b := 4) (v := (-1)) rfl
  have hF112200 := Fr.wI (p := 222) (b := 4) (v := (-1)) hF112198 rfl
  refine r_aload_n rfl ?_
  refine r_iconst (-1) rfl ?_
  refine q_putI (Sh.int hI112199.1 kx_222 rfl) rfl ?_
  have hI112201 := HI.wI0 hI112199 kx_222 rfl (p := 222) (b := 3) (v := (-1)) rfl
  have hF112202 := Fr.wI (p := 222) (b := 3) (v := (-1)) hF112200 rfl
  refine r_iconst 0 rfl ?_
  refine r_istore_n ([(1, .int 0), (0, .ref 222)]) rfl ?_
  refine r_iconst 0 rfl ?_
  refine r_istore_n ([(2, .int 0), (1, .int 0), (0, .ref 222)]) rfl ?_
  refine Ar.fall 19 rfl ?_
  have z_161285 : (0 : Int32).toInt = 0 := rfl
  have z_161286 : (0 : Int32).toInt = 0 := rfl
  refine w_loopI (fun n_ l_ g_ => ∃ x161273 : Int32, ∃ x161274 : Int32, n_ = 8 - x161274.toInt ∧ HI g_ ∧ Fr F_X6_search_222 A_X6_search_222 g0 g_ ∧ en_get 0 l_ = some (.ref 222) ∧ en_get 1 l_ = some (.int x161273) ∧ en_get 2 l_ = some (.int x161274) ∧ (0 ≤ x161274.toInt ∧ x161274.toInt ≤ 8)) ?_ (8 - 0) ⟨0, 0, by first | rfl | omega, hI112201, hF112202, rfl, rfl, rfl, by decide⟩
  rintro n161279 l161278 g161275 ⟨x161273, x161274, hm161287, hI161276, hF161277, e161281, e161282, e161283, r161284⟩ ih161280
  refine At.enter rfl ?_
  refine r_iload_n e161283 ?_
  refine r_aload_n e161281 ?_
  refine q_getR (Sh.ref hI161276.1 kx_222 rfl) ?_
  obtain ⟨v161288, hv161288⟩ : ∃ v, gI g0 1 4 = v := ⟨_, rfl⟩
  have rv161288 := RgF.at hI0.2.1 (p := 1) (b := 4) rfl
  rw [hv161288] at rv161288
  dsimp only at rv161288
  refine q_getI (Sh.int hI161276.1 kx_1 rfl) v161288 ((hF161277.1 1 4 (by decide)).trans hv161288) ?_
  have bv161290 := q_bnd x161274
  have bv161291 := q_bnd v161288
  refine r_ics 30 rfl (fun c161289 => ?_) (fun c161289 => ?_)
  · have c161289_ : x161274.toInt ≥ v161288.toInt := en_i_ge_t c161289
    refine At.enter rfl ?_
    refine r_iconst 1 rfl ?_
    refine r_aload_n e161281 ?_
    refine q_getR (Sh.ref hI161276.1 kx_222 rfl) ?_
    refine q_getI (Sh.int hI161276.1 kx_1 rfl) v161288 ((hF161277.1 1 4 (by decide)).trans hv161288) ?_
    refine q_ishlO (fun v161292 hv161292 => ?_)
    refine r_iconst 1 rfl ?_
    refine q_isubO (fun v161293 _ => ?_)
    refine r_istore_n _ rfl ?_
    refine r_iconst 0 rfl ?_
    refine r_istore_n _ rfl ?_
    refine Ar.fall 76 rfl ?_
    have z_167116 : (0 : Int32).toInt = 0 := rfl
    refine w_loopI (fun n_ l_ g_ => ∃ x167104 : Int32, n_ = 4 - x167104.toInt ∧ HI g_ ∧ Fr F_X6_search_222 A_X6_search_222 g0 g_ ∧ en_get 0 l_ = some (.ref 222) ∧ en_get 1 l_ = some (.int x161273) ∧ en_get 2 l_ = some (.int v161293) ∧ en_get 3 l_ = some (.int x167104) ∧ (0 ≤ x167104.toInt ∧ x167104.toInt ≤ 4)) ?_ (4 - 0) ⟨0, by first | rfl | omega, hI161276, hF161277, (w_p1 (by decide) (Or.inr rfl) (w_p1 (by decide) (Or.inr rfl) e161281)), (w_p1 (by decide) (Or.inr rfl) (w_p1 (by decide) (Or.inr rfl) e161282)), (w_p1 (by decide) (Or.inr rfl) (w_e1 _ _ _)), (w_e1 _ _ _), by decide⟩
    rintro n167109 l167108 g167105 ⟨x167104, hm167117, hI167106, hF167107, e167111, e167112, e167113, e167114, r167115⟩ ih167110
    refine At.enter rfl ?_
    refine r_iload_n e167114 ?_
    refine r_iconst 3 rfl ?_
    refine r_ics 81 rfl (fun c167118 => ?_) (fun c167118 => ?_)
    · have c167118_ : x167104.toInt > 3 := en_i_gt_t c167118
      refine At.enter rfl ?_
      refine r_vret ?_
      exact ⟨_, rfl, hI167106, hF167107, rfl⟩
    · have c167118_ : x167104.toInt ≤ 3 := en_i_gt_f c167118
      refine At.enter rfl ?_
      refine r_aload_n e167111 ?_
      obtain ⟨v167119, hv167119⟩ : ∃ v, gI g167105 222 5 = v := ⟨_, rfl⟩
      refine q_getI (Sh.int hI167106.1 kx_222 rfl) v167119 hv167119 ?_
      refine r_ifs 88 rfl (fun c167120 => ?_) (fun c167120 => ?_)
      · have c167120_ : v167119.toInt ≠ 0 := en_k_ne_t c167120
        refine At.enter rfl ?_
        refine r_vret ?_
        exact ⟨_, rfl, hI167106, hF167107, rfl⟩
      · have c167120_ : v167119.toInt = 0 := en_k_ne_f c167120
        refine At.enter rfl ?_
        refine r_iconst 0 rfl ?_
        refine r_istore _ rfl ?_
        refine Ar.fall 91 rfl ?_
        have z_168226 : (0 : Int32).toInt = 0 := rfl
        refine w_loopI (fun n_ l_ g_ => ∃ x168213 : Int32, n_ = 2147483647 - x168213.toInt ∧ HI g_ ∧ Fr F_X6_search_222 A_X6_search_222 g0 g_ ∧ en_get 0 l_ = some (.ref 222) ∧ en_get 1 l_ = some (.int x161273) ∧ en_get 2 l_ = some (.int v161293) ∧ en_get 3 l_ = some (.int x167104) ∧ en_get 4 l_ = some (.int x168213) ∧ 0 ≤ x168213.toInt) ?_ (2147483647 - 0) ⟨0, by first | rfl | omega, hI167106, hF167107, (w_p1 (by decide) (Or.inr rfl) e167111), (w_p1 (by decide) (Or.inr rfl) e167112), (w_p1 (by decide) (Or.inr rfl) e167113), (w_p1 (by decide) (Or.inr rfl) e167114), (w_e1 _ _ _), by decide⟩
        rintro n168218 l168217 g168214 ⟨x168213, hm168227, hI168215, hF168216, e168220, e168221, e168222, e168223, e168224, r168225⟩ ih168219
        refine At.enter rfl ?_
        refine r_iload e168224 ?_
        refine r_iconst 1 rfl ?_
        refine r_aload_n e168220 ?_
        refine q_getR (Sh.ref hI168215.1 kx_222 rfl) ?_
        obtain ⟨v168228, hv168228⟩ : ∃ v, gI g0 1 0 = v := ⟨_, rfl⟩
        have rv168228 := RgF.at hI0.2.1 (p := 1) (b := 0) rfl
        rw [hv168228] at rv168228
        dsimp only at rv168228
        refine q_getI (Sh.int hI168215.1 kx_1 rfl) v168228 ((hF168216.1 1 0 (by decide)).trans hv168228) ?_
        refine q_ishlO (fun v168229 hv168229 => ?_)
        have bv168231 := q_bnd x168213
        have bv168232 := q_bnd v168229
        refine r_ics 105 rfl (fun c168230 => ?_) (fun c168230 => ?_)
        · have c168230_ : x168213.toInt ≥ v168229.toInt := en_i_ge_t c168230
          refine At.enter rfl ?_
          refine q_iinc e168223 (x167104.toInt + 1) rfl (by omega) (fun v168233 hv168233 => ?_)
          refine r_goto ?_
          exact ih167110 (4 - v168233.toInt) _ _ ⟨v168233, by first | rfl | omega, hI168215, hF168216, (w_p1 (by decide) (Or.inr rfl) e168220), (w_p1 (by decide) (Or.inr rfl) e168221), (w_p1 (by decide) (Or.inr rfl) e168222), (w_e1 _ _ _), by omega⟩ ⟨by omega, by omega⟩
        · have c168230_ : x168213.toInt < v168229.toInt := en_i_ge_f c168230
          refine At.enter rfl ?_
          refine r_iload e168224 ?_
          refine r_callS 110 rfl [.int x168213] [] (Nat.le_of_ble_eq_true rfl) rfl (T_J6_bitCount_0f7a4 _ hI168215 x168213) ?_
          rintro _ _ ⟨g168234, rfl, hI168235, hF168236, v168237, rfl, hr168238⟩
          refine At.sti ?_
          have hF168239 := Fr.tr hF168216 hF168236 rfl rfl
          refine At.enter rfl ?_
          refine r_iload_n e168223 ?_
          refine r_ics 114 rfl (fun c168240 => ?_) (fun c168240 => ?_)
          · have c168240_ : v168237.toInt ≠ x167104.toInt := en_i_ne_t c168240
            refine At.enter rfl ?_
            refine q_iinc e168224 (x168213.toInt + 1) rfl (by omega) (fun v168241 hv168241 => ?_)
            refine r_goto ?_
            have bv168242 := q_bnd v168241
            exact ih168219 (2147483647 - v168241.toInt) _ _ ⟨v168241, by first | rfl | omega, hI168235, hF168239, (w_p1 (by decide) (Or.inr rfl) e168220), (w_p1 (by decide) (Or.inr rfl) e168221), (w_p1 (by decide) (Or.inr rfl) e168222), (w_p1 (by decide) (Or.inr rfl) e168223), (w_e1 _ _ _), by omega⟩ ⟨by omega, by omega⟩
          · have c168240_ : v168237.toInt = x167104.toInt := en_i_ne_f c168240
            refine At.enter rfl ?_
            refine r_iload e168224 ?_
            refine r_iload_n e168221 ?_
            refine q_iandO (fun v168243 hv168243 => ?_)
            refine r_ifs 121 rfl (fun c168244 => ?_) (fun c168244 => ?_)
            · have c168244_ : v168243.toInt = 0 := en_k_eq_t c168244
              refine At.enter rfl ?_
              refine r_aload_n e168220 ?_
              refine q_getR (Sh.ref hI168235.1 kx_222 rfl) ?_
              refine r_iload e168224 ?_
              refine r_callV 133 rfl [.ref 204, .int x168213] [] (Nat.le_of_ble_eq_true rfl) rfl (T_X1_layOut_204 _ hI168235 x168213) ?_
              rintro _ _ ⟨g168245, rfl, hI168246, hF168247, rfl⟩
              refine At.stn ?_
              have hF168250 := Fr.tr hF168239 hF168247 rfl rfl
              refine At.enter rfl ?_
              refine r_aload_n e168220 ?_
              refine q_getR (Sh.ref hI168246.1 kx_222 rfl) ?_
              refine r_iload_n e168222 ?_
              refine r_bipush 99 rfl ?_
              refine r_callV 143 rfl [.ref 204, .int v161293, .int 99] [] (Nat.le_of_ble_eq_true rfl) rfl (T_X1_comesBy_204 _ hI168246 v161293 99) ?_
              rintro _ _ ⟨g168251, rfl, hI168252, hF168253, v168254, rfl, hr168255⟩
              refine At.sti ?_
              have hF168256 := Fr.tr hF168250 hF168253 rfl rfl
              refine At.enter rfl ?_
              refine r_ifs 146 rfl (fun c168257 => ?_) (fun c168257 => ?_)
              · have c168257_ : v168254.toInt = 0 := en_k_eq_t c168257
                refine At.enter rfl ?_
                refine q_iinc e168224 (x168213.toInt + 1) rfl (by omega) (fun v168258 hv168258 => ?_)
                refine r_goto ?_
                have bv168259 := q_bnd v168258
                exact ih168219 (2147483647 - v168258.toInt) _ _ ⟨v168258, by first | rfl | omega, hI168252, hF168256, (w_p1 (by decide) (Or.inr rfl) e168220), (w_p1 (by decide) (Or.inr rfl) e168221), (w_p1 (by decide) (Or.inr rfl) e168222), (w_p1 (by decide) (Or.inr rfl) e168223), (w_e1 _ _ _), by omega⟩ ⟨by omega, by omega⟩
              · have c168257_ : v168254.toInt ≠ 0 := en_k_eq_f c168257
                refine At.enter rfl ?_
                refine r_aload_n e168220 ?_
                refine r_aload_n e168220 ?_
                obtain ⟨v168260, hv168260⟩ : ∃ v, gI g168214 222 5 = v := ⟨_, rfl⟩
                refine q_getI (Sh.int hI168252.1 kx_222 rfl) v168260 (((hF168253.1 222 5 (by decide)).trans ((hF168247.1 222 5 (by decide)).trans (hF168236.1 222 5 (by decide)))).trans hv168260) ?_
                refine r_ifs 154 rfl (fun c168261 => ?_) (fun c168261 => ?_)
                · have c168261_ : v168260.toInt ≠ 0 := en_k_ne_t c168261
                  refine At.enter rfl ?_
                  refine r_aload_n e168220 ?_
                  obtain ⟨v168262, hv168262⟩ : ∃ v, gI g168214 222 4 = v := ⟨_, rfl⟩
                  refine q_getI (Sh.int hI168252.1 kx_222 rfl) v168262 (((hF168253.1 222 4 (by decide)).trans ((hF168247.1 222 4 (by decide)).trans (hF168236.1 222 4 (by decide)))).trans hv168262) ?_
                  refine Ar.fall 163 rfl ?_
                  refine At.enter rfl ?_
                  refine q_putI (Sh.int hI168252.1 kx_222 rfl) rfl ?_
                  have hI168263 := HI.wI0 hI168252 kx_222 rfl (p := 222) (b := 4) (v := v168262) rfl
                  have hF168264 := Fr.wI (p := 222) (b := 4) (v := v168262) hF168256 rfl
                  refine r_aload_n e168220 ?_
                  refine r_iload_n e168223 ?_
                  refine q_putI (Sh.int hI168263.1 kx_222 rfl) rfl ?_
                  have hI168265 := HI.wI0 hI168263 kx_222 rfl (p := 222) (b := 3) (v := x167104) rfl
                  have hF168266 := Fr.wI (p := 222) (b := 3) (v := x167104) hF168264 rfl
                  refine r_aload_n e168220 ?_
                  refine r_dup rfl ?_
                  refine q_getI (Sh.int hI168265.1 kx_222 rfl) v168260 (((gI_sI_ne (by decide)).trans ((gI_sI_ne (by decide)).trans ((hF168253.1 222 5 (by decide)).trans ((hF168247.1 222 5 (by decide)).trans (hF168236.1 222 5 (by decide)))))).trans hv168260) ?_
                  refine r_iconst 1 rfl ?_
                  refine q_iaddO (fun v168267 _ => ?_)
                  refine q_putI (Sh.int hI168265.1 kx_222 rfl) rfl ?_
                  have hI168268 := HI.wI0 hI168265 kx_222 rfl (p := 222) (b := 5) (v := v168267) rfl
                  have hF168269 := Fr.wI (p := 222) (b := 5) (v := v168267) hF168266 rfl
                  refine Ar.fall 181 rfl ?_
                  refine At.enter rfl ?_
                  refine q_iinc e168224 (x168213.toInt + 1) rfl (by omega) (fun v168270 hv168270 => ?_)
                  refine r_goto ?_
                  have bv168271 := q_bnd v168270
                  exact ih168219 (2147483647 - v168270.toInt) _ _ ⟨v168270, by first | rfl | omega, hI168268, hF168269, (w_p1 (by decide) (Or.inr rfl) e168220), (w_p1 (by decide) (Or.inr rfl) e168221), (w_p1 (by decide) (Or.inr rfl) e168222), (w_p1 (by decide) (Or.inr rfl) e168223), (w_e1 _ _ _), by omega⟩ ⟨by omega, by omega⟩
                · have c168261_ : v168260.toInt = 0 := en_k_ne_f c168261
                  refine At.enter rfl ?_
                  refine r_iload e168224 ?_
                  refine r_goto ?_
                  refine At.enter rfl ?_
                  refine q_putI (Sh.int hI168252.1 kx_222 rfl) rfl ?_
                  have hI168272 := HI.wI0 hI168252 kx_222 rfl (p := 222) (b := 4) (v := x168213) rfl
                  have hF168273 := Fr.wI (p := 222) (b := 4) (v := x168213) hF168256 rfl
                  refine r_aload_n e168220 ?_
                  refine r_iload_n e168223 ?_
                  refine q_putI (Sh.int hI168272.1 kx_222 rfl) rfl ?_
                  have hI168274 := HI.wI0 hI168272 kx_222 rfl (p := 222) (b := 3) (v := x167104) rfl
                  have hF168275 := Fr.wI (p := 222) (b := 3) (v := x167104) hF168273 rfl
                  refine r_aload_n e168220 ?_
                  refine r_dup rfl ?_
                  refine q_getI (Sh.int hI168274.1 kx_222 rfl) v168260 (((gI_sI_ne (by decide)).trans ((gI_sI_ne (by decide)).trans ((hF168253.1 222 5 (by decide)).trans ((hF168247.1 222 5 (by decide)).trans (hF168236.1 222 5 (by decide)))))).trans hv168260) ?_
                  refine r_iconst 1 rfl ?_
                  refine q_iadd (v168260.toInt + 1) rfl (by omega) (fun v168276 hv168276 => ?_)
                  refine q_putI (Sh.int hI168274.1 kx_222 rfl) rfl ?_
                  have hI168277 := HI.wI0 hI168274 kx_222 rfl (p := 222) (b := 5) (v := v168276) rfl
                  have hF168278 := Fr.wI (p := 222) (b := 5) (v := v168276) hF168275 rfl
                  refine Ar.fall 181 rfl ?_
                  refine At.enter rfl ?_
                  refine q_iinc e168224 (x168213.toInt + 1) rfl (by omega) (fun v168279 hv168279 => ?_)
                  refine r_goto ?_
                  have bv168280 := q_bnd v168279
                  exact ih168219 (2147483647 - v168279.toInt) _ _ ⟨v168279, by first | rfl | omega, hI168277, hF168278, (w_p1 (by decide) (Or.inr rfl) e168220), (w_p1 (by decide) (Or.inr rfl) e168221), (w_p1 (by decide) (Or.inr rfl) e168222), (w_p1 (by decide) (Or.inr rfl) e168223), (w_e1 _ _ _), by omega⟩ ⟨by omega, by omega⟩
            · have c168244_ : v168243.toInt ≠ 0 := en_k_eq_f c168244
              refine At.enter rfl ?_
              refine r_goto ?_
              refine At.enter rfl ?_
              refine q_iinc e168224 (x168213.toInt + 1) rfl (by omega) (fun v168281 hv168281 => ?_)
              refine r_goto ?_
              have bv168282 := q_bnd v168281
              exact ih168219 (2147483647 - v168281.toInt) _ _ ⟨v168281, by first | rfl | omega, hI168235, hF168239, (w_p1 (by decide) (Or.inr rfl) e168220), (w_p1 (by decide) (Or.inr rfl) e168221), (w_p1 (by decide) (Or.inr rfl) e168222), (w_p1 (by decide) (Or.inr rfl) e168223), (w_e1 _ _ _), by omega⟩ ⟨by omega, by omega⟩
  · have c161289_ : x161274.toInt < v161288.toInt := en_i_ge_f c161289
    refine At.enter rfl ?_
    refine r_iload_n e161282 ?_
    refine r_iconst 1 rfl ?_
    refine r_aload_n e161281 ?_
    refine q_getR (Sh.ref hI161276.1 kx_222 rfl) ?_
    refine r_iload_n e161283 ?_
    refine r_iconst 1 rfl ?_
    refine r_callV 41 rfl [.ref 1, .int x161274, .int 1] [.int 1, .int x161273] (Nat.le_of_ble_eq_true rfl) rfl (T_X0_about_1 _ hI161276 x161274 1) ?_
    rintro _ _ ⟨g168283, rfl, hI168284, hF168285, v168286, rfl, hr168287⟩
    refine At.sti ?_
    have hF168288 := Fr.tr hF161277 hF168285 rfl rfl
    refine At.enter rfl ?_
    refine q_ishlO (fun v168289 hv168289 => ?_)
    refine r_iconst 1 rfl ?_
    refine r_aload_n e161281 ?_
    refine q_getR (Sh.ref hI168284.1 kx_222 rfl) ?_
    refine r_iload_n e161283 ?_
    refine r_iconst 2 rfl ?_
    refine r_callV 52 rfl [.ref 1, .int x161274, .int 2] [.int 1, .int v168289, .int x161273] (Nat.le_of_ble_eq_true rfl) rfl (T_X0_about_1 _ hI168284 x161274 2) ?_
    rintro _ _ ⟨g168290, rfl, hI168291, hF168292, v168293, rfl, hr168294⟩
    refine At.sti ?_
    have hF168295 := Fr.tr hF168288 hF168292 rfl rfl
    refine At.enter rfl ?_
    refine q_ishlO (fun v168296 hv168296 => ?_)
    refine q_iorO (fun v168297 hv168297 => ?_)
    refine q_iorO (fun v168298 hv168298 => ?_)
    refine r_istore_n _ rfl ?_
    refine q_iinc (w_p1 (by decide) (Or.inr rfl) e161283) (x161274.toInt + 1) rfl (by omega) (fun v168299 hv168299 => ?_)
    refine r_goto ?_
    have bv168300 := q_bnd v168298
    exact ih161280 (8 - v168299.toInt) _ _ ⟨v168298, v168299, by first | rfl | omega, hI168291, hF168295, (w_p1 (by decide) (Or.inr rfl) (w_p1 (by decide) (Or.inr rfl) e161281)), (w_p1 (by decide) (Or.inr rfl) (w_e1 _ _ _)), (w_e1 _ _ _), by omega⟩ ⟨by omega, by omega⟩

def F_X6_told_222 : List (Nat × Nat) := [(185, 3), (204, 16), (204, 18), (222, 2), (222, 3), (222, 4), (222, 5)]
def A_X6_told_222 : List Nat := [205, 206, 207, 208, 209, 210, 211, 212, 213, 214, 215, 216, 218]
set_option maxRecDepth 100000 in
set_option maxHeartbeats 4000000 in
theorem T_X6_told_222 (d : Nat) {N : Nat} {g0 : List en_E} (hI0 : HI g0) (a1 : Int32) : Ev (d + 7) 81 [.ref 222, .int a1] (g0, N) (fun w h' => ∃ g', h' = (g', N) ∧ HI g' ∧ Fr F_X6_told_222 A_X6_told_222 g0 g' ∧ ∃ r : Int32, w = some (.int r) ∧ True) := by
  have hF0 : Fr F_X6_told_222 A_X6_told_222 g0 g0 := Fr.rf
  refine Ev.mk rfl rfl ⟨Nat.le_of_ble_eq_true rfl, Or.inr (q_rc hI0.1 kx_222 rfl)⟩ ?_
  show At _ none _ _ (0, [(0, .ref 222), (1, .int a1)], [], (_, _)) _
  refine At.enter rfl ?_
  refine r_aload_n rfl ?_
  obtain ⟨v41, hv41⟩ : ∃ v, gI g0 222 2 = v := ⟨_, rfl⟩
  refine q_getI (Sh.int hI0.1 kx_222 rfl) v41 hv41 ?_
  refine r_ifs 7 rfl (fun c42 => ?_) (fun c42 => ?_)
  · have c42_ : v41.toInt ≠ 0 := en_k_ne_t c42
    refine At.enter rfl ?_
    refine r_iload_n rfl ?_
    refine r_ifs 20 rfl (fun c43 => ?_) (fun c43 => ?_)
    · have c43_ : a1.toInt ≠ 0 := en_k_ne_t c43
      refine At.enter rfl ?_
      refine r_iload_n rfl ?_
      refine r_iconst 1 rfl ?_
      refine r_ics 32 rfl (fun c44 => ?_) (fun c44 => ?_)
      · have c44_ : a1.toInt ≠ 1 := en_i_ne_t c44
        refine At.enter rfl ?_
        refine r_aload_n rfl ?_
        obtain ⟨v45, hv45⟩ : ∃ v, gI g0 222 5 = v := ⟨_, rfl⟩
        refine q_getI (Sh.int hI0.1 kx_222 rfl) v45 hv45 ?_
        refine Ar.fall 43 rfl ?_
        refine At.enter rfl ?_
        refine r_ireti ?_
        exact ⟨_, rfl, hI0, hF0, _, rfl, trivial⟩
      · have c44_ : a1.toInt = 1 := en_i_ne_f c44
        refine At.enter rfl ?_
        refine r_aload_n rfl ?_
        obtain ⟨v46, hv46⟩ : ∃ v, gI g0 222 4 = v := ⟨_, rfl⟩
        refine q_getI (Sh.int hI0.1 kx_222 rfl) v46 hv46 ?_
        refine r_goto ?_
        refine At.enter rfl ?_
        refine r_ireti ?_
        exact ⟨_, rfl, hI0, hF0, _, rfl, trivial⟩
    · have c43_ : a1.toInt = 0 := en_k_ne_f c43
      refine At.enter rfl ?_
      refine r_aload_n rfl ?_
      obtain ⟨v47, hv47⟩ : ∃ v, gI g0 222 3 = v := ⟨_, rfl⟩
      refine q_getI (Sh.int hI0.1 kx_222 rfl) v47 hv47 ?_
      refine r_goto ?_
      refine At.enter rfl ?_
      refine r_ireti ?_
      exact ⟨_, rfl, hI0, hF0, _, rfl, trivial⟩
  · have c42_ : v41.toInt = 0 := en_k_ne_f c42
    refine At.enter rfl ?_
    refine r_aload_n rfl ?_
    refine r_iconst 1 rfl ?_
    refine q_putI (Sh.int hI0.1 kx_222 rfl) rfl ?_
    have hI48 := HI.wI0 hI0 kx_222 rfl (p := 222) (b := 2) (v := 1) rfl
    have hF49 := Fr.wI (p := 222) (b := 2) (v := 1) hF0 rfl
    refine r_aload_n rfl ?_
    refine r_callV 16 rfl [.ref 222] [] (Nat.le_of_ble_eq_true rfl) rfl (T_X6_search_222 _ hI48) ?_
    rintro _ _ ⟨g50, rfl, hI51, hF52, rfl⟩
    refine At.stn ?_
    have hF55 := Fr.tr hF49 hF52 rfl rfl
    refine At.enter rfl ?_
    refine r_iload_n rfl ?_
    refine r_ifs 20 rfl (fun c56 => ?_) (fun c56 => ?_)
    · have c56_ : a1.toInt ≠ 0 := en_k_ne_t c56
      refine At.enter rfl ?_
      refine r_iload_n rfl ?_
      refine r_iconst 1 rfl ?_
      refine r_ics 32 rfl (fun c57 => ?_) (fun c57 => ?_)
      · have c57_ : a1.toInt ≠ 1 := en_i_ne_t c57
        refine At.enter rfl ?_
        refine r_aload_n rfl ?_
        obtain ⟨v58, hv58⟩ : ∃ v, gI g50 222 5 = v := ⟨_, rfl⟩
        refine q_getI (Sh.int hI51.1 kx_222 rfl) v58 hv58 ?_
        refine Ar.fall 43 rfl ?_
        refine At.enter rfl ?_
        refine r_ireti ?_
        exact ⟨_, rfl, hI51, hF55, _, rfl, trivial⟩
      · have c57_ : a1.toInt = 1 := en_i_ne_f c57
        refine At.enter rfl ?_
        refine r_aload_n rfl ?_
        obtain ⟨v59, hv59⟩ : ∃ v, gI g50 222 4 = v := ⟨_, rfl⟩
        refine q_getI (Sh.int hI51.1 kx_222 rfl) v59 hv59 ?_
        refine r_goto ?_
        refine At.enter rfl ?_
        refine r_ireti ?_
        exact ⟨_, rfl, hI51, hF55, _, rfl, trivial⟩
    · have c56_ : a1.toInt = 0 := en_k_ne_f c56
      refine At.enter rfl ?_
      refine r_aload_n rfl ?_
      obtain ⟨v60, hv60⟩ : ∃ v, gI g50 222 3 = v := ⟨_, rfl⟩
      refine q_getI (Sh.int hI51.1 kx_222 rfl) v60 hv60 ?_
      refine r_goto ?_
      refine At.enter rfl ?_
      refine r_ireti ?_
      exact ⟨_, rfl, hI51, hF55, _, rfl, trivial⟩

def F_X7_found_220 : List (Nat × Nat) := [(220, 4)]
def A_X7_found_220 : List Nat := [221]
set_option maxRecDepth 100000 in
set_option maxHeartbeats 4000000 in
theorem T_X7_found_220 (d : Nat) {N : Nat} {g0 : List en_E} (hI0 : HI g0) (a1 : Int32) (a2 : Int32) (a3 : Int32) (a4 : Int32) (a5 : Int32) (h_a5 : 0 ≤ a5.toInt ∧ a5.toInt ≤ 3) : Ev (d + 1) 91 [.ref 220, .int a1, .int a2, .int a3, .int a4, .int a5] (g0, N) (fun w h' => ∃ g', h' = (g', N) ∧ HI g' ∧ Fr F_X7_found_220 A_X7_found_220 g0 g' ∧ w = none) := by
  have hF0 : Fr F_X7_found_220 A_X7_found_220 g0 g0 := Fr.rf
  refine Ev.mk rfl rfl ⟨Nat.le_of_ble_eq_true rfl, Or.inr (q_rc hI0.1 kx_220 rfl)⟩ ?_
  show At _ none _ _ (0, [(0, .ref 220), (1, .int a1), (2, .int a2), (3, .int a3), (4, .int a4), (5, .int a5)], [], (_, _)) _
  refine At.enter rfl ?_
  refine r_aload_n rfl ?_
  obtain ⟨v33, hv33⟩ : ∃ v, gI g0 220 4 = v := ⟨_, rfl⟩
  refine q_getI (Sh.int hI0.1 kx_220 rfl) v33 hv33 ?_
  refine r_ifs 7 rfl (fun c34 => ?_) (fun c34 => ?_)
  · have c34_ : v33.toInt ≠ 0 := en_k_ne_t c34
    refine At.enter rfl ?_
    refine r_aload_n rfl ?_
    refine r_dup rfl ?_
    refine q_getI (Sh.int hI0.1 kx_220 rfl) v33 hv33 ?_
    refine r_iload rfl ?_
    refine q_iaddO (fun v35 _ => ?_)
    refine q_putI (Sh.int hI0.1 kx_220 rfl) rfl ?_
    have hI36 := HI.wI0 hI0 kx_220 rfl (p := 220) (b := 4) (v := v35) rfl
    have hF37 := Fr.wI (p := 220) (b := 4) (v := v35) hF0 rfl
    refine r_vret ?_
    exact ⟨_, rfl, hI36, hF37, rfl⟩
  · have c34_ : v33.toInt = 0 := en_k_ne_f c34
    refine At.enter rfl ?_
    refine r_aload_n rfl ?_
    refine q_getR (Sh.ref hI0.1 kx_220 rfl) ?_
    refine r_iconst 0 rfl ?_
    refine r_iload_n rfl ?_
    refine q_iast (Sh.arr hI0.1 ka_221) (0) rfl (by decide) ?_
    have hI38 := HI.wA0 hI0 ka_221 (p := 221) rfl rfl (0) (a1)
    have hF39 := Fr.wA (p := 221) (j := 0) (v := a1) hF0 rfl
    refine r_aload_n rfl ?_
    refine q_getR (Sh.ref hI38.1 kx_220 rfl) ?_
    refine r_iconst 1 rfl ?_
    refine r_iload_n rfl ?_
    refine q_iast (Sh.arr hI38.1 ka_221) (1) rfl (by decide) ?_
    have hI40 := HI.wA0 hI38 ka_221 (p := 221) rfl rfl (1) (a2)
    have hF41 := Fr.wA (p := 221) (j := 1) (v := a2) hF39 rfl
    refine r_aload_n rfl ?_
    refine q_getR (Sh.ref hI40.1 kx_220 rfl) ?_
    refine r_iconst 2 rfl ?_
    refine r_iload_n rfl ?_
    refine q_iast (Sh.arr hI40.1 ka_221) (2) rfl (by decide) ?_
    have hI42 := HI.wA0 hI40 ka_221 (p := 221) rfl rfl (2) (a3)
    have hF43 := Fr.wA (p := 221) (j := 2) (v := a3) hF41 rfl
    refine r_aload_n rfl ?_
    refine q_getR (Sh.ref hI42.1 kx_220 rfl) ?_
    refine r_iconst 3 rfl ?_
    refine r_iload rfl ?_
    refine q_iast (Sh.arr hI42.1 ka_221) (3) rfl (by decide) ?_
    have hI44 := HI.wA0 hI42 ka_221 (p := 221) rfl rfl (3) (a4)
    have hF45 := Fr.wA (p := 221) (j := 3) (v := a4) hF43 rfl
    refine Ar.fall 36 rfl ?_
    refine At.enter rfl ?_
    refine r_aload_n rfl ?_
    refine r_dup rfl ?_
    refine q_getI (Sh.int hI44.1 kx_220 rfl) v33 (((gI_sW).trans ((gI_sW).trans ((gI_sW).trans (gI_sW)))).trans hv33) ?_
    refine r_iload rfl ?_
    refine q_iadd (v33.toInt + a5.toInt) rfl (by omega) (fun v46 hv46 => ?_)
    refine q_putI (Sh.int hI44.1 kx_220 rfl) rfl ?_
    have hI47 := HI.wI0 hI44 kx_220 rfl (p := 220) (b := 4) (v := v46) rfl
    have hF48 := Fr.wI (p := 220) (b := 4) (v := v46) hF45 rfl
    refine r_vret ?_
    exact ⟨_, rfl, hI47, hF48, rfl⟩

def F_X7_change_220 : List (Nat × Nat) := []
def A_X7_change_220 : List Nat := [205, 206]
set_option maxRecDepth 100000 in
set_option maxHeartbeats 4000000 in
theorem T_X7_change_220 (d : Nat) {N : Nat} {g0 : List en_E} (hI0 : HI g0) (a1 : Int32) (h_a1 : 0 ≤ a1.toInt ∧ a1.toInt ≤ 11) (a2 : Int32) (h_a2 : 0 ≤ a2.toInt ∧ a2.toInt ≤ 11) : Ev (d + 2) 90 [.ref 220, .int a1, .int a2] (g0, N) (fun w h' => ∃ g', h' = (g', N) ∧ HI g' ∧ Fr F_X7_change_220 A_X7_change_220 g0 g' ∧ w = none) := by
  have hF0 : Fr F_X7_change_220 A_X7_change_220 g0 g0 := Fr.rf
  refine Ev.mk rfl rfl ⟨Nat.le_of_ble_eq_true rfl, Or.inr (q_rc hI0.1 kx_220 rfl)⟩ ?_
  show At _ none _ _ (0, [(0, .ref 220), (1, .int a1), (2, .int a2)], [], (_, _)) _
  refine At.enter rfl ?_
  refine r_aload_n rfl ?_
  refine q_getR (Sh.ref hI0.1 kx_220 rfl) ?_
  refine q_getR (Sh.ref hI0.1 kx_204 rfl) ?_
  refine r_iload_n rfl ?_
  refine r_iload_n rfl ?_
  refine q_inlS 12 rfl [.ref 205, .int a1, .int a2] [] (Nat.le_of_ble_eq_true rfl) rfl ?_
  refine Ev.mk rfl rfl ⟨Nat.le_of_ble_eq_true rfl, Or.inl rfl⟩ ?_
  show At _ none _ _ (0, [(0, .ref 205), (1, .int a1), (2, .int a2)], [], (_, _)) _
  refine At.enter rfl ?_
  refine r_aload_n rfl ?_
  refine r_iload_n rfl ?_
  obtain ⟨v25, hv25⟩ : ∃ v, eA g0 205 a1.toInt = v := ⟨_, rfl⟩
  refine q_iald (Sh.arr hI0.1 ka_205) a1.toInt rfl (by omega) v25 hv25 ?_
  refine r_istore_n ([(3, .int v25), (0, .ref 205), (1, .int a1), (2, .int a2)]) rfl ?_
  refine r_aload_n rfl ?_
  refine r_iload_n rfl ?_
  refine r_aload_n rfl ?_
  refine r_iload_n rfl ?_
  obtain ⟨v26, hv26⟩ : ∃ v, eA g0 205 a2.toInt = v := ⟨_, rfl⟩
  refine q_iald (Sh.arr hI0.1 ka_205) a2.toInt rfl (by omega) v26 hv26 ?_
  refine q_iast (Sh.arr hI0.1 ka_205) (a1.toInt) rfl (by omega) ?_
  have hI27 := HI.wA0 hI0 ka_205 (p := 205) rfl rfl (a1.toInt) (v26)
  have hF28 := Fr.wA (p := 205) (j := a1.toInt) (v := v26) hF0 rfl
  refine r_aload_n rfl ?_
  refine r_iload_n rfl ?_
  refine r_iload_n rfl ?_
  refine q_iast (Sh.arr hI27.1 ka_205) (a2.toInt) rfl (by omega) ?_
  have hI29 := HI.wA0 hI27 ka_205 (p := 205) rfl rfl (a2.toInt) (v25)
  have hF30 := Fr.wA (p := 205) (j := a2.toInt) (v := v25) hF28 rfl
  refine q_vret ?_
  refine At.enter rfl ?_
  refine r_aload_n rfl ?_
  refine q_getR (Sh.ref hI29.1 kx_220 rfl) ?_
  refine q_getR (Sh.ref hI29.1 kx_204 rfl) ?_
  refine r_iload_n rfl ?_
  refine r_iload_n rfl ?_
  refine q_inlS 24 rfl [.ref 206, .int a1, .int a2] [] (Nat.le_of_ble_eq_true rfl) rfl ?_
  refine Ev.mk rfl rfl ⟨Nat.le_of_ble_eq_true rfl, Or.inl rfl⟩ ?_
  show At _ none _ _ (0, [(0, .ref 206), (1, .int a1), (2, .int a2)], [], (_, _)) _
  refine At.enter rfl ?_
  refine r_aload_n rfl ?_
  refine r_iload_n rfl ?_
  obtain ⟨v31, hv31⟩ : ∃ v, eA g0 206 a1.toInt = v := ⟨_, rfl⟩
  refine q_iald (Sh.arr hI29.1 ka_206) a1.toInt rfl (by omega) v31 ((eA_c ((gA_sA_ne (by decide)).trans (gA_sA_ne (by decide)))).trans hv31) ?_
  refine r_istore_n ([(3, .int v31), (0, .ref 206), (1, .int a1), (2, .int a2)]) rfl ?_
  refine r_aload_n rfl ?_
  refine r_iload_n rfl ?_
  refine r_aload_n rfl ?_
  refine r_iload_n rfl ?_
  obtain ⟨v32, hv32⟩ : ∃ v, eA g0 206 a2.toInt = v := ⟨_, rfl⟩
  refine q_iald (Sh.arr hI29.1 ka_206) a2.toInt rfl (by omega) v32 ((eA_c ((gA_sA_ne (by decide)).trans (gA_sA_ne (by decide)))).trans hv32) ?_
  refine q_iast (Sh.arr hI29.1 ka_206) (a1.toInt) rfl (by omega) ?_
  have hI33 := HI.wA0 hI29 ka_206 (p := 206) rfl rfl (a1.toInt) (v32)
  have hF34 := Fr.wA (p := 206) (j := a1.toInt) (v := v32) hF30 rfl
  refine r_aload_n rfl ?_
  refine r_iload_n rfl ?_
  refine r_iload_n rfl ?_
  refine q_iast (Sh.arr hI33.1 ka_206) (a2.toInt) rfl (by omega) ?_
  have hI35 := HI.wA0 hI33 ka_206 (p := 206) rfl rfl (a2.toInt) (v31)
  have hF36 := Fr.wA (p := 206) (j := a2.toInt) (v := v31) hF34 rfl
  refine q_vret ?_
  refine At.enter rfl ?_
  refine r_vret ?_
  exact ⟨_, rfl, hI35, hF36, rfl⟩

def F_X7_rowsLike : List (Nat × Nat) := []
def A_X7_rowsLike : List Nat := []
set_option maxRecDepth 100000 in
set_option maxHeartbeats 4000000 in
theorem T_X7_rowsLike (d : Nat) {N : Nat} {g0 : List en_E} (hI0 : HI g0) (a0 : Int32) (a1 : Int32) (a2 : Int32) (a3 : Int32) : Ev (d + 1) 89 [.int a0, .int a1, .int a2, .int a3] (g0, N) (fun w h' => ∃ g', h' = (g', N) ∧ HI g' ∧ Fr F_X7_rowsLike A_X7_rowsLike g0 g' ∧ ∃ r : Int32, w = some (.int r) ∧ (0 ≤ r.toInt ∧ r.toInt ≤ 3)) := by
  have hF0 : Fr F_X7_rowsLike A_X7_rowsLike g0 g0 := Fr.rf
  refine Ev.mk rfl rfl ⟨Nat.le_of_ble_eq_true rfl, Or.inl rfl⟩ ?_
  show At _ none _ _ (0, [(0, .int a0), (1, .int a1), (2, .int a2), (3, .int a3)], [], (_, _)) _
  refine At.enter rfl ?_
  refine r_iload_n rfl ?_
  refine r_iload_n rfl ?_
  refine r_ics 5 rfl (fun c19 => ?_) (fun c19 => ?_)
  · have c19_ : a2.toInt ≠ a0.toInt := en_i_ne_t c19
    refine At.enter rfl ?_
    refine r_iload_n rfl ?_
    refine r_iload_n rfl ?_
    refine r_ics 21 rfl (fun c20 => ?_) (fun c20 => ?_)
    · have c20_ : a2.toInt ≠ a1.toInt := en_i_ne_t c20
      refine At.enter rfl ?_
      refine r_iload_n rfl ?_
      refine r_iload_n rfl ?_
      refine r_ics 28 rfl (fun c21 => ?_) (fun c21 => ?_)
      · have c21_ : a3.toInt ≠ a1.toInt := en_i_ne_t c21
        refine At.enter rfl ?_
        refine r_iload_n rfl ?_
        refine r_iload_n rfl ?_
        have bv23 := q_bnd a2
        have bv24 := q_bnd a0
        refine r_ics 37 rfl (fun c22 => ?_) (fun c22 => ?_)
        · have c22_ : a2.toInt ≤ a0.toInt := en_i_le_t c22
          refine At.enter rfl ?_
          refine r_iconst 0 rfl ?_
          refine Ar.fall 42 rfl ?_
          refine At.enter rfl ?_
          refine r_ireti ?_
          exact ⟨_, rfl, hI0, hF0, _, rfl, by decide⟩
        · have c22_ : a2.toInt > a0.toInt := en_i_le_f c22
          refine At.enter rfl ?_
          refine r_iconst 2 rfl ?_
          refine r_goto ?_
          refine At.enter rfl ?_
          refine r_ireti ?_
          exact ⟨_, rfl, hI0, hF0, _, rfl, by decide⟩
      · have c21_ : a3.toInt = a1.toInt := en_i_ne_f c21
        refine At.enter rfl ?_
        refine r_iconst 0 rfl ?_
        refine r_goto ?_
        refine At.enter rfl ?_
        refine r_ireti ?_
        exact ⟨_, rfl, hI0, hF0, _, rfl, by decide⟩
    · have c20_ : a2.toInt = a1.toInt := en_i_ne_f c20
      refine At.enter rfl ?_
      refine r_iconst 3 rfl ?_
      refine r_ireti ?_
      exact ⟨_, rfl, hI0, hF0, _, rfl, by decide⟩
  · have c19_ : a2.toInt = a0.toInt := en_i_ne_f c19
    refine At.enter rfl ?_
    refine r_iload_n rfl ?_
    refine r_iload_n rfl ?_
    have bv26 := q_bnd a3
    have bv27 := q_bnd a1
    refine r_ics 10 rfl (fun c25 => ?_) (fun c25 => ?_)
    · have c25_ : a3.toInt ≤ a1.toInt := en_i_le_t c25
      refine At.enter rfl ?_
      refine r_iconst 0 rfl ?_
      refine Ar.fall 15 rfl ?_
      refine At.enter rfl ?_
      refine r_ireti ?_
      exact ⟨_, rfl, hI0, hF0, _, rfl, by decide⟩
    · have c25_ : a3.toInt > a1.toInt := en_i_le_f c25
      refine At.enter rfl ?_
      refine r_iconst 3 rfl ?_
      refine r_goto ?_
      refine At.enter rfl ?_
      refine r_ireti ?_
      exact ⟨_, rfl, hI0, hF0, _, rfl, by decide⟩

def F_X7_tryNone_220 : List (Nat × Nat) := [(185, 3), (204, 16), (204, 18), (220, 4)]
def A_X7_tryNone_220 : List Nat := [210, 211, 212, 213, 214, 215, 216, 218, 221]
set_option maxRecDepth 100000 in
set_option maxHeartbeats 4000000 in
theorem T_X7_tryNone_220 (d : Nat) {N : Nat} {g0 : List en_E} (hI0 : HI g0) : Ev (d + 6) 86 [.ref 220] (g0, N) (fun w h' => ∃ g', h' = (g', N) ∧ HI g' ∧ Fr F_X7_tryNone_220 A_X7_tryNone_220 g0 g' ∧ w = none) := by
  have hF0 : Fr F_X7_tryNone_220 A_X7_tryNone_220 g0 g0 := Fr.rf
  refine Ev.mk rfl rfl ⟨Nat.le_of_ble_eq_true rfl, Or.inr (q_rc hI0.1 kx_220 rfl)⟩ ?_
  show At _ none _ _ (0, [(0, .ref 220)], [], (_, _)) _
  refine At.enter rfl ?_
  refine r_aload_n rfl ?_
  refine q_getR (Sh.ref hI0.1 kx_220 rfl) ?_
  refine r_aload_n rfl ?_
  obtain ⟨v31, hv31⟩ : ∃ v, gI g0 220 2 = v := ⟨_, rfl⟩
  refine q_getI (Sh.int hI0.1 kx_220 rfl) v31 hv31 ?_
  refine r_aload_n rfl ?_
  refine q_getR (Sh.ref hI0.1 kx_220 rfl) ?_
  obtain ⟨v32, hv32⟩ : ∃ v, gI g0 1 10 = v := ⟨_, rfl⟩
  refine q_getI (Sh.int hI0.1 kx_1 rfl) v32 hv32 ?_
  refine r_callV 18 rfl [.ref 204, .int v31, .int v32] [] (Nat.le_of_ble_eq_true rfl) rfl (T_X1_comesBy_204 _ hI0 v31 v32) ?_
  rintro _ _ ⟨g33, rfl, hI34, hF35, v36, rfl, hr37⟩
  refine At.sti ?_
  have hF38 := Fr.tr hF0 hF35 rfl rfl
  refine At.enter rfl ?_
  refine r_ifs 21 rfl (fun c39 => ?_) (fun c39 => ?_)
  · have c39_ : v36.toInt = 0 := en_k_eq_t c39
    refine At.enter rfl ?_
    refine r_vret ?_
    exact ⟨_, rfl, hI34, hF38, rfl⟩
  · have c39_ : v36.toInt ≠ 0 := en_k_eq_f c39
    refine At.enter rfl ?_
    refine r_aload_n rfl ?_
    refine r_iconst (-1) rfl ?_
    refine r_iconst (-1) rfl ?_
    refine r_iconst (-1) rfl ?_
    refine r_iconst (-1) rfl ?_
    refine r_iconst 1 rfl ?_
    refine r_callV 30 rfl [.ref 220, .int (-1), .int (-1), .int (-1), .int (-1), .int 1] [] (Nat.le_of_ble_eq_true rfl) rfl (T_X7_found_220 _ hI34 (-1) (-1) (-1) (-1) 1 (by decide)) ?_
    rintro _ _ ⟨g40, rfl, hI41, hF42, rfl⟩
    refine At.stn ?_
    have hF45 := Fr.tr hF38 hF42 rfl rfl
    refine At.enter rfl ?_
    refine r_vret ?_
    exact ⟨_, rfl, hI41, hF45, rfl⟩

def F_X7_tryOne_220 : List (Nat × Nat) := [(185, 3), (204, 16), (204, 18), (220, 4)]
def A_X7_tryOne_220 : List Nat := [205, 206, 210, 211, 212, 213, 214, 215, 216, 218, 221]
set_option maxRecDepth 100000 in
set_option maxHeartbeats 4000000 in
theorem T_X7_tryOne_220 (d : Nat) {N : Nat} {g0 : List en_E} (hI0 : HI g0) : Ev (d + 6) 87 [.ref 220] (g0, N) (fun w h' => ∃ g', h' = (g', N) ∧ HI g' ∧ Fr F_X7_tryOne_220 A_X7_tryOne_220 g0 g' ∧ w = none) := by
  have hF0 : Fr F_X7_tryOne_220 A_X7_tryOne_220 g0 g0 := Fr.rf
  refine Ev.mk rfl rfl ⟨Nat.le_of_ble_eq_true rfl, Or.inr (q_rc hI0.1 kx_220 rfl)⟩ ?_
  show At _ none _ _ (0, [(0, .ref 220)], [], (_, _)) _
  refine At.enter rfl ?_
  refine r_iconst 0 rfl ?_
  refine r_istore_n ([(1, .int 0), (0, .ref 220)]) rfl ?_
  refine Ar.fall 2 rfl ?_
  have z_6544 : (0 : Int32).toInt = 0 := rfl
  refine w_loopI (fun n_ l_ g_ => ∃ x6534 : Int32, n_ = 12 - x6534.toInt ∧ HI g_ ∧ Fr F_X7_tryOne_220 A_X7_tryOne_220 g0 g_ ∧ en_get 0 l_ = some (.ref 220) ∧ en_get 1 l_ = some (.int x6534) ∧ (0 ≤ x6534.toInt ∧ x6534.toInt ≤ 12)) ?_ (12 - 0) ⟨0, by first | rfl | omega, hI0, hF0, rfl, rfl, by decide⟩
  rintro n6539 l6538 g6535 ⟨x6534, hm6545, hI6536, hF6537, e6541, e6542, r6543⟩ ih6540
  refine At.enter rfl ?_
  refine r_iload_n e6542 ?_
  refine r_aload_n e6541 ?_
  refine q_getR (Sh.ref hI6536.1 kx_220 rfl) ?_
  obtain ⟨v6546, hv6546⟩ : ∃ v, gI g0 1 0 = v := ⟨_, rfl⟩
  have rv6546 := RgF.at hI0.2.1 (p := 1) (b := 0) rfl
  rw [hv6546] at rv6546
  dsimp only at rv6546
  refine q_getI (Sh.int hI6536.1 kx_1 rfl) v6546 ((hF6537.1 1 0 (by decide)).trans hv6546) ?_
  have bv6548 := q_bnd x6534
  have bv6549 := q_bnd v6546
  refine r_ics 13 rfl (fun c6547 => ?_) (fun c6547 => ?_)
  · have c6547_ : x6534.toInt ≥ v6546.toInt := en_i_ge_t c6547
    refine At.enter rfl ?_
    refine r_vret ?_
    exact ⟨_, rfl, hI6536, hF6537, rfl⟩
  · have c6547_ : x6534.toInt < v6546.toInt := en_i_ge_f c6547
    refine At.enter rfl ?_
    refine r_iload_n e6542 ?_
    refine r_iconst 1 rfl ?_
    refine q_iadd (x6534.toInt + 1) rfl (by omega) (fun v6550 hv6550 => ?_)
    refine r_istore_n _ rfl ?_
    refine Ar.fall 17 rfl ?_
    refine w_loopI (fun n_ l_ g_ => ∃ x6591 : Int32, n_ = 12 - x6591.toInt ∧ HI g_ ∧ Fr F_X7_tryOne_220 A_X7_tryOne_220 g0 g_ ∧ en_get 0 l_ = some (.ref 220) ∧ en_get 1 l_ = some (.int x6534) ∧ en_get 2 l_ = some (.int x6591) ∧ (1 ≤ x6591.toInt ∧ x6591.toInt ≤ 12)) ?_ (12 - v6550.toInt) ⟨v6550, by first | rfl | omega, hI6536, hF6537, (w_p1 (by decide) (Or.inr rfl) e6541), (w_p1 (by decide) (Or.inr rfl) e6542), (w_e1 _ _ _), by omega⟩
    rintro n6596 l6595 g6592 ⟨x6591, hm6602, hI6593, hF6594, e6598, e6599, e6600, r6601⟩ ih6597
    refine At.enter rfl ?_
    refine r_iload_n e6600 ?_
    refine r_aload_n e6598 ?_
    refine q_getR (Sh.ref hI6593.1 kx_220 rfl) ?_
    refine q_getI (Sh.int hI6593.1 kx_1 rfl) v6546 ((hF6594.1 1 0 (by decide)).trans hv6546) ?_
    have bv6604 := q_bnd x6591
    refine r_ics 28 rfl (fun c6603 => ?_) (fun c6603 => ?_)
    · have c6603_ : x6591.toInt ≥ v6546.toInt := en_i_ge_t c6603
      refine At.enter rfl ?_
      refine q_iinc e6599 (x6534.toInt + 1) rfl (by omega) (fun v6605 hv6605 => ?_)
      refine r_goto ?_
      exact ih6540 (12 - v6605.toInt) _ _ ⟨v6605, by first | rfl | omega, hI6593, hF6594, (w_p1 (by decide) (Or.inr rfl) e6598), (w_e1 _ _ _), by omega⟩ ⟨by omega, by omega⟩
    · have c6603_ : x6591.toInt < v6546.toInt := en_i_ge_f c6603
      refine At.enter rfl ?_
      refine r_aload_n e6598 ?_
      refine r_iload_n e6599 ?_
      refine r_iload_n e6600 ?_
      refine r_callV 34 rfl [.ref 220, .int x6534, .int x6591] [] (Nat.le_of_ble_eq_true rfl) rfl (T_X7_change_220 _ hI6593 x6534 (by omega) x6591 (by omega)) ?_
      rintro _ _ ⟨g6606, rfl, hI6607, hF6608, rfl⟩
      refine At.stn ?_
      have hF6611 := Fr.tr hF6594 hF6608 rfl rfl
      refine At.enter rfl ?_
      refine r_aload_n e6598 ?_
      refine q_getR (Sh.ref hI6607.1 kx_220 rfl) ?_
      refine r_aload_n e6598 ?_
      obtain ⟨v6612, hv6612⟩ : ∃ v, gI g0 220 2 = v := ⟨_, rfl⟩
      refine q_getI (Sh.int hI6607.1 kx_220 rfl) v6612 (((hF6608.1 220 2 (by decide)).trans (hF6594.1 220 2 (by decide))).trans hv6612) ?_
      refine r_aload_n e6598 ?_
      refine q_getR (Sh.ref hI6607.1 kx_220 rfl) ?_
      obtain ⟨v6613, hv6613⟩ : ∃ v, gI g0 1 10 = v := ⟨_, rfl⟩
      refine q_getI (Sh.int hI6607.1 kx_1 rfl) v6613 (((hF6608.1 1 10 (by decide)).trans (hF6594.1 1 10 (by decide))).trans hv6613) ?_
      refine r_callV 52 rfl [.ref 204, .int v6612, .int v6613] [] (Nat.le_of_ble_eq_true rfl) rfl (T_X1_comesBy_204 _ hI6607 v6612 v6613) ?_
      rintro _ _ ⟨g6614, rfl, hI6615, hF6616, v6617, rfl, hr6618⟩
      refine At.sti ?_
      have hF6619 := Fr.tr hF6611 hF6616 rfl rfl
      refine At.enter rfl ?_
      refine r_ifs 55 rfl (fun c6620 => ?_) (fun c6620 => ?_)
      · have c6620_ : v6617.toInt = 0 := en_k_eq_t c6620
        refine At.enter rfl ?_
        refine r_aload_n e6598 ?_
        refine r_iload_n e6599 ?_
        refine r_iload_n e6600 ?_
        refine r_callV 70 rfl [.ref 220, .int x6534, .int x6591] [] (Nat.le_of_ble_eq_true rfl) rfl (T_X7_change_220 _ hI6615 x6534 (by omega) x6591 (by omega)) ?_
        rintro _ _ ⟨g6621, rfl, hI6622, hF6623, rfl⟩
        refine At.stn ?_
        have hF6626 := Fr.tr hF6619 hF6623 rfl rfl
        refine At.enter rfl ?_
        refine q_iinc e6600 (x6591.toInt + 1) rfl (by omega) (fun v6627 hv6627 => ?_)
        refine r_goto ?_
        exact ih6597 (12 - v6627.toInt) _ _ ⟨v6627, by first | rfl | omega, hI6622, hF6626, (w_p1 (by decide) (Or.inr rfl) e6598), (w_p1 (by decide) (Or.inr rfl) e6599), (w_e1 _ _ _), by omega⟩ ⟨by omega, by omega⟩
      · have c6620_ : v6617.toInt ≠ 0 := en_k_eq_f c6620
        refine At.enter rfl ?_
        refine r_aload_n e6598 ?_
        refine r_iload_n e6599 ?_
        refine r_iload_n e6600 ?_
        refine r_iconst (-1) rfl ?_
        refine r_iconst (-1) rfl ?_
        refine r_iconst 1 rfl ?_
        refine r_callV 64 rfl [.ref 220, .int x6534, .int x6591, .int (-1), .int (-1), .int 1] [] (Nat.le_of_ble_eq_true rfl) rfl (T_X7_found_220 _ hI6615 x6534 x6591 (-1) (-1) 1 (by decide)) ?_
        rintro _ _ ⟨g6628, rfl, hI6629, hF6630, rfl⟩
        refine At.stn ?_
        have hF6633 := Fr.tr hF6619 hF6630 rfl rfl
        refine At.enter rfl ?_
        refine r_aload_n e6598 ?_
        refine r_iload_n e6599 ?_
        refine r_iload_n e6600 ?_
        refine r_callV 70 rfl [.ref 220, .int x6534, .int x6591] [] (Nat.le_of_ble_eq_true rfl) rfl (T_X7_change_220 _ hI6629 x6534 (by omega) x6591 (by omega)) ?_
        rintro _ _ ⟨g6634, rfl, hI6635, hF6636, rfl⟩
        refine At.stn ?_
        have hF6639 := Fr.tr hF6633 hF6636 rfl rfl
        refine At.enter rfl ?_
        refine q_iinc e6600 (x6591.toInt + 1) rfl (by omega) (fun v6640 hv6640 => ?_)
        refine r_goto ?_
        exact ih6597 (12 - v6640.toInt) _ _ ⟨v6640, by first | rfl | omega, hI6635, hF6639, (w_p1 (by decide) (Or.inr rfl) e6598), (w_p1 (by decide) (Or.inr rfl) e6599), (w_e1 _ _ _), by omega⟩ ⟨by omega, by omega⟩

def F_X7_tryTwo_220 : List (Nat × Nat) := [(185, 3), (204, 16), (204, 18), (220, 4)]
def A_X7_tryTwo_220 : List Nat := [205, 206, 210, 211, 212, 213, 214, 215, 216, 218, 221]
set_option maxRecDepth 100000 in
set_option maxHeartbeats 4000000 in
theorem T_X7_tryTwo_220 (d : Nat) {N : Nat} {g0 : List en_E} (hI0 : HI g0) : Ev (d + 6) 88 [.ref 220] (g0, N) (fun w h' => ∃ g', h' = (g', N) ∧ HI g' ∧ Fr F_X7_tryTwo_220 A_X7_tryTwo_220 g0 g' ∧ w = none) := by
  have hF0 : Fr F_X7_tryTwo_220 A_X7_tryTwo_220 g0 g0 := Fr.rf
  refine Ev.mk rfl rfl ⟨Nat.le_of_ble_eq_true rfl, Or.inr (q_rc hI0.1 kx_220 rfl)⟩ ?_
  show At _ none _ _ (0, [(0, .ref 220)], [], (_, _)) _
  refine At.enter rfl ?_
  refine r_iconst 0 rfl ?_
  refine r_istore_n ([(1, .int 0), (0, .ref 220)]) rfl ?_
  refine Ar.fall 2 rfl ?_
  have z_260994 : (0 : Int32).toInt = 0 := rfl
  refine w_loopI (fun n_ l_ g_ => ∃ x260984 : Int32, n_ = 12 - x260984.toInt ∧ HI g_ ∧ Fr F_X7_tryTwo_220 A_X7_tryTwo_220 g0 g_ ∧ en_get 0 l_ = some (.ref 220) ∧ en_get 1 l_ = some (.int x260984) ∧ (0 ≤ x260984.toInt ∧ x260984.toInt ≤ 12)) ?_ (12 - 0) ⟨0, by first | rfl | omega, hI0, hF0, rfl, rfl, by decide⟩
  rintro n260989 l260988 g260985 ⟨x260984, hm260995, hI260986, hF260987, e260991, e260992, r260993⟩ ih260990
  refine At.enter rfl ?_
  refine r_iload_n e260992 ?_
  refine r_aload_n e260991 ?_
  refine q_getR (Sh.ref hI260986.1 kx_220 rfl) ?_
  obtain ⟨v260996, hv260996⟩ : ∃ v, gI g0 1 0 = v := ⟨_, rfl⟩
  have rv260996 := RgF.at hI0.2.1 (p := 1) (b := 0) rfl
  rw [hv260996] at rv260996
  dsimp only at rv260996
  refine q_getI (Sh.int hI260986.1 kx_1 rfl) v260996 ((hF260987.1 1 0 (by decide)).trans hv260996) ?_
  have bv260998 := q_bnd x260984
  have bv260999 := q_bnd v260996
  refine r_ics 13 rfl (fun c260997 => ?_) (fun c260997 => ?_)
  · have c260997_ : x260984.toInt ≥ v260996.toInt := en_i_ge_t c260997
    refine At.enter rfl ?_
    refine r_vret ?_
    exact ⟨_, rfl, hI260986, hF260987, rfl⟩
  · have c260997_ : x260984.toInt < v260996.toInt := en_i_ge_f c260997
    refine At.enter rfl ?_
    refine r_iload_n e260992 ?_
    refine r_iconst 1 rfl ?_
    refine q_iadd (x260984.toInt + 1) rfl (by omega) (fun v261000 hv261000 => ?_)
    refine r_istore_n _ rfl ?_
    refine Ar.fall 17 rfl ?_
    refine w_loopI (fun n_ l_ g_ => ∃ x261419 : Int32, n_ = 12 - x261419.toInt ∧ HI g_ ∧ Fr F_X7_tryTwo_220 A_X7_tryTwo_220 g0 g_ ∧ en_get 0 l_ = some (.ref 220) ∧ en_get 1 l_ = some (.int x260984) ∧ en_get 2 l_ = some (.int x261419) ∧ (1 ≤ x261419.toInt ∧ x261419.toInt ≤ 12)) ?_ (12 - v261000.toInt) ⟨v261000, by first | rfl | omega, hI260986, hF260987, (w_p1 (by decide) (Or.inr rfl) e260991), (w_p1 (by decide) (Or.inr rfl) e260992), (w_e1 _ _ _), by omega⟩
    rintro n261424 l261423 g261420 ⟨x261419, hm261430, hI261421, hF261422, e261426, e261427, e261428, r261429⟩ ih261425
    refine At.enter rfl ?_
    refine r_iload_n e261428 ?_
    refine r_aload_n e261426 ?_
    refine q_getR (Sh.ref hI261421.1 kx_220 rfl) ?_
    refine q_getI (Sh.int hI261421.1 kx_1 rfl) v260996 ((hF261422.1 1 0 (by decide)).trans hv260996) ?_
    have bv261432 := q_bnd x261419
    refine r_ics 28 rfl (fun c261431 => ?_) (fun c261431 => ?_)
    · have c261431_ : x261419.toInt ≥ v260996.toInt := en_i_ge_t c261431
      refine At.enter rfl ?_
      refine q_iinc e261427 (x260984.toInt + 1) rfl (by omega) (fun v261433 hv261433 => ?_)
      refine r_goto ?_
      exact ih260990 (12 - v261433.toInt) _ _ ⟨v261433, by first | rfl | omega, hI261421, hF261422, (w_p1 (by decide) (Or.inr rfl) e261426), (w_e1 _ _ _), by omega⟩ ⟨by omega, by omega⟩
    · have c261431_ : x261419.toInt < v260996.toInt := en_i_ge_f c261431
      refine At.enter rfl ?_
      refine r_aload_n e261426 ?_
      refine r_iload_n e261427 ?_
      refine r_iload_n e261428 ?_
      refine r_callV 34 rfl [.ref 220, .int x260984, .int x261419] [] (Nat.le_of_ble_eq_true rfl) rfl (T_X7_change_220 _ hI261421 x260984 (by omega) x261419 (by omega)) ?_
      rintro _ _ ⟨g261434, rfl, hI261435, hF261436, rfl⟩
      refine At.stn ?_
      have hF261439 := Fr.tr hF261422 hF261436 rfl rfl
      refine At.enter rfl ?_
      refine r_iload_n e261427 ?_
      refine r_istore_n _ rfl ?_
      refine Ar.fall 36 rfl ?_
      refine w_loopI (fun n_ l_ g_ => ∃ x261704 : Int32, n_ = 12 - x261704.toInt ∧ HI g_ ∧ Fr F_X7_tryTwo_220 A_X7_tryTwo_220 g0 g_ ∧ en_get 0 l_ = some (.ref 220) ∧ en_get 1 l_ = some (.int x260984) ∧ en_get 2 l_ = some (.int x261419) ∧ en_get 3 l_ = some (.int x261704) ∧ (0 ≤ x261704.toInt ∧ x261704.toInt ≤ 12)) ?_ (12 - x260984.toInt) ⟨x260984, by first | rfl | omega, hI261435, hF261439, (w_p1 (by decide) (Or.inr rfl) e261426), (w_p1 (by decide) (Or.inr rfl) e261427), (w_p1 (by decide) (Or.inr rfl) e261428), (w_e1 _ _ _), by omega⟩
      rintro n261709 l261708 g261705 ⟨x261704, hm261716, hI261706, hF261707, e261711, e261712, e261713, e261714, r261715⟩ ih261710
      refine At.enter rfl ?_
      refine r_iload_n e261714 ?_
      refine r_aload_n e261711 ?_
      refine q_getR (Sh.ref hI261706.1 kx_220 rfl) ?_
      refine q_getI (Sh.int hI261706.1 kx_1 rfl) v260996 ((hF261707.1 1 0 (by decide)).trans hv260996) ?_
      have bv261718 := q_bnd x261704
      refine r_ics 47 rfl (fun c261717 => ?_) (fun c261717 => ?_)
      · have c261717_ : x261704.toInt ≥ v260996.toInt := en_i_ge_t c261717
        refine At.enter rfl ?_
        refine r_aload_n e261711 ?_
        refine r_iload_n e261712 ?_
        refine r_iload_n e261713 ?_
        refine r_callV 143 rfl [.ref 220, .int x260984, .int x261419] [] (Nat.le_of_ble_eq_true rfl) rfl (T_X7_change_220 _ hI261706 x260984 (by omega) x261419 (by omega)) ?_
        rintro _ _ ⟨g261719, rfl, hI261720, hF261721, rfl⟩
        refine At.stn ?_
        have hF261724 := Fr.tr hF261707 hF261721 rfl rfl
        refine At.enter rfl ?_
        refine q_iinc e261713 (x261419.toInt + 1) rfl (by omega) (fun v261725 hv261725 => ?_)
        refine r_goto ?_
        exact ih261425 (12 - v261725.toInt) _ _ ⟨v261725, by first | rfl | omega, hI261720, hF261724, (w_p1 (by decide) (Or.inr rfl) e261711), (w_p1 (by decide) (Or.inr rfl) e261712), (w_e1 _ _ _), by omega⟩ ⟨by omega, by omega⟩
      · have c261717_ : x261704.toInt < v260996.toInt := en_i_ge_f c261717
        refine At.enter rfl ?_
        refine r_iload_n e261714 ?_
        refine r_iconst 1 rfl ?_
        refine q_iadd (x261704.toInt + 1) rfl (by omega) (fun v261726 hv261726 => ?_)
        refine r_istore _ rfl ?_
        refine Ar.fall 52 rfl ?_
        refine w_loopI (fun n_ l_ g_ => ∃ x261781 : Int32, n_ = 12 - x261781.toInt ∧ HI g_ ∧ Fr F_X7_tryTwo_220 A_X7_tryTwo_220 g0 g_ ∧ en_get 0 l_ = some (.ref 220) ∧ en_get 1 l_ = some (.int x260984) ∧ en_get 2 l_ = some (.int x261419) ∧ en_get 3 l_ = some (.int x261704) ∧ en_get 4 l_ = some (.int x261781) ∧ (1 ≤ x261781.toInt ∧ x261781.toInt ≤ 12)) ?_ (12 - v261726.toInt) ⟨v261726, by first | rfl | omega, hI261706, hF261707, (w_p1 (by decide) (Or.inr rfl) e261711), (w_p1 (by decide) (Or.inr rfl) e261712), (w_p1 (by decide) (Or.inr rfl) e261713), (w_p1 (by decide) (Or.inr rfl) e261714), (w_e1 _ _ _), by omega⟩
        rintro n261786 l261785 g261782 ⟨x261781, hm261794, hI261783, hF261784, e261788, e261789, e261790, e261791, e261792, r261793⟩ ih261787
        refine At.enter rfl ?_
        refine r_iload e261792 ?_
        refine r_aload_n e261788 ?_
        refine q_getR (Sh.ref hI261783.1 kx_220 rfl) ?_
        refine q_getI (Sh.int hI261783.1 kx_1 rfl) v260996 ((hF261784.1 1 0 (by decide)).trans hv260996) ?_
        have bv261796 := q_bnd x261781
        refine r_ics 64 rfl (fun c261795 => ?_) (fun c261795 => ?_)
        · have c261795_ : x261781.toInt ≥ v260996.toInt := en_i_ge_t c261795
          refine At.enter rfl ?_
          refine q_iinc e261791 (x261704.toInt + 1) rfl (by omega) (fun v261797 hv261797 => ?_)
          refine r_goto ?_
          exact ih261710 (12 - v261797.toInt) _ _ ⟨v261797, by first | rfl | omega, hI261783, hF261784, (w_p1 (by decide) (Or.inr rfl) e261788), (w_p1 (by decide) (Or.inr rfl) e261789), (w_p1 (by decide) (Or.inr rfl) e261790), (w_e1 _ _ _), by omega⟩ ⟨by omega, by omega⟩
        · have c261795_ : x261781.toInt < v260996.toInt := en_i_ge_f c261795
          refine At.enter rfl ?_
          refine r_iload_n e261789 ?_
          refine r_iload_n e261790 ?_
          refine r_iload_n e261791 ?_
          refine r_iload e261792 ?_
          refine r_callS 72 rfl [.int x260984, .int x261419, .int x261704, .int x261781] [] (Nat.le_of_ble_eq_true rfl) rfl (T_X7_rowsLike _ hI261783 x260984 x261419 x261704 x261781) ?_
          rintro _ _ ⟨g261798, rfl, hI261799, hF261800, v261801, rfl, hr261802⟩
          refine At.sti ?_
          have hF261803 := Fr.tr hF261784 hF261800 rfl rfl
          refine At.enter rfl ?_
          refine r_istore _ rfl ?_
          refine r_aload_n (w_p1 (by decide) (Or.inr rfl) e261788) ?_
          refine r_iload_n (w_p1 (by decide) (Or.inr rfl) e261791) ?_
          refine r_iload (w_p1 (by decide) (Or.inr rfl) e261792) ?_
          refine r_callV 81 rfl [.ref 220, .int x261704, .int x261781] [] (Nat.le_of_ble_eq_true rfl) rfl (T_X7_change_220 _ hI261799 x261704 (by omega) x261781 (by omega)) ?_
          rintro _ _ ⟨g261804, rfl, hI261805, hF261806, rfl⟩
          refine At.stn ?_
          have hF261809 := Fr.tr hF261803 hF261806 rfl rfl
          refine At.enter rfl ?_
          refine r_iload (w_e1 _ _ _) ?_
          refine r_ifs 86 rfl (fun c261810 => ?_) (fun c261810 => ?_)
          · have c261810_ : v261801.toInt ≤ 0 := en_k_le_t c261810
            refine At.enter rfl ?_
            refine r_aload_n (w_p1 (by decide) (Or.inr rfl) e261788) ?_
            refine r_iload_n (w_p1 (by decide) (Or.inr rfl) e261791) ?_
            refine r_iload (w_p1 (by decide) (Or.inr rfl) e261792) ?_
            refine r_callV 125 rfl [.ref 220, .int x261704, .int x261781] [] (Nat.le_of_ble_eq_true rfl) rfl (T_X7_change_220 _ hI261805 x261704 (by omega) x261781 (by omega)) ?_
            rintro _ _ ⟨g261811, rfl, hI261812, hF261813, rfl⟩
            refine At.stn ?_
            have hF261816 := Fr.tr hF261809 hF261813 rfl rfl
            refine At.enter rfl ?_
            refine q_iinc (w_p1 (by decide) (Or.inr rfl) e261792) (x261781.toInt + 1) rfl (by omega) (fun v261817 hv261817 => ?_)
            refine r_goto ?_
            exact ih261787 (12 - v261817.toInt) _ _ ⟨v261817, by first | rfl | omega, hI261812, hF261816, (w_p1 (by decide) (Or.inr rfl) (w_p1 (by decide) (Or.inr rfl) e261788)), (w_p1 (by decide) (Or.inr rfl) (w_p1 (by decide) (Or.inr rfl) e261789)), (w_p1 (by decide) (Or.inr rfl) (w_p1 (by decide) (Or.inr rfl) e261790)), (w_p1 (by decide) (Or.inr rfl) (w_p1 (by decide) (Or.inr rfl) e261791)), (w_e1 _ _ _), by omega⟩ ⟨by omega, by omega⟩
          · have c261810_ : v261801.toInt > 0 := en_k_le_f c261810
            refine At.enter rfl ?_
            refine r_aload_n (w_p1 (by decide) (Or.inr rfl) e261788) ?_
            refine q_getR (Sh.ref hI261805.1 kx_220 rfl) ?_
            refine r_aload_n (w_p1 (by decide) (Or.inr rfl) e261788) ?_
            obtain ⟨v261818, hv261818⟩ : ∃ v, gI g0 220 2 = v := ⟨_, rfl⟩
            refine q_getI (Sh.int hI261805.1 kx_220 rfl) v261818 (((hF261806.1 220 2 (by decide)).trans ((hF261800.1 220 2 (by decide)).trans (hF261784.1 220 2 (by decide)))).trans hv261818) ?_
            refine r_aload_n (w_p1 (by decide) (Or.inr rfl) e261788) ?_
            refine q_getR (Sh.ref hI261805.1 kx_220 rfl) ?_
            obtain ⟨v261819, hv261819⟩ : ∃ v, gI g0 1 10 = v := ⟨_, rfl⟩
            refine q_getI (Sh.int hI261805.1 kx_1 rfl) v261819 (((hF261806.1 1 10 (by decide)).trans ((hF261800.1 1 10 (by decide)).trans (hF261784.1 1 10 (by decide)))).trans hv261819) ?_
            refine r_callV 104 rfl [.ref 204, .int v261818, .int v261819] [] (Nat.le_of_ble_eq_true rfl) rfl (T_X1_comesBy_204 _ hI261805 v261818 v261819) ?_
            rintro _ _ ⟨g261820, rfl, hI261821, hF261822, v261823, rfl, hr261824⟩
            refine At.sti ?_
            have hF261825 := Fr.tr hF261809 hF261822 rfl rfl
            refine At.enter rfl ?_
            refine r_ifs 107 rfl (fun c261826 => ?_) (fun c261826 => ?_)
            · have c261826_ : v261823.toInt = 0 := en_k_eq_t c261826
              refine At.enter rfl ?_
              refine r_aload_n (w_p1 (by decide) (Or.inr rfl) e261788) ?_
              refine r_iload_n (w_p1 (by decide) (Or.inr rfl) e261791) ?_
              refine r_iload (w_p1 (by decide) (Or.inr rfl) e261792) ?_
              refine r_callV 125 rfl [.ref 220, .int x261704, .int x261781] [] (Nat.le_of_ble_eq_true rfl) rfl (T_X7_change_220 _ hI261821 x261704 (by omega) x261781 (by omega)) ?_
              rintro _ _ ⟨g261827, rfl, hI261828, hF261829, rfl⟩
              refine At.stn ?_
              have hF261832 := Fr.tr hF261825 hF261829 rfl rfl
              refine At.enter rfl ?_
              refine q_iinc (w_p1 (by decide) (Or.inr rfl) e261792) (x261781.toInt + 1) rfl (by omega) (fun v261833 hv261833 => ?_)
              refine r_goto ?_
              exact ih261787 (12 - v261833.toInt) _ _ ⟨v261833, by first | rfl | omega, hI261828, hF261832, (w_p1 (by decide) (Or.inr rfl) (w_p1 (by decide) (Or.inr rfl) e261788)), (w_p1 (by decide) (Or.inr rfl) (w_p1 (by decide) (Or.inr rfl) e261789)), (w_p1 (by decide) (Or.inr rfl) (w_p1 (by decide) (Or.inr rfl) e261790)), (w_p1 (by decide) (Or.inr rfl) (w_p1 (by decide) (Or.inr rfl) e261791)), (w_e1 _ _ _), by omega⟩ ⟨by omega, by omega⟩
            · have c261826_ : v261823.toInt ≠ 0 := en_k_eq_f c261826
              refine At.enter rfl ?_
              refine r_aload_n (w_p1 (by decide) (Or.inr rfl) e261788) ?_
              refine r_iload_n (w_p1 (by decide) (Or.inr rfl) e261789) ?_
              refine r_iload_n (w_p1 (by decide) (Or.inr rfl) e261790) ?_
              refine r_iload_n (w_p1 (by decide) (Or.inr rfl) e261791) ?_
              refine r_iload (w_p1 (by decide) (Or.inr rfl) e261792) ?_
              refine r_iload (w_e1 _ _ _) ?_
              refine r_callV 118 rfl [.ref 220, .int x260984, .int x261419, .int x261704, .int x261781, .int v261801] [] (Nat.le_of_ble_eq_true rfl) rfl (T_X7_found_220 _ hI261821 x260984 x261419 x261704 x261781 v261801 (by omega)) ?_
              rintro _ _ ⟨g261834, rfl, hI261835, hF261836, rfl⟩
              refine At.stn ?_
              have hF261839 := Fr.tr hF261825 hF261836 rfl rfl
              refine At.enter rfl ?_
              refine r_aload_n (w_p1 (by decide) (Or.inr rfl) e261788) ?_
              refine r_iload_n (w_p1 (by decide) (Or.inr rfl) e261791) ?_
              refine r_iload (w_p1 (by decide) (Or.inr rfl) e261792) ?_
              refine r_callV 125 rfl [.ref 220, .int x261704, .int x261781] [] (Nat.le_of_ble_eq_true rfl) rfl (T_X7_change_220 _ hI261835 x261704 (by omega) x261781 (by omega)) ?_
              rintro _ _ ⟨g261840, rfl, hI261841, hF261842, rfl⟩
              refine At.stn ?_
              have hF261845 := Fr.tr hF261839 hF261842 rfl rfl
              refine At.enter rfl ?_
              refine q_iinc (w_p1 (by decide) (Or.inr rfl) e261792) (x261781.toInt + 1) rfl (by omega) (fun v261846 hv261846 => ?_)
              refine r_goto ?_
              exact ih261787 (12 - v261846.toInt) _ _ ⟨v261846, by first | rfl | omega, hI261841, hF261845, (w_p1 (by decide) (Or.inr rfl) (w_p1 (by decide) (Or.inr rfl) e261788)), (w_p1 (by decide) (Or.inr rfl) (w_p1 (by decide) (Or.inr rfl) e261789)), (w_p1 (by decide) (Or.inr rfl) (w_p1 (by decide) (Or.inr rfl) e261790)), (w_p1 (by decide) (Or.inr rfl) (w_p1 (by decide) (Or.inr rfl) e261791)), (w_e1 _ _ _), by omega⟩ ⟨by omega, by omega⟩

def F_X7_told_220 : List (Nat × Nat) := [(185, 3), (204, 16), (204, 18), (220, 2), (220, 3), (220, 4)]
def A_X7_told_220 : List Nat := [205, 206, 207, 208, 209, 210, 211, 212, 213, 214, 215, 216, 218, 221]
set_option maxRecDepth 100000 in
set_option maxHeartbeats 4000000 in
theorem T_X7_told_220 (d : Nat) {N : Nat} {g0 : List en_E} (hI0 : HI g0) (a1 : Int32) (a2 : Int32) : Ev (d + 7) 85 [.ref 220, .int a1, .int a2] (g0, N) (fun w h' => ∃ g', h' = (g', N) ∧ HI g' ∧ Fr F_X7_told_220 A_X7_told_220 g0 g' ∧ ∃ r : Int32, w = some (.int r) ∧ True) := by
  have hF0 : Fr F_X7_told_220 A_X7_told_220 g0 g0 := Fr.rf
  refine Ev.mk rfl rfl ⟨Nat.le_of_ble_eq_true rfl, Or.inr (q_rc hI0.1 kx_220 rfl)⟩ ?_
  show At _ none _ _ (0, [(0, .ref 220), (1, .int a1), (2, .int a2)], [], (_, _)) _
  refine At.enter rfl ?_
  refine r_aload_n rfl ?_
  obtain ⟨v245, hv245⟩ : ∃ v, gI g0 220 2 = v := ⟨_, rfl⟩
  refine q_getI (Sh.int hI0.1 kx_220 rfl) v245 hv245 ?_
  refine r_iload_n rfl ?_
  refine r_ics 8 rfl (fun c246 => ?_) (fun c246 => ?_)
  · have c246_ : v245.toInt = a1.toInt := en_i_eq_t c246
    refine At.enter rfl ?_
    refine r_iload_n rfl ?_
    refine r_ifs 83 rfl (fun c247 => ?_) (fun c247 => ?_)
    · have c247_ : a2.toInt ≠ 0 := en_k_ne_t c247
      refine At.enter rfl ?_
      refine r_iload_n rfl ?_
      refine r_iconst 5 rfl ?_
      refine r_ics 93 rfl (fun c248 => ?_) (fun c248 => ?_)
      · have c248_ : a2.toInt ≠ 5 := en_i_ne_t c248
        refine At.enter rfl ?_
        refine r_iload_n rfl ?_
        refine r_iconst 1 rfl ?_
        refine r_ics 103 rfl (fun c249 => ?_) (fun c249 => ?_)
        · have c249_ : a2.toInt < 1 := en_i_lt_t c249
          refine At.enter rfl ?_
          refine r_iconst (-1) rfl ?_
          refine Ar.fall 130 rfl ?_
          refine At.enter rfl ?_
          refine r_ireti ?_
          exact ⟨_, rfl, hI0, hF0, _, rfl, trivial⟩
        · have c249_ : a2.toInt ≥ 1 := en_i_lt_f c249
          refine At.enter rfl ?_
          refine r_iload_n rfl ?_
          refine r_iconst 4 rfl ?_
          refine r_ics 108 rfl (fun c250 => ?_) (fun c250 => ?_)
          · have c250_ : a2.toInt > 4 := en_i_gt_t c250
            refine At.enter rfl ?_
            refine r_iconst (-1) rfl ?_
            refine Ar.fall 130 rfl ?_
            refine At.enter rfl ?_
            refine r_ireti ?_
            exact ⟨_, rfl, hI0, hF0, _, rfl, trivial⟩
          · have c250_ : a2.toInt ≤ 4 := en_i_gt_f c250
            refine At.enter rfl ?_
            refine r_iload_n rfl ?_
            refine r_iconst 2 rfl ?_
            refine r_aload_n rfl ?_
            obtain ⟨v251, hv251⟩ : ∃ v, gI g0 220 3 = v := ⟨_, rfl⟩
            refine q_getI (Sh.int hI0.1 kx_220 rfl) v251 hv251 ?_
            refine q_imulO (fun v252 _ => ?_)
            have bv254 := q_bnd a2
            have bv255 := q_bnd v252
            refine r_ics 118 rfl (fun c253 => ?_) (fun c253 => ?_)
            · have c253_ : a2.toInt > v252.toInt := en_i_gt_t c253
              refine At.enter rfl ?_
              refine r_iconst (-1) rfl ?_
              refine Ar.fall 130 rfl ?_
              refine At.enter rfl ?_
              refine r_ireti ?_
              exact ⟨_, rfl, hI0, hF0, _, rfl, trivial⟩
            · have c253_ : a2.toInt ≤ v252.toInt := en_i_gt_f c253
              refine At.enter rfl ?_
              refine r_aload_n rfl ?_
              refine q_getR (Sh.ref hI0.1 kx_220 rfl) ?_
              refine r_iload_n rfl ?_
              refine r_iconst 1 rfl ?_
              refine q_isub (a2.toInt - 1) rfl (by omega) (fun v256 hv256 => ?_)
              obtain ⟨v257, hv257⟩ : ∃ v, eA g0 221 (a2.toInt + (-1)) = v := ⟨_, rfl⟩
              refine q_iald (Sh.arr hI0.1 ka_221) (a2.toInt + (-1)) (by omega) (by omega) v257 hv257 ?_
              refine r_goto ?_
              refine At.enter rfl ?_
              refine r_ireti ?_
              exact ⟨_, rfl, hI0, hF0, _, rfl, trivial⟩
      · have c248_ : a2.toInt = 5 := en_i_ne_f c248
        refine At.enter rfl ?_
        refine r_aload_n rfl ?_
        obtain ⟨v258, hv258⟩ : ∃ v, gI g0 220 4 = v := ⟨_, rfl⟩
        refine q_getI (Sh.int hI0.1 kx_220 rfl) v258 hv258 ?_
        refine r_ireti ?_
        exact ⟨_, rfl, hI0, hF0, _, rfl, trivial⟩
    · have c247_ : a2.toInt = 0 := en_k_ne_f c247
      refine At.enter rfl ?_
      refine r_aload_n rfl ?_
      obtain ⟨v259, hv259⟩ : ∃ v, gI g0 220 3 = v := ⟨_, rfl⟩
      refine q_getI (Sh.int hI0.1 kx_220 rfl) v259 hv259 ?_
      refine r_ireti ?_
      exact ⟨_, rfl, hI0, hF0, _, rfl, trivial⟩
  · have c246_ : v245.toInt ≠ a1.toInt := en_i_eq_f c246
    refine At.enter rfl ?_
    refine r_aload_n rfl ?_
    refine r_iload_n rfl ?_
    refine q_putI (Sh.int hI0.1 kx_220 rfl) rfl ?_
    have hI260 := HI.wI0 hI0 kx_220 rfl (p := 220) (b := 2) (v := a1) rfl
    have hF261 := Fr.wI (p := 220) (b := 2) (v := a1) hF0 rfl
    refine r_aload_n rfl ?_
    refine r_iconst 0 rfl ?_
    refine q_putI (Sh.int hI260.1 kx_220 rfl) rfl ?_
    have hI262 := HI.wI0 hI260 kx_220 rfl (p := 220) (b := 4) (v := 0) rfl
    have hF263 := Fr.wI (p := 220) (b := 4) (v := 0) hF261 rfl
    refine r_aload_n rfl ?_
    refine q_getR (Sh.ref hI262.1 kx_220 rfl) ?_
    refine r_iconst 0 rfl ?_
    refine r_callV 26 rfl [.ref 204, .int 0] [] (Nat.le_of_ble_eq_true rfl) rfl (T_X1_layOut_204 _ hI262 0) ?_
    rintro _ _ ⟨g264, rfl, hI265, hF266, rfl⟩
    refine At.stn ?_
    have hF269 := Fr.tr hF263 hF266 rfl rfl
    refine At.enter rfl ?_
    refine r_aload_n rfl ?_
    refine r_iconst 0 rfl ?_
    refine q_putI (Sh.int hI265.1 kx_220 rfl) rfl ?_
    have hI270 := HI.wI0 hI265 kx_220 rfl (p := 220) (b := 3) (v := 0) rfl
    have hF271 := Fr.wI (p := 220) (b := 3) (v := 0) hF269 rfl
    refine r_aload_n rfl ?_
    refine r_callV 35 rfl [.ref 220] [] (Nat.le_of_ble_eq_true rfl) rfl (T_X7_tryNone_220 _ hI270) ?_
    rintro _ _ ⟨g272, rfl, hI273, hF274, rfl⟩
    refine At.stn ?_
    have hF277 := Fr.tr hF271 hF274 rfl rfl
    refine At.enter rfl ?_
    refine r_aload_n rfl ?_
    obtain ⟨v278, hv278⟩ : ∃ v, gI g272 220 4 = v := ⟨_, rfl⟩
    refine q_getI (Sh.int hI273.1 kx_220 rfl) v278 hv278 ?_
    refine r_ifs 42 rfl (fun c279 => ?_) (fun c279 => ?_)
    · have c279_ : v278.toInt ≠ 0 := en_k_ne_t c279
      refine At.enter rfl ?_
      refine r_aload_n rfl ?_
      refine q_getI (Sh.int hI273.1 kx_220 rfl) v278 hv278 ?_
      refine r_ifs 58 rfl (fun c280 => ?_) (fun c280 => ?_)
      · have c280_ : v278.toInt ≠ 0 := en_k_ne_t c280
        refine At.enter rfl ?_
        refine r_aload_n rfl ?_
        refine q_getI (Sh.int hI273.1 kx_220 rfl) v278 hv278 ?_
        refine r_ifs 74 rfl (fun c281 => ?_) (fun c281 => ?_)
        · have c281_ : v278.toInt ≠ 0 := en_k_ne_t c281
          refine At.enter rfl ?_
          refine r_iload_n rfl ?_
          refine r_ifs 83 rfl (fun c282 => ?_) (fun c282 => ?_)
          · have c282_ : a2.toInt ≠ 0 := en_k_ne_t c282
            refine At.enter rfl ?_
            refine r_iload_n rfl ?_
            refine r_iconst 5 rfl ?_
            refine r_ics 93 rfl (fun c283 => ?_) (fun c283 => ?_)
            · have c283_ : a2.toInt ≠ 5 := en_i_ne_t c283
              refine At.enter rfl ?_
              refine r_iload_n rfl ?_
              refine r_iconst 1 rfl ?_
              refine r_ics 103 rfl (fun c284 => ?_) (fun c284 => ?_)
              · have c284_ : a2.toInt < 1 := en_i_lt_t c284
                refine At.enter rfl ?_
                refine r_iconst (-1) rfl ?_
                refine Ar.fall 130 rfl ?_
                refine At.enter rfl ?_
                refine r_ireti ?_
                exact ⟨_, rfl, hI273, hF277, _, rfl, trivial⟩
              · have c284_ : a2.toInt ≥ 1 := en_i_lt_f c284
                refine At.enter rfl ?_
                refine r_iload_n rfl ?_
                refine r_iconst 4 rfl ?_
                refine r_ics 108 rfl (fun c285 => ?_) (fun c285 => ?_)
                · have c285_ : a2.toInt > 4 := en_i_gt_t c285
                  refine At.enter rfl ?_
                  refine r_iconst (-1) rfl ?_
                  refine Ar.fall 130 rfl ?_
                  refine At.enter rfl ?_
                  refine r_ireti ?_
                  exact ⟨_, rfl, hI273, hF277, _, rfl, trivial⟩
                · have c285_ : a2.toInt ≤ 4 := en_i_gt_f c285
                  refine At.enter rfl ?_
                  refine r_iload_n rfl ?_
                  refine r_iconst 2 rfl ?_
                  refine r_aload_n rfl ?_
                  refine q_getI (Sh.int hI273.1 kx_220 rfl) 0 ((hF274.1 220 3 (by decide)).trans (gI_sI_eq hI265.1 kx_220 rfl _)) ?_
                  refine r_imul 0 (by decide) ?_
                  refine r_ics 118 rfl (fun c286 => ?_) (fun c286 => ?_)
                  · have c286_ : a2.toInt > 0 := en_i_gt_t c286
                    refine At.enter rfl ?_
                    refine r_iconst (-1) rfl ?_
                    refine Ar.fall 130 rfl ?_
                    refine At.enter rfl ?_
                    refine r_ireti ?_
                    exact ⟨_, rfl, hI273, hF277, _, rfl, trivial⟩
                  · have c286_ : a2.toInt ≤ 0 := en_i_gt_f c286
                    exfalso; omega
            · have c283_ : a2.toInt = 5 := en_i_ne_f c283
              refine At.enter rfl ?_
              refine r_aload_n rfl ?_
              refine q_getI (Sh.int hI273.1 kx_220 rfl) v278 hv278 ?_
              refine r_ireti ?_
              exact ⟨_, rfl, hI273, hF277, _, rfl, trivial⟩
          · have c282_ : a2.toInt = 0 := en_k_ne_f c282
            refine At.enter rfl ?_
            refine r_aload_n rfl ?_
            refine q_getI (Sh.int hI273.1 kx_220 rfl) 0 ((hF274.1 220 3 (by decide)).trans (gI_sI_eq hI265.1 kx_220 rfl _)) ?_
            refine r_ireti ?_
            exact ⟨_, rfl, hI273, hF277, _, rfl, trivial⟩
        · have c281_ : v278.toInt = 0 := en_k_ne_f c281
          refine At.enter rfl ?_
          refine r_aload_n rfl ?_
          refine r_iconst (-1) rfl ?_
          refine q_putI (Sh.int hI273.1 kx_220 rfl) rfl ?_
          have hI287 := HI.wI0 hI273 kx_220 rfl (p := 220) (b := 3) (v := (-1)) rfl
          have hF288 := Fr.wI (p := 220) (b := 3) (v := (-1)) hF277 rfl
          refine Ar.fall 79 rfl ?_
          refine At.enter rfl ?_
          refine r_iload_n rfl ?_
          refine r_ifs 83 rfl (fun c289 => ?_) (fun c289 => ?_)
          · have c289_ : a2.toInt ≠ 0 := en_k_ne_t c289
            refine At.enter rfl ?_
            refine r_iload_n rfl ?_
            refine r_iconst 5 rfl ?_
            refine r_ics 93 rfl (fun c290 => ?_) (fun c290 => ?_)
            · have c290_ : a2.toInt ≠ 5 := en_i_ne_t c290
              refine At.enter rfl ?_
              refine r_iload_n rfl ?_
              refine r_iconst 1 rfl ?_
              refine r_ics 103 rfl (fun c291 => ?_) (fun c291 => ?_)
              · have c291_ : a2.toInt < 1 := en_i_lt_t c291
                refine At.enter rfl ?_
                refine r_iconst (-1) rfl ?_
                refine Ar.fall 130 rfl ?_
                refine At.enter rfl ?_
                refine r_ireti ?_
                exact ⟨_, rfl, hI287, hF288, _, rfl, trivial⟩
              · have c291_ : a2.toInt ≥ 1 := en_i_lt_f c291
                refine At.enter rfl ?_
                refine r_iload_n rfl ?_
                refine r_iconst 4 rfl ?_
                refine r_ics 108 rfl (fun c292 => ?_) (fun c292 => ?_)
                · have c292_ : a2.toInt > 4 := en_i_gt_t c292
                  refine At.enter rfl ?_
                  refine r_iconst (-1) rfl ?_
                  refine Ar.fall 130 rfl ?_
                  refine At.enter rfl ?_
                  refine r_ireti ?_
                  exact ⟨_, rfl, hI287, hF288, _, rfl, trivial⟩
                · have c292_ : a2.toInt ≤ 4 := en_i_gt_f c292
                  refine At.enter rfl ?_
                  refine r_iload_n rfl ?_
                  refine r_iconst 2 rfl ?_
                  refine r_aload_n rfl ?_
                  refine q_getI (Sh.int hI287.1 kx_220 rfl) (-1) (gI_sI_eq hI273.1 kx_220 rfl _) ?_
                  refine r_imul (-2) (by decide) ?_
                  refine r_ics 118 rfl (fun c293 => ?_) (fun c293 => ?_)
                  · have c293_ : a2.toInt > (-2) := en_i_gt_t c293
                    refine At.enter rfl ?_
                    refine r_iconst (-1) rfl ?_
                    refine Ar.fall 130 rfl ?_
                    refine At.enter rfl ?_
                    refine r_ireti ?_
                    exact ⟨_, rfl, hI287, hF288, _, rfl, trivial⟩
                  · have c293_ : a2.toInt ≤ (-2) := en_i_gt_f c293
                    exfalso; omega
            · have c290_ : a2.toInt = 5 := en_i_ne_f c290
              refine At.enter rfl ?_
              refine r_aload_n rfl ?_
              refine q_getI (Sh.int hI287.1 kx_220 rfl) v278 ((gI_sI_ne (by decide)).trans hv278) ?_
              refine r_ireti ?_
              exact ⟨_, rfl, hI287, hF288, _, rfl, trivial⟩
          · have c289_ : a2.toInt = 0 := en_k_ne_f c289
            refine At.enter rfl ?_
            refine r_aload_n rfl ?_
            refine q_getI (Sh.int hI287.1 kx_220 rfl) (-1) (gI_sI_eq hI273.1 kx_220 rfl _) ?_
            refine r_ireti ?_
            exact ⟨_, rfl, hI287, hF288, _, rfl, trivial⟩
      · have c280_ : v278.toInt = 0 := en_k_ne_f c280
        refine At.enter rfl ?_
        refine r_aload_n rfl ?_
        refine r_iconst 2 rfl ?_
        refine q_putI (Sh.int hI273.1 kx_220 rfl) rfl ?_
        have hI294 := HI.wI0 hI273 kx_220 rfl (p := 220) (b := 3) (v := 2) rfl
        have hF295 := Fr.wI (p := 220) (b := 3) (v := 2) hF277 rfl
        refine r_aload_n rfl ?_
        refine r_callV 67 rfl [.ref 220] [] (Nat.le_of_ble_eq_true rfl) rfl (T_X7_tryTwo_220 _ hI294) ?_
        rintro _ _ ⟨g296, rfl, hI297, hF298, rfl⟩
        refine At.stn ?_
        have hF301 := Fr.tr hF295 hF298 rfl rfl
        refine At.enter rfl ?_
        refine r_aload_n rfl ?_
        obtain ⟨v302, hv302⟩ : ∃ v, gI g296 220 4 = v := ⟨_, rfl⟩
        refine q_getI (Sh.int hI297.1 kx_220 rfl) v302 hv302 ?_
        refine r_ifs 74 rfl (fun c303 => ?_) (fun c303 => ?_)
        · have c303_ : v302.toInt ≠ 0 := en_k_ne_t c303
          refine At.enter rfl ?_
          refine r_iload_n rfl ?_
          refine r_ifs 83 rfl (fun c304 => ?_) (fun c304 => ?_)
          · have c304_ : a2.toInt ≠ 0 := en_k_ne_t c304
            refine At.enter rfl ?_
            refine r_iload_n rfl ?_
            refine r_iconst 5 rfl ?_
            refine r_ics 93 rfl (fun c305 => ?_) (fun c305 => ?_)
            · have c305_ : a2.toInt ≠ 5 := en_i_ne_t c305
              refine At.enter rfl ?_
              refine r_iload_n rfl ?_
              refine r_iconst 1 rfl ?_
              refine r_ics 103 rfl (fun c306 => ?_) (fun c306 => ?_)
              · have c306_ : a2.toInt < 1 := en_i_lt_t c306
                refine At.enter rfl ?_
                refine r_iconst (-1) rfl ?_
                refine Ar.fall 130 rfl ?_
                refine At.enter rfl ?_
                refine r_ireti ?_
                exact ⟨_, rfl, hI297, hF301, _, rfl, trivial⟩
              · have c306_ : a2.toInt ≥ 1 := en_i_lt_f c306
                refine At.enter rfl ?_
                refine r_iload_n rfl ?_
                refine r_iconst 4 rfl ?_
                refine r_ics 108 rfl (fun c307 => ?_) (fun c307 => ?_)
                · have c307_ : a2.toInt > 4 := en_i_gt_t c307
                  refine At.enter rfl ?_
                  refine r_iconst (-1) rfl ?_
                  refine Ar.fall 130 rfl ?_
                  refine At.enter rfl ?_
                  refine r_ireti ?_
                  exact ⟨_, rfl, hI297, hF301, _, rfl, trivial⟩
                · have c307_ : a2.toInt ≤ 4 := en_i_gt_f c307
                  refine At.enter rfl ?_
                  refine r_iload_n rfl ?_
                  refine r_iconst 2 rfl ?_
                  refine r_aload_n rfl ?_
                  refine q_getI (Sh.int hI297.1 kx_220 rfl) 2 ((hF298.1 220 3 (by decide)).trans (gI_sI_eq hI273.1 kx_220 rfl _)) ?_
                  refine r_imul 4 (by decide) ?_
                  refine r_ics 118 rfl (fun c308 => ?_) (fun c308 => ?_)
                  · have c308_ : a2.toInt > 4 := en_i_gt_t c308
                    exfalso; omega
                  · have c308_ : a2.toInt ≤ 4 := en_i_gt_f c308
                    refine At.enter rfl ?_
                    refine r_aload_n rfl ?_
                    refine q_getR (Sh.ref hI297.1 kx_220 rfl) ?_
                    refine r_iload_n rfl ?_
                    refine r_iconst 1 rfl ?_
                    refine q_isub (a2.toInt - 1) rfl (by omega) (fun v309 hv309 => ?_)
                    obtain ⟨v310, hv310⟩ : ∃ v, eA g296 221 (a2.toInt + (-1)) = v := ⟨_, rfl⟩
                    refine q_iald (Sh.arr hI297.1 ka_221) (a2.toInt + (-1)) (by omega) (by omega) v310 hv310 ?_
                    refine r_goto ?_
                    refine At.enter rfl ?_
                    refine r_ireti ?_
                    exact ⟨_, rfl, hI297, hF301, _, rfl, trivial⟩
            · have c305_ : a2.toInt = 5 := en_i_ne_f c305
              refine At.enter rfl ?_
              refine r_aload_n rfl ?_
              refine q_getI (Sh.int hI297.1 kx_220 rfl) v302 hv302 ?_
              refine r_ireti ?_
              exact ⟨_, rfl, hI297, hF301, _, rfl, trivial⟩
          · have c304_ : a2.toInt = 0 := en_k_ne_f c304
            refine At.enter rfl ?_
            refine r_aload_n rfl ?_
            refine q_getI (Sh.int hI297.1 kx_220 rfl) 2 ((hF298.1 220 3 (by decide)).trans (gI_sI_eq hI273.1 kx_220 rfl _)) ?_
            refine r_ireti ?_
            exact ⟨_, rfl, hI297, hF301, _, rfl, trivial⟩
        · have c303_ : v302.toInt = 0 := en_k_ne_f c303
          refine At.enter rfl ?_
          refine r_aload_n rfl ?_
          refine r_iconst (-1) rfl ?_
          refine q_putI (Sh.int hI297.1 kx_220 rfl) rfl ?_
          have hI311 := HI.wI0 hI297 kx_220 rfl (p := 220) (b := 3) (v := (-1)) rfl
          have hF312 := Fr.wI (p := 220) (b := 3) (v := (-1)) hF301 rfl
          refine Ar.fall 79 rfl ?_
          refine At.enter rfl ?_
          refine r_iload_n rfl ?_
          refine r_ifs 83 rfl (fun c313 => ?_) (fun c313 => ?_)
          · have c313_ : a2.toInt ≠ 0 := en_k_ne_t c313
            refine At.enter rfl ?_
            refine r_iload_n rfl ?_
            refine r_iconst 5 rfl ?_
            refine r_ics 93 rfl (fun c314 => ?_) (fun c314 => ?_)
            · have c314_ : a2.toInt ≠ 5 := en_i_ne_t c314
              refine At.enter rfl ?_
              refine r_iload_n rfl ?_
              refine r_iconst 1 rfl ?_
              refine r_ics 103 rfl (fun c315 => ?_) (fun c315 => ?_)
              · have c315_ : a2.toInt < 1 := en_i_lt_t c315
                refine At.enter rfl ?_
                refine r_iconst (-1) rfl ?_
                refine Ar.fall 130 rfl ?_
                refine At.enter rfl ?_
                refine r_ireti ?_
                exact ⟨_, rfl, hI311, hF312, _, rfl, trivial⟩
              · have c315_ : a2.toInt ≥ 1 := en_i_lt_f c315
                refine At.enter rfl ?_
                refine r_iload_n rfl ?_
                refine r_iconst 4 rfl ?_
                refine r_ics 108 rfl (fun c316 => ?_) (fun c316 => ?_)
                · have c316_ : a2.toInt > 4 := en_i_gt_t c316
                  refine At.enter rfl ?_
                  refine r_iconst (-1) rfl ?_
                  refine Ar.fall 130 rfl ?_
                  refine At.enter rfl ?_
                  refine r_ireti ?_
                  exact ⟨_, rfl, hI311, hF312, _, rfl, trivial⟩
                · have c316_ : a2.toInt ≤ 4 := en_i_gt_f c316
                  refine At.enter rfl ?_
                  refine r_iload_n rfl ?_
                  refine r_iconst 2 rfl ?_
                  refine r_aload_n rfl ?_
                  refine q_getI (Sh.int hI311.1 kx_220 rfl) (-1) (gI_sI_eq hI297.1 kx_220 rfl _) ?_
                  refine r_imul (-2) (by decide) ?_
                  refine r_ics 118 rfl (fun c317 => ?_) (fun c317 => ?_)
                  · have c317_ : a2.toInt > (-2) := en_i_gt_t c317
                    refine At.enter rfl ?_
                    refine r_iconst (-1) rfl ?_
                    refine Ar.fall 130 rfl ?_
                    refine At.enter rfl ?_
                    refine r_ireti ?_
                    exact ⟨_, rfl, hI311, hF312, _, rfl, trivial⟩
                  · have c317_ : a2.toInt ≤ (-2) := en_i_gt_f c317
                    exfalso; omega
            · have c314_ : a2.toInt = 5 := en_i_ne_f c314
              refine At.enter rfl ?_
              refine r_aload_n rfl ?_
              refine q_getI (Sh.int hI311.1 kx_220 rfl) v302 ((gI_sI_ne (by decide)).trans hv302) ?_
              refine r_ireti ?_
              exact ⟨_, rfl, hI311, hF312, _, rfl, trivial⟩
          · have c313_ : a2.toInt = 0 := en_k_ne_f c313
            refine At.enter rfl ?_
            refine r_aload_n rfl ?_
            refine q_getI (Sh.int hI311.1 kx_220 rfl) (-1) (gI_sI_eq hI297.1 kx_220 rfl _) ?_
            refine r_ireti ?_
            exact ⟨_, rfl, hI311, hF312, _, rfl, trivial⟩
    · have c279_ : v278.toInt = 0 := en_k_ne_f c279
      refine At.enter rfl ?_
      refine r_aload_n rfl ?_
      refine r_iconst 1 rfl ?_
      refine q_putI (Sh.int hI273.1 kx_220 rfl) rfl ?_
      have hI318 := HI.wI0 hI273 kx_220 rfl (p := 220) (b := 3) (v := 1) rfl
      have hF319 := Fr.wI (p := 220) (b := 3) (v := 1) hF277 rfl
      refine r_aload_n rfl ?_
      refine r_callV 51 rfl [.ref 220] [] (Nat.le_of_ble_eq_true rfl) rfl (T_X7_tryOne_220 _ hI318) ?_
      rintro _ _ ⟨g320, rfl, hI321, hF322, rfl⟩
      refine At.stn ?_
      have hF325 := Fr.tr hF319 hF322 rfl rfl
      refine At.enter rfl ?_
      refine r_aload_n rfl ?_
      obtain ⟨v326, hv326⟩ : ∃ v, gI g320 220 4 = v := ⟨_, rfl⟩
      refine q_getI (Sh.int hI321.1 kx_220 rfl) v326 hv326 ?_
      refine r_ifs 58 rfl (fun c327 => ?_) (fun c327 => ?_)
      · have c327_ : v326.toInt ≠ 0 := en_k_ne_t c327
        refine At.enter rfl ?_
        refine r_aload_n rfl ?_
        refine q_getI (Sh.int hI321.1 kx_220 rfl) v326 hv326 ?_
        refine r_ifs 74 rfl (fun c328 => ?_) (fun c328 => ?_)
        · have c328_ : v326.toInt ≠ 0 := en_k_ne_t c328
          refine At.enter rfl ?_
          refine r_iload_n rfl ?_
          refine r_ifs 83 rfl (fun c329 => ?_) (fun c329 => ?_)
          · have c329_ : a2.toInt ≠ 0 := en_k_ne_t c329
            refine At.enter rfl ?_
            refine r_iload_n rfl ?_
            refine r_iconst 5 rfl ?_
            refine r_ics 93 rfl (fun c330 => ?_) (fun c330 => ?_)
            · have c330_ : a2.toInt ≠ 5 := en_i_ne_t c330
              refine At.enter rfl ?_
              refine r_iload_n rfl ?_
              refine r_iconst 1 rfl ?_
              refine r_ics 103 rfl (fun c331 => ?_) (fun c331 => ?_)
              · have c331_ : a2.toInt < 1 := en_i_lt_t c331
                refine At.enter rfl ?_
                refine r_iconst (-1) rfl ?_
                refine Ar.fall 130 rfl ?_
                refine At.enter rfl ?_
                refine r_ireti ?_
                exact ⟨_, rfl, hI321, hF325, _, rfl, trivial⟩
              · have c331_ : a2.toInt ≥ 1 := en_i_lt_f c331
                refine At.enter rfl ?_
                refine r_iload_n rfl ?_
                refine r_iconst 4 rfl ?_
                refine r_ics 108 rfl (fun c332 => ?_) (fun c332 => ?_)
                · have c332_ : a2.toInt > 4 := en_i_gt_t c332
                  refine At.enter rfl ?_
                  refine r_iconst (-1) rfl ?_
                  refine Ar.fall 130 rfl ?_
                  refine At.enter rfl ?_
                  refine r_ireti ?_
                  exact ⟨_, rfl, hI321, hF325, _, rfl, trivial⟩
                · have c332_ : a2.toInt ≤ 4 := en_i_gt_f c332
                  refine At.enter rfl ?_
                  refine r_iload_n rfl ?_
                  refine r_iconst 2 rfl ?_
                  refine r_aload_n rfl ?_
                  refine q_getI (Sh.int hI321.1 kx_220 rfl) 1 ((hF322.1 220 3 (by decide)).trans (gI_sI_eq hI273.1 kx_220 rfl _)) ?_
                  refine r_imul 2 (by decide) ?_
                  refine r_ics 118 rfl (fun c333 => ?_) (fun c333 => ?_)
                  · have c333_ : a2.toInt > 2 := en_i_gt_t c333
                    refine At.enter rfl ?_
                    refine r_iconst (-1) rfl ?_
                    refine Ar.fall 130 rfl ?_
                    refine At.enter rfl ?_
                    refine r_ireti ?_
                    exact ⟨_, rfl, hI321, hF325, _, rfl, trivial⟩
                  · have c333_ : a2.toInt ≤ 2 := en_i_gt_f c333
                    refine At.enter rfl ?_
                    refine r_aload_n rfl ?_
                    refine q_getR (Sh.ref hI321.1 kx_220 rfl) ?_
                    refine r_iload_n rfl ?_
                    refine r_iconst 1 rfl ?_
                    refine q_isub (a2.toInt - 1) rfl (by omega) (fun v334 hv334 => ?_)
                    obtain ⟨v335, hv335⟩ : ∃ v, eA g320 221 (a2.toInt + (-1)) = v := ⟨_, rfl⟩
                    refine q_iald (Sh.arr hI321.1 ka_221) (a2.toInt + (-1)) (by omega) (by omega) v335 hv335 ?_
                    refine r_goto ?_
                    refine At.enter rfl ?_
                    refine r_ireti ?_
                    exact ⟨_, rfl, hI321, hF325, _, rfl, trivial⟩
            · have c330_ : a2.toInt = 5 := en_i_ne_f c330
              refine At.enter rfl ?_
              refine r_aload_n rfl ?_
              refine q_getI (Sh.int hI321.1 kx_220 rfl) v326 hv326 ?_
              refine r_ireti ?_
              exact ⟨_, rfl, hI321, hF325, _, rfl, trivial⟩
          · have c329_ : a2.toInt = 0 := en_k_ne_f c329
            refine At.enter rfl ?_
            refine r_aload_n rfl ?_
            refine q_getI (Sh.int hI321.1 kx_220 rfl) 1 ((hF322.1 220 3 (by decide)).trans (gI_sI_eq hI273.1 kx_220 rfl _)) ?_
            refine r_ireti ?_
            exact ⟨_, rfl, hI321, hF325, _, rfl, trivial⟩
        · have c328_ : v326.toInt = 0 := en_k_ne_f c328
          refine At.enter rfl ?_
          refine r_aload_n rfl ?_
          refine r_iconst (-1) rfl ?_
          refine q_putI (Sh.int hI321.1 kx_220 rfl) rfl ?_
          have hI336 := HI.wI0 hI321 kx_220 rfl (p := 220) (b := 3) (v := (-1)) rfl
          have hF337 := Fr.wI (p := 220) (b := 3) (v := (-1)) hF325 rfl
          refine Ar.fall 79 rfl ?_
          refine At.enter rfl ?_
          refine r_iload_n rfl ?_
          refine r_ifs 83 rfl (fun c338 => ?_) (fun c338 => ?_)
          · have c338_ : a2.toInt ≠ 0 := en_k_ne_t c338
            refine At.enter rfl ?_
            refine r_iload_n rfl ?_
            refine r_iconst 5 rfl ?_
            refine r_ics 93 rfl (fun c339 => ?_) (fun c339 => ?_)
            · have c339_ : a2.toInt ≠ 5 := en_i_ne_t c339
              refine At.enter rfl ?_
              refine r_iload_n rfl ?_
              refine r_iconst 1 rfl ?_
              refine r_ics 103 rfl (fun c340 => ?_) (fun c340 => ?_)
              · have c340_ : a2.toInt < 1 := en_i_lt_t c340
                refine At.enter rfl ?_
                refine r_iconst (-1) rfl ?_
                refine Ar.fall 130 rfl ?_
                refine At.enter rfl ?_
                refine r_ireti ?_
                exact ⟨_, rfl, hI336, hF337, _, rfl, trivial⟩
              · have c340_ : a2.toInt ≥ 1 := en_i_lt_f c340
                refine At.enter rfl ?_
                refine r_iload_n rfl ?_
                refine r_iconst 4 rfl ?_
                refine r_ics 108 rfl (fun c341 => ?_) (fun c341 => ?_)
                · have c341_ : a2.toInt > 4 := en_i_gt_t c341
                  refine At.enter rfl ?_
                  refine r_iconst (-1) rfl ?_
                  refine Ar.fall 130 rfl ?_
                  refine At.enter rfl ?_
                  refine r_ireti ?_
                  exact ⟨_, rfl, hI336, hF337, _, rfl, trivial⟩
                · have c341_ : a2.toInt ≤ 4 := en_i_gt_f c341
                  refine At.enter rfl ?_
                  refine r_iload_n rfl ?_
                  refine r_iconst 2 rfl ?_
                  refine r_aload_n rfl ?_
                  refine q_getI (Sh.int hI336.1 kx_220 rfl) (-1) (gI_sI_eq hI321.1 kx_220 rfl _) ?_
                  refine r_imul (-2) (by decide) ?_
                  refine r_ics 118 rfl (fun c342 => ?_) (fun c342 => ?_)
                  · have c342_ : a2.toInt > (-2) := en_i_gt_t c342
                    refine At.enter rfl ?_
                    refine r_iconst (-1) rfl ?_
                    refine Ar.fall 130 rfl ?_
                    refine At.enter rfl ?_
                    refine r_ireti ?_
                    exact ⟨_, rfl, hI336, hF337, _, rfl, trivial⟩
                  · have c342_ : a2.toInt ≤ (-2) := en_i_gt_f c342
                    exfalso; omega
            · have c339_ : a2.toInt = 5 := en_i_ne_f c339
              refine At.enter rfl ?_
              refine r_aload_n rfl ?_
              refine q_getI (Sh.int hI336.1 kx_220 rfl) v326 ((gI_sI_ne (by decide)).trans hv326) ?_
              refine r_ireti ?_
              exact ⟨_, rfl, hI336, hF337, _, rfl, trivial⟩
          · have c338_ : a2.toInt = 0 := en_k_ne_f c338
            refine At.enter rfl ?_
            refine r_aload_n rfl ?_
            refine q_getI (Sh.int hI336.1 kx_220 rfl) (-1) (gI_sI_eq hI321.1 kx_220 rfl _) ?_
            refine r_ireti ?_
            exact ⟨_, rfl, hI336, hF337, _, rfl, trivial⟩
      · have c327_ : v326.toInt = 0 := en_k_ne_f c327
        refine At.enter rfl ?_
        refine r_aload_n rfl ?_
        refine r_iconst 2 rfl ?_
        refine q_putI (Sh.int hI321.1 kx_220 rfl) rfl ?_
        have hI343 := HI.wI0 hI321 kx_220 rfl (p := 220) (b := 3) (v := 2) rfl
        have hF344 := Fr.wI (p := 220) (b := 3) (v := 2) hF325 rfl
        refine r_aload_n rfl ?_
        refine r_callV 67 rfl [.ref 220] [] (Nat.le_of_ble_eq_true rfl) rfl (T_X7_tryTwo_220 _ hI343) ?_
        rintro _ _ ⟨g345, rfl, hI346, hF347, rfl⟩
        refine At.stn ?_
        have hF350 := Fr.tr hF344 hF347 rfl rfl
        refine At.enter rfl ?_
        refine r_aload_n rfl ?_
        obtain ⟨v351, hv351⟩ : ∃ v, gI g345 220 4 = v := ⟨_, rfl⟩
        refine q_getI (Sh.int hI346.1 kx_220 rfl) v351 hv351 ?_
        refine r_ifs 74 rfl (fun c352 => ?_) (fun c352 => ?_)
        · have c352_ : v351.toInt ≠ 0 := en_k_ne_t c352
          refine At.enter rfl ?_
          refine r_iload_n rfl ?_
          refine r_ifs 83 rfl (fun c353 => ?_) (fun c353 => ?_)
          · have c353_ : a2.toInt ≠ 0 := en_k_ne_t c353
            refine At.enter rfl ?_
            refine r_iload_n rfl ?_
            refine r_iconst 5 rfl ?_
            refine r_ics 93 rfl (fun c354 => ?_) (fun c354 => ?_)
            · have c354_ : a2.toInt ≠ 5 := en_i_ne_t c354
              refine At.enter rfl ?_
              refine r_iload_n rfl ?_
              refine r_iconst 1 rfl ?_
              refine r_ics 103 rfl (fun c355 => ?_) (fun c355 => ?_)
              · have c355_ : a2.toInt < 1 := en_i_lt_t c355
                refine At.enter rfl ?_
                refine r_iconst (-1) rfl ?_
                refine Ar.fall 130 rfl ?_
                refine At.enter rfl ?_
                refine r_ireti ?_
                exact ⟨_, rfl, hI346, hF350, _, rfl, trivial⟩
              · have c355_ : a2.toInt ≥ 1 := en_i_lt_f c355
                refine At.enter rfl ?_
                refine r_iload_n rfl ?_
                refine r_iconst 4 rfl ?_
                refine r_ics 108 rfl (fun c356 => ?_) (fun c356 => ?_)
                · have c356_ : a2.toInt > 4 := en_i_gt_t c356
                  refine At.enter rfl ?_
                  refine r_iconst (-1) rfl ?_
                  refine Ar.fall 130 rfl ?_
                  refine At.enter rfl ?_
                  refine r_ireti ?_
                  exact ⟨_, rfl, hI346, hF350, _, rfl, trivial⟩
                · have c356_ : a2.toInt ≤ 4 := en_i_gt_f c356
                  refine At.enter rfl ?_
                  refine r_iload_n rfl ?_
                  refine r_iconst 2 rfl ?_
                  refine r_aload_n rfl ?_
                  refine q_getI (Sh.int hI346.1 kx_220 rfl) 2 ((hF347.1 220 3 (by decide)).trans (gI_sI_eq hI321.1 kx_220 rfl _)) ?_
                  refine r_imul 4 (by decide) ?_
                  refine r_ics 118 rfl (fun c357 => ?_) (fun c357 => ?_)
                  · have c357_ : a2.toInt > 4 := en_i_gt_t c357
                    exfalso; omega
                  · have c357_ : a2.toInt ≤ 4 := en_i_gt_f c357
                    refine At.enter rfl ?_
                    refine r_aload_n rfl ?_
                    refine q_getR (Sh.ref hI346.1 kx_220 rfl) ?_
                    refine r_iload_n rfl ?_
                    refine r_iconst 1 rfl ?_
                    refine q_isub (a2.toInt - 1) rfl (by omega) (fun v358 hv358 => ?_)
                    obtain ⟨v359, hv359⟩ : ∃ v, eA g345 221 (a2.toInt + (-1)) = v := ⟨_, rfl⟩
                    refine q_iald (Sh.arr hI346.1 ka_221) (a2.toInt + (-1)) (by omega) (by omega) v359 hv359 ?_
                    refine r_goto ?_
                    refine At.enter rfl ?_
                    refine r_ireti ?_
                    exact ⟨_, rfl, hI346, hF350, _, rfl, trivial⟩
            · have c354_ : a2.toInt = 5 := en_i_ne_f c354
              refine At.enter rfl ?_
              refine r_aload_n rfl ?_
              refine q_getI (Sh.int hI346.1 kx_220 rfl) v351 hv351 ?_
              refine r_ireti ?_
              exact ⟨_, rfl, hI346, hF350, _, rfl, trivial⟩
          · have c353_ : a2.toInt = 0 := en_k_ne_f c353
            refine At.enter rfl ?_
            refine r_aload_n rfl ?_
            refine q_getI (Sh.int hI346.1 kx_220 rfl) 2 ((hF347.1 220 3 (by decide)).trans (gI_sI_eq hI321.1 kx_220 rfl _)) ?_
            refine r_ireti ?_
            exact ⟨_, rfl, hI346, hF350, _, rfl, trivial⟩
        · have c352_ : v351.toInt = 0 := en_k_ne_f c352
          refine At.enter rfl ?_
          refine r_aload_n rfl ?_
          refine r_iconst (-1) rfl ?_
          refine q_putI (Sh.int hI346.1 kx_220 rfl) rfl ?_
          have hI360 := HI.wI0 hI346 kx_220 rfl (p := 220) (b := 3) (v := (-1)) rfl
          have hF361 := Fr.wI (p := 220) (b := 3) (v := (-1)) hF350 rfl
          refine Ar.fall 79 rfl ?_
          refine At.enter rfl ?_
          refine r_iload_n rfl ?_
          refine r_ifs 83 rfl (fun c362 => ?_) (fun c362 => ?_)
          · have c362_ : a2.toInt ≠ 0 := en_k_ne_t c362
            refine At.enter rfl ?_
            refine r_iload_n rfl ?_
            refine r_iconst 5 rfl ?_
            refine r_ics 93 rfl (fun c363 => ?_) (fun c363 => ?_)
            · have c363_ : a2.toInt ≠ 5 := en_i_ne_t c363
              refine At.enter rfl ?_
              refine r_iload_n rfl ?_
              refine r_iconst 1 rfl ?_
              refine r_ics 103 rfl (fun c364 => ?_) (fun c364 => ?_)
              · have c364_ : a2.toInt < 1 := en_i_lt_t c364
                refine At.enter rfl ?_
                refine r_iconst (-1) rfl ?_
                refine Ar.fall 130 rfl ?_
                refine At.enter rfl ?_
                refine r_ireti ?_
                exact ⟨_, rfl, hI360, hF361, _, rfl, trivial⟩
              · have c364_ : a2.toInt ≥ 1 := en_i_lt_f c364
                refine At.enter rfl ?_
                refine r_iload_n rfl ?_
                refine r_iconst 4 rfl ?_
                refine r_ics 108 rfl (fun c365 => ?_) (fun c365 => ?_)
                · have c365_ : a2.toInt > 4 := en_i_gt_t c365
                  refine At.enter rfl ?_
                  refine r_iconst (-1) rfl ?_
                  refine Ar.fall 130 rfl ?_
                  refine At.enter rfl ?_
                  refine r_ireti ?_
                  exact ⟨_, rfl, hI360, hF361, _, rfl, trivial⟩
                · have c365_ : a2.toInt ≤ 4 := en_i_gt_f c365
                  refine At.enter rfl ?_
                  refine r_iload_n rfl ?_
                  refine r_iconst 2 rfl ?_
                  refine r_aload_n rfl ?_
                  refine q_getI (Sh.int hI360.1 kx_220 rfl) (-1) (gI_sI_eq hI346.1 kx_220 rfl _) ?_
                  refine r_imul (-2) (by decide) ?_
                  refine r_ics 118 rfl (fun c366 => ?_) (fun c366 => ?_)
                  · have c366_ : a2.toInt > (-2) := en_i_gt_t c366
                    refine At.enter rfl ?_
                    refine r_iconst (-1) rfl ?_
                    refine Ar.fall 130 rfl ?_
                    refine At.enter rfl ?_
                    refine r_ireti ?_
                    exact ⟨_, rfl, hI360, hF361, _, rfl, trivial⟩
                  · have c366_ : a2.toInt ≤ (-2) := en_i_gt_f c366
                    exfalso; omega
            · have c363_ : a2.toInt = 5 := en_i_ne_f c363
              refine At.enter rfl ?_
              refine r_aload_n rfl ?_
              refine q_getI (Sh.int hI360.1 kx_220 rfl) v351 ((gI_sI_ne (by decide)).trans hv351) ?_
              refine r_ireti ?_
              exact ⟨_, rfl, hI360, hF361, _, rfl, trivial⟩
          · have c362_ : a2.toInt = 0 := en_k_ne_f c362
            refine At.enter rfl ?_
            refine r_aload_n rfl ?_
            refine q_getI (Sh.int hI360.1 kx_220 rfl) (-1) (gI_sI_eq hI346.1 kx_220 rfl _) ?_
            refine r_ireti ?_
            exact ⟨_, rfl, hI360, hF361, _, rfl, trivial⟩
