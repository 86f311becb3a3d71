def F_X10_drawn_0 : List (Nat × Nat) := []
def A_X10_drawn_0 : List Nat := []
set_option maxRecDepth 100000 in
set_option maxHeartbeats 4000000 in
theorem T_X10_drawn_0 (d : Nat) {N : Nat} {g0 : List en_E} (hI0 : HI g0) (a1 : Int32) (a2 : Int32) : Ev (d + 2) 139 [.ref 0, .int a1, .int a2] (g0, N) (fun w h' => ∃ g', h' = (g', N) ∧ HI g' ∧ Fr F_X10_drawn_0 A_X10_drawn_0 g0 g' ∧ ∃ r : Int32, w = some (.int r) ∧ True) := by
  have hF0 : Fr F_X10_drawn_0 A_X10_drawn_0 g0 g0 := Fr.rf
  refine Ev.mk rfl rfl ⟨Nat.le_of_ble_eq_true rfl, Or.inr (q_rc hI0.1 kx_0 rfl)⟩ ?_
  show At _ none _ _ (0, [(0, .ref 0), (1, .int a1), (2, .int a2)], [], (_, _)) _
  refine At.enter rfl ?_
  refine r_iload_n rfl ?_
  refine r_iconst 0 rfl ?_
  refine r_aload_n rfl ?_
  obtain ⟨v23, hv23⟩ : ∃ v, gI g0 0 15 = v := ⟨_, rfl⟩
  have rv23 := RgF.at hI0.2.1 (p := 0) (b := 15) rfl
  rw [hv23] at rv23
  dsimp only at rv23
  refine q_getI (Sh.int hI0.1 kx_0 rfl) v23 hv23 ?_
  refine r_iconst 1 rfl ?_
  refine q_isub (v23.toInt - 1) rfl (by omega) (fun v24 hv24 => ?_)
  refine q_inlS 11 rfl [.int a1, .int 0, .int v24] [] (Nat.le_of_ble_eq_true rfl) rfl ?_
  refine Ev.mk rfl rfl ⟨Nat.le_of_ble_eq_true rfl, Or.inl rfl⟩ ?_
  show At _ none _ _ (0, [(0, .int a1), (1, .int 0), (2, .int v24)], [], (_, _)) _
  refine At.enter rfl ?_
  refine r_iload_n rfl ?_
  refine r_iload_n rfl ?_
  refine r_ics 5 rfl (fun c25 => ?_) (fun c25 => ?_)
  · have c25_ : a1.toInt < 0 := en_i_lt_t c25
    refine At.enter rfl ?_
    refine r_iconst 0 rfl ?_
    refine Ar.fall 15 rfl ?_
    refine At.enter rfl ?_
    refine q_iretz (by decide) ?_
    refine At.enter rfl ?_
    refine r_ift (by decide) ?_
    refine At.enter rfl ?_
    refine r_iconst (-1) rfl ?_
    refine r_ireti ?_
    exact ⟨_, rfl, hI0, hF0, _, rfl, trivial⟩
  · have c25_ : a1.toInt ≥ 0 := en_i_lt_f c25
    refine At.enter rfl ?_
    refine r_iload_n rfl ?_
    refine r_iload_n rfl ?_
    have bv27 := q_bnd a1
    have bv28 := q_bnd v24
    refine r_ics 10 rfl (fun c26 => ?_) (fun c26 => ?_)
    · have c26_ : a1.toInt > v24.toInt := en_i_gt_t c26
      refine At.enter rfl ?_
      refine r_iconst 0 rfl ?_
      refine Ar.fall 15 rfl ?_
      refine At.enter rfl ?_
      refine q_iretz (by decide) ?_
      refine At.enter rfl ?_
      refine r_ift (by decide) ?_
      refine At.enter rfl ?_
      refine r_iconst (-1) rfl ?_
      refine r_ireti ?_
      exact ⟨_, rfl, hI0, hF0, _, rfl, trivial⟩
    · have c26_ : a1.toInt ≤ v24.toInt := en_i_gt_f c26
      refine At.enter rfl ?_
      refine r_iconst 1 rfl ?_
      refine r_goto ?_
      refine At.enter rfl ?_
      refine q_iretz (by decide) ?_
      refine At.enter rfl ?_
      refine r_iff 14 rfl (by decide) ?_
      refine At.enter rfl ?_
      refine r_iload_n rfl ?_
      refine r_iconst 0 rfl ?_
      refine r_iconst 1 rfl ?_
      refine q_inlS 20 rfl [.int a2, .int 0, .int 1] [] (Nat.le_of_ble_eq_true rfl) rfl ?_
      refine Ev.mk rfl rfl ⟨Nat.le_of_ble_eq_true rfl, Or.inl rfl⟩ ?_
      show At _ none _ _ (0, [(0, .int a2), (1, .int 0), (2, .int 1)], [], (_, _)) _
      refine At.enter rfl ?_
      refine r_iload_n rfl ?_
      refine r_iload_n rfl ?_
      refine r_ics 5 rfl (fun c29 => ?_) (fun c29 => ?_)
      · have c29_ : a2.toInt < 0 := en_i_lt_t c29
        refine At.enter rfl ?_
        refine r_iconst 0 rfl ?_
        refine Ar.fall 15 rfl ?_
        refine At.enter rfl ?_
        refine q_iretz (by decide) ?_
        refine At.enter rfl ?_
        refine r_iff 23 rfl (by decide) ?_
        refine At.enter rfl ?_
        refine r_iconst (-1) rfl ?_
        refine r_ireti ?_
        exact ⟨_, rfl, hI0, hF0, _, rfl, trivial⟩
      · have c29_ : a2.toInt ≥ 0 := en_i_lt_f c29
        refine At.enter rfl ?_
        refine r_iload_n rfl ?_
        refine r_iload_n rfl ?_
        refine r_ics 10 rfl (fun c30 => ?_) (fun c30 => ?_)
        · have c30_ : a2.toInt > 1 := en_i_gt_t c30
          refine At.enter rfl ?_
          refine r_iconst 0 rfl ?_
          refine Ar.fall 15 rfl ?_
          refine At.enter rfl ?_
          refine q_iretz (by decide) ?_
          refine At.enter rfl ?_
          refine r_iff 23 rfl (by decide) ?_
          refine At.enter rfl ?_
          refine r_iconst (-1) rfl ?_
          refine r_ireti ?_
          exact ⟨_, rfl, hI0, hF0, _, rfl, trivial⟩
        · have c30_ : a2.toInt ≤ 1 := en_i_gt_f c30
          refine At.enter rfl ?_
          refine r_iconst 1 rfl ?_
          refine r_goto ?_
          refine At.enter rfl ?_
          refine q_iretz (by decide) ?_
          refine At.enter rfl ?_
          refine r_ift (by decide) ?_
          refine At.enter rfl ?_
          refine r_iload_n rfl ?_
          refine r_ifs 29 rfl (fun c31 => ?_) (fun c31 => ?_)
          · have c31_ : a2.toInt ≠ 0 := en_k_ne_t c31
            refine At.enter rfl ?_
            refine r_aload_n rfl ?_
            refine q_getR (Sh.ref hI0.1 kx_0 rfl) ?_
            refine r_iload_n rfl ?_
            obtain ⟨v32, hv32⟩ : ∃ v, eA g0 229 a1.toInt = v := ⟨_, rfl⟩
            refine q_iald (Sh.arr hI0.1 ka_229) a1.toInt rfl (by omega) v32 hv32 ?_
            refine Ar.fall 44 rfl ?_
            refine At.enter rfl ?_
            refine r_ireti ?_
            exact ⟨_, rfl, hI0, hF0, _, rfl, trivial⟩
          · have c31_ : a2.toInt = 0 := en_k_ne_f c31
            refine At.enter rfl ?_
            refine r_aload_n rfl ?_
            refine q_getR (Sh.ref hI0.1 kx_0 rfl) ?_
            refine r_iload_n rfl ?_
            obtain ⟨v33, hv33⟩ : ∃ v, eA g0 228 a1.toInt = v := ⟨_, rfl⟩
            refine q_iald (Sh.arr hI0.1 ka_228) a1.toInt rfl (by omega) v33 hv33 ?_
            refine r_goto ?_
            refine At.enter rfl ?_
            refine r_ireti ?_
            exact ⟨_, rfl, hI0, hF0, _, rfl, trivial⟩

def F_X10_image_0 : List (Nat × Nat) := [(0, 17), (7, 0), (7, 3), (7, 4), (16, 0), (16, 3), (16, 4), (23, 0), (23, 3), (23, 4), (30, 0), (30, 3), (30, 4), (37, 0), (37, 3), (37, 4), (44, 0), (44, 3), (44, 4), (51, 0), (51, 3), (51, 4), (59, 0), (59, 4), (59, 6), (59, 9), (59, 10), (59, 11), (59, 12), (65, 0), (65, 3), (65, 4), (74, 0), (74, 3), (74, 4), (81, 0), (81, 3), (81, 4), (88, 0), (88, 3), (88, 4), (95, 0), (95, 3), (95, 4), (102, 0), (102, 3), (102, 4), (109, 0), (109, 3), (109, 4), (116, 0), (116, 4), (116, 6), (116, 9), (116, 10), (116, 11), (116, 12), (122, 0), (122, 3), (122, 4), (131, 0), (131, 3), (131, 4), (138, 0), (138, 3), (138, 4), (145, 0), (145, 3), (145, 4), (152, 0), (152, 3), (152, 4), (159, 0), (159, 3), (159, 4), (166, 0), (166, 3), (166, 4), (177, 0), (177, 3), (177, 4)]
def A_X10_image_0 : List Nat := [8, 9, 10, 11, 12, 13, 17, 18, 19, 20, 21, 22, 24, 25, 26, 27, 28, 29, 31, 32, 33, 34, 35, 36, 38, 39, 40, 41, 42, 43, 45, 46, 47, 48, 49, 50, 52, 53, 54, 55, 56, 57, 60, 61, 62, 63, 66, 67, 68, 69, 70, 71, 72, 73, 75, 76, 77, 78, 79, 80, 82, 83, 84, 85, 86, 87, 89, 90, 91, 92, 93, 94, 96, 97, 98, 99, 100, 101, 103, 104, 105, 106, 107, 108, 110, 111, 112, 113, 114, 115, 117, 118, 119, 120, 123, 124, 125, 126, 127, 128, 129, 130, 132, 133, 134, 135, 136, 137, 139, 140, 141, 142, 143, 144, 146, 147, 148, 149, 150, 151, 153, 154, 155, 156, 157, 158, 160, 161, 162, 163, 164, 165, 167, 168, 169, 170, 171, 172, 173, 178, 179, 180, 181, 182, 183, 230]
theorem mf_X10_refused_0_59_0 : memF F_X10_refused_0 59 0 = false := by decide
theorem mf_X10_refused_0_59_12 : memF F_X10_refused_0 59 12 = false := by decide
theorem mf_X10_refused_0_59_10 : memF F_X10_refused_0 59 10 = false := by decide
theorem mf_X10_refused_0_59_11 : memF F_X10_refused_0 59 11 = false := by decide
theorem mf_X10_refused_0_59_4 : memF F_X10_refused_0 59 4 = false := by decide
theorem mf_X10_refused_0_59_6 : memF F_X10_refused_0 59 6 = false := by decide
theorem mf_X10_refused_0_59_9 : memF F_X10_refused_0 59 9 = false := by decide
theorem mf_X10_refused_0_116_0 : memF F_X10_refused_0 116 0 = false := by decide
theorem mf_X10_refused_0_116_12 : memF F_X10_refused_0 116 12 = false := by decide
theorem mf_X10_refused_0_116_10 : memF F_X10_refused_0 116 10 = false := by decide
theorem mf_X10_refused_0_116_11 : memF F_X10_refused_0 116 11 = false := by decide
theorem mf_X10_refused_0_116_4 : memF F_X10_refused_0 116 4 = false := by decide
theorem mf_X10_refused_0_116_6 : memF F_X10_refused_0 116 6 = false := by decide
theorem mf_X10_refused_0_116_9 : memF F_X10_refused_0 116 9 = false := by decide
theorem ma_X10_refused_0_173 : memA A_X10_refused_0 173 = false := by decide
theorem ma_X10_refused_0_60 : memA A_X10_refused_0 60 = false := by decide
theorem ma_X10_refused_0_61 : memA A_X10_refused_0 61 = false := by decide
theorem ma_X10_refused_0_62 : memA A_X10_refused_0 62 = false := by decide
theorem ma_X10_refused_0_72 : memA A_X10_refused_0 72 = false := by decide
theorem ma_X10_refused_0_73 : memA A_X10_refused_0 73 = false := by decide
theorem ma_X10_refused_0_117 : memA A_X10_refused_0 117 = false := by decide
theorem ma_X10_refused_0_118 : memA A_X10_refused_0 118 = false := by decide
theorem ma_X10_refused_0_119 : memA A_X10_refused_0 119 = false := by decide
theorem ma_X10_refused_0_129 : memA A_X10_refused_0 129 = false := by decide
theorem ma_X10_refused_0_130 : memA A_X10_refused_0 130 = false := by decide
theorem ma_X10_refused_0_63 : memA A_X10_refused_0 63 = false := by decide
theorem ma_X10_refused_0_120 : memA A_X10_refused_0 120 = false := by decide
theorem mf_X4_become_law_59_0 : memF F_X4_become_law 59 0 = false := by decide
theorem mf_X0_lawAt_1_59_0 : memF F_X0_lawAt_1 59 0 = false := by decide
theorem mf_X0_lawAt_59_59_0 : memF F_X0_lawAt_59 59 0 = false := by decide
theorem mf_X4_become_law_59_10 : memF F_X4_become_law 59 10 = false := by decide
theorem mf_X0_lawAt_1_59_10 : memF F_X0_lawAt_1 59 10 = false := by decide
theorem mf_X0_lawAt_59_59_10 : memF F_X0_lawAt_59 59 10 = false := by decide
theorem mf_X4_become_law_59_11 : memF F_X4_become_law 59 11 = false := by decide
theorem mf_X0_lawAt_1_59_11 : memF F_X0_lawAt_1 59 11 = false := by decide
theorem mf_X0_lawAt_59_59_11 : memF F_X0_lawAt_59 59 11 = false := by decide
theorem mf_X4_become_law_59_12 : memF F_X4_become_law 59 12 = false := by decide
theorem mf_X0_lawAt_1_59_12 : memF F_X0_lawAt_1 59 12 = false := by decide
theorem mf_X0_lawAt_59_59_12 : memF F_X0_lawAt_59 59 12 = false := by decide
theorem mf_X4_become_law_59_4 : memF F_X4_become_law 59 4 = false := by decide
theorem mf_X0_lawAt_1_59_4 : memF F_X0_lawAt_1 59 4 = false := by decide
theorem mf_X0_lawAt_59_59_4 : memF F_X0_lawAt_59 59 4 = false := by decide
theorem mf_X4_become_law_59_6 : memF F_X4_become_law 59 6 = false := by decide
theorem mf_X0_lawAt_1_59_6 : memF F_X0_lawAt_1 59 6 = false := by decide
theorem mf_X0_lawAt_59_59_6 : memF F_X0_lawAt_59 59 6 = false := by decide
theorem mf_X4_become_law_59_9 : memF F_X4_become_law 59 9 = false := by decide
theorem mf_X0_lawAt_1_59_9 : memF F_X0_lawAt_1 59 9 = false := by decide
theorem mf_X0_lawAt_59_59_9 : memF F_X0_lawAt_59 59 9 = false := by decide
theorem mf_X4_become_law_116_0 : memF F_X4_become_law 116 0 = false := by decide
theorem mf_X0_lawAt_1_116_0 : memF F_X0_lawAt_1 116 0 = false := by decide
theorem mf_X0_lawAt_59_116_0 : memF F_X0_lawAt_59 116 0 = false := by decide
theorem mf_X4_become_law_116_10 : memF F_X4_become_law 116 10 = false := by decide
theorem mf_X0_lawAt_1_116_10 : memF F_X0_lawAt_1 116 10 = false := by decide
theorem mf_X0_lawAt_59_116_10 : memF F_X0_lawAt_59 116 10 = false := by decide
theorem mf_X4_become_law_116_11 : memF F_X4_become_law 116 11 = false := by decide
theorem mf_X0_lawAt_1_116_11 : memF F_X0_lawAt_1 116 11 = false := by decide
theorem mf_X0_lawAt_59_116_11 : memF F_X0_lawAt_59 116 11 = false := by decide
theorem mf_X4_become_law_116_12 : memF F_X4_become_law 116 12 = false := by decide
theorem mf_X0_lawAt_1_116_12 : memF F_X0_lawAt_1 116 12 = false := by decide
theorem mf_X0_lawAt_59_116_12 : memF F_X0_lawAt_59 116 12 = false := by decide
theorem mf_X4_become_law_116_4 : memF F_X4_become_law 116 4 = false := by decide
theorem mf_X0_lawAt_1_116_4 : memF F_X0_lawAt_1 116 4 = false := by decide
theorem mf_X0_lawAt_59_116_4 : memF F_X0_lawAt_59 116 4 = false := by decide
theorem mf_X4_become_law_116_6 : memF F_X4_become_law 116 6 = false := by decide
theorem mf_X0_lawAt_1_116_6 : memF F_X0_lawAt_1 116 6 = false := by decide
theorem mf_X0_lawAt_59_116_6 : memF F_X0_lawAt_59 116 6 = false := by decide
theorem mf_X4_become_law_116_9 : memF F_X4_become_law 116 9 = false := by decide
theorem mf_X0_lawAt_1_116_9 : memF F_X0_lawAt_1 116 9 = false := by decide
theorem mf_X0_lawAt_59_116_9 : memF F_X0_lawAt_59 116 9 = false := by decide
theorem ma_X4_become_law_173 : memA A_X4_become_law 173 = false := by decide
theorem ma_X0_lawAt_1_173 : memA A_X0_lawAt_1 173 = false := by decide
theorem ma_X0_lawAt_59_173 : memA A_X0_lawAt_59 173 = false := by decide
theorem ma_X4_become_law_60 : memA A_X4_become_law 60 = false := by decide
theorem ma_X0_lawAt_1_60 : memA A_X0_lawAt_1 60 = false := by decide
theorem ma_X0_lawAt_59_60 : memA A_X0_lawAt_59 60 = false := by decide
theorem ma_X4_become_law_61 : memA A_X4_become_law 61 = false := by decide
theorem ma_X0_lawAt_1_61 : memA A_X0_lawAt_1 61 = false := by decide
theorem ma_X0_lawAt_59_61 : memA A_X0_lawAt_59 61 = false := by decide
theorem ma_X4_become_law_62 : memA A_X4_become_law 62 = false := by decide
theorem ma_X0_lawAt_1_62 : memA A_X0_lawAt_1 62 = false := by decide
theorem ma_X0_lawAt_59_62 : memA A_X0_lawAt_59 62 = false := by decide
theorem ma_X4_become_law_72 : memA A_X4_become_law 72 = false := by decide
theorem ma_X0_lawAt_1_72 : memA A_X0_lawAt_1 72 = false := by decide
theorem ma_X0_lawAt_59_72 : memA A_X0_lawAt_59 72 = false := by decide
theorem ma_X4_become_law_73 : memA A_X4_become_law 73 = false := by decide
theorem ma_X0_lawAt_1_73 : memA A_X0_lawAt_1 73 = false := by decide
theorem ma_X0_lawAt_59_73 : memA A_X0_lawAt_59 73 = false := by decide
theorem ma_X4_become_law_117 : memA A_X4_become_law 117 = false := by decide
theorem ma_X0_lawAt_1_117 : memA A_X0_lawAt_1 117 = false := by decide
theorem ma_X0_lawAt_59_117 : memA A_X0_lawAt_59 117 = false := by decide
theorem ma_X4_become_law_118 : memA A_X4_become_law 118 = false := by decide
theorem ma_X0_lawAt_1_118 : memA A_X0_lawAt_1 118 = false := by decide
theorem ma_X0_lawAt_59_118 : memA A_X0_lawAt_59 118 = false := by decide
theorem ma_X4_become_law_119 : memA A_X4_become_law 119 = false := by decide
theorem ma_X0_lawAt_1_119 : memA A_X0_lawAt_1 119 = false := by decide
theorem ma_X0_lawAt_59_119 : memA A_X0_lawAt_59 119 = false := by decide
theorem ma_X4_become_law_129 : memA A_X4_become_law 129 = false := by decide
theorem ma_X0_lawAt_1_129 : memA A_X0_lawAt_1 129 = false := by decide
theorem ma_X0_lawAt_59_129 : memA A_X0_lawAt_59 129 = false := by decide
theorem ma_X4_become_law_130 : memA A_X4_become_law 130 = false := by decide
theorem ma_X0_lawAt_1_130 : memA A_X0_lawAt_1 130 = false := by decide
theorem ma_X0_lawAt_59_130 : memA A_X0_lawAt_59 130 = false := by decide
theorem ma_X4_become_law_63 : memA A_X4_become_law 63 = false := by decide
theorem ma_X0_lawAt_1_63 : memA A_X0_lawAt_1 63 = false := by decide
theorem ma_X0_lawAt_59_63 : memA A_X0_lawAt_59 63 = false := by decide
theorem ma_X4_become_law_120 : memA A_X4_become_law 120 = false := by decide
theorem ma_X0_lawAt_1_120 : memA A_X0_lawAt_1 120 = false := by decide
theorem ma_X0_lawAt_59_120 : memA A_X0_lawAt_59 120 = false := by decide
theorem mf_X0_lawAt_116_59_0 : memF F_X0_lawAt_116 59 0 = false := by decide
theorem mf_X0_lawAt_116_59_10 : memF F_X0_lawAt_116 59 10 = false := by decide
theorem mf_X0_lawAt_116_59_11 : memF F_X0_lawAt_116 59 11 = false := by decide
theorem mf_X0_lawAt_116_59_12 : memF F_X0_lawAt_116 59 12 = false := by decide
theorem mf_X0_lawAt_116_59_4 : memF F_X0_lawAt_116 59 4 = false := by decide
theorem mf_X0_lawAt_116_59_6 : memF F_X0_lawAt_116 59 6 = false := by decide
theorem mf_X0_lawAt_116_59_9 : memF F_X0_lawAt_116 59 9 = false := by decide
theorem mf_X0_lawAt_116_116_0 : memF F_X0_lawAt_116 116 0 = false := by decide
theorem mf_X0_lawAt_116_116_10 : memF F_X0_lawAt_116 116 10 = false := by decide
theorem mf_X0_lawAt_116_116_11 : memF F_X0_lawAt_116 116 11 = false := by decide
theorem mf_X0_lawAt_116_116_12 : memF F_X0_lawAt_116 116 12 = false := by decide
theorem mf_X0_lawAt_116_116_4 : memF F_X0_lawAt_116 116 4 = false := by decide
theorem mf_X0_lawAt_116_116_6 : memF F_X0_lawAt_116 116 6 = false := by decide
theorem mf_X0_lawAt_116_116_9 : memF F_X0_lawAt_116 116 9 = false := by decide
theorem ma_X0_lawAt_116_173 : memA A_X0_lawAt_116 173 = false := by decide
theorem ma_X0_lawAt_116_60 : memA A_X0_lawAt_116 60 = false := by decide
theorem ma_X0_lawAt_116_61 : memA A_X0_lawAt_116 61 = false := by decide
theorem ma_X0_lawAt_116_62 : memA A_X0_lawAt_116 62 = false := by decide
theorem ma_X0_lawAt_116_72 : memA A_X0_lawAt_116 72 = false := by decide
theorem ma_X0_lawAt_116_73 : memA A_X0_lawAt_116 73 = false := by decide
theorem ma_X0_lawAt_116_117 : memA A_X0_lawAt_116 117 = false := by decide
theorem ma_X0_lawAt_116_118 : memA A_X0_lawAt_116 118 = false := by decide
theorem ma_X0_lawAt_116_119 : memA A_X0_lawAt_116 119 = false := by decide
theorem ma_X0_lawAt_116_129 : memA A_X0_lawAt_116 129 = false := by decide
theorem ma_X0_lawAt_116_130 : memA A_X0_lawAt_116 130 = false := by decide
theorem ma_X0_lawAt_116_63 : memA A_X0_lawAt_116 63 = false := by decide
theorem ma_X0_lawAt_116_120 : memA A_X0_lawAt_116 120 = false := by decide
set_option maxRecDepth 100000 in
set_option maxHeartbeats 4000000 in
theorem T_X10_image_0 (d : Nat) {N : Nat} {g0 : List en_E} (hI0 : HI g0) (a1 : Int32) : Ev (d + 3) 140 [.ref 0, .int a1] (g0, N) (fun w h' => ∃ g', h' = (g', N) ∧ HI g' ∧ Fr F_X10_image_0 A_X10_image_0 g0 g' ∧ ∃ r : Int32, w = some (.int r) ∧ ((-1) ≤ r.toInt ∧ r.toInt ≤ 0) ∧ ((((a1.toInt = 0 → (eA g' 173 0).toInt = 1 ∧ r.toInt = 0 ∧ (gI g' 59 0).toInt = (gI g0 1 0).toInt ∧ (gI g' 59 12).toInt = (gI g0 1 12).toInt ∧ (gI g' 59 10).toInt = (gI g0 1 10).toInt ∧ (gI g' 59 11).toInt = (gI g0 1 11).toInt ∧ (gI g' 59 4).toInt = (gI g0 1 4).toInt ∧ (gI g' 59 6).toInt = (gI g0 1 6).toInt ∧ (gI g' 59 9).toInt = (gI g0 1 9).toInt) ∧ (a1.toInt ≠ 0 → (eA g' 173 0).toInt = (eA g0 173 0).toInt ∧ (gI g' 59 0).toInt = (gI g0 59 0).toInt ∧ (gI g' 59 12).toInt = (gI g0 59 12).toInt ∧ (gI g' 59 10).toInt = (gI g0 59 10).toInt ∧ (gI g' 59 11).toInt = (gI g0 59 11).toInt ∧ (gI g' 59 4).toInt = (gI g0 59 4).toInt ∧ (gI g' 59 6).toInt = (gI g0 59 6).toInt ∧ (gI g' 59 9).toInt = (gI g0 59 9).toInt) ∧ (a1.toInt = 1 → (eA g' 173 1).toInt = 1 ∧ r.toInt = 0 ∧ (gI g' 116 0).toInt = (gI g0 1 0).toInt ∧ (gI g' 116 12).toInt = (gI g0 1 12).toInt ∧ (gI g' 116 10).toInt = (gI g0 1 10).toInt ∧ (gI g' 116 11).toInt = (gI g0 1 11).toInt ∧ (gI g' 116 4).toInt = (gI g0 1 4).toInt ∧ (gI g' 116 6).toInt = (gI g0 1 6).toInt ∧ (gI g' 116 9).toInt = (gI g0 1 9).toInt) ∧ (a1.toInt ≠ 1 → (eA g' 173 1).toInt = (eA g0 173 1).toInt ∧ (gI g' 116 0).toInt = (gI g0 116 0).toInt ∧ (gI g' 116 12).toInt = (gI g0 116 12).toInt ∧ (gI g' 116 10).toInt = (gI g0 116 10).toInt ∧ (gI g' 116 11).toInt = (gI g0 116 11).toInt ∧ (gI g' 116 4).toInt = (gI g0 116 4).toInt ∧ (gI g' 116 6).toInt = (gI g0 116 6).toInt ∧ (gI g' 116 9).toInt = (gI g0 116 9).toInt) ∧ (a1.toInt < 0 ∨ 1 < a1.toInt → r.toInt = -1)) ∧ (∀ i : Int, 0 ≤ i → i < 12 → (eA g' 60 (i)).toInt = if a1.toInt = 0 then (eA g0 2 (i)).toInt else (eA g0 60 (i)).toInt) ∧ (∀ i : Int, 0 ≤ i → i < 12 → (eA g' 61 (i)).toInt = if a1.toInt = 0 then (eA g0 3 (i)).toInt else (eA g0 61 (i)).toInt) ∧ (∀ i : Int, 0 ≤ i → i < 12 → (eA g' 62 (i)).toInt = if a1.toInt = 0 then (eA g0 4 (i)).toInt else (eA g0 62 (i)).toInt) ∧ (∀ i : Int, 0 ≤ i → i < 8 → (eA g' 72 (i)).toInt = if a1.toInt = 0 then (eA g0 14 (i)).toInt else (eA g0 72 (i)).toInt) ∧ (∀ i : Int, 0 ≤ i → i < 8 → (eA g' 73 (i)).toInt = if a1.toInt = 0 then (eA g0 15 (i)).toInt else (eA g0 73 (i)).toInt) ∧ (∀ i : Int, 0 ≤ i → i < 12 → (eA g' 117 (i)).toInt = if a1.toInt = 1 then (eA g0 2 (i)).toInt else (eA g0 117 (i)).toInt) ∧ (∀ i : Int, 0 ≤ i → i < 12 → (eA g' 118 (i)).toInt = if a1.toInt = 1 then (eA g0 3 (i)).toInt else (eA g0 118 (i)).toInt) ∧ (∀ i : Int, 0 ≤ i → i < 12 → (eA g' 119 (i)).toInt = if a1.toInt = 1 then (eA g0 4 (i)).toInt else (eA g0 119 (i)).toInt) ∧ (∀ i : Int, 0 ≤ i → i < 8 → (eA g' 129 (i)).toInt = if a1.toInt = 1 then (eA g0 14 (i)).toInt else (eA g0 129 (i)).toInt) ∧ (∀ i : Int, 0 ≤ i → i < 8 → (eA g' 130 (i)).toInt = if a1.toInt = 1 then (eA g0 15 (i)).toInt else (eA g0 130 (i)).toInt) ∧ (∀ i : Int, 0 ≤ i → i < 48 → (eA g' 63 (i)).toInt = if a1.toInt = 0 then (eA g0 5 (i)).toInt else (eA g0 63 (i)).toInt) ∧ (∀ i : Int, 0 ≤ i → i < 48 → (eA g' 120 (i)).toInt = if a1.toInt = 1 then (eA g0 5 (i)).toInt else (eA g0 120 (i)).toInt)) ∧ ((a1.toInt = 0 → BCI g0 g' 59 1 6) ∧ (a1.toInt = 1 → BCI g0 g' 116 1 6) ∧ (a1.toInt < 0 ∨ 1 < a1.toInt → LSA g0 g')))) := by
  have hF0 : Fr F_X10_image_0 A_X10_image_0 g0 g0 := Fr.rf
  refine Ev.mk rfl rfl ⟨Nat.le_of_ble_eq_true rfl, Or.inr (q_rc hI0.1 kx_0 rfl)⟩ ?_
  show At _ none _ _ (0, [(0, .ref 0), (1, .int a1)], [], (_, _)) _
  refine At.enter rfl ?_
  refine r_aload_n rfl ?_
  refine r_iload_n rfl ?_
  refine q_inlV 5 rfl [.ref 0, .int a1] [] (Nat.le_of_ble_eq_true rfl) rfl ?_
  refine Ev.mk rfl rfl ⟨Nat.le_of_ble_eq_true rfl, Or.inr (q_rc hI0.1 kx_0 rfl)⟩ ?_
  show At _ none _ _ (0, [(0, .ref 0), (1, .int a1)], [], (_, _)) _
  refine At.enter rfl ?_
  refine r_iload_n rfl ?_
  refine r_iconst 0 rfl ?_
  refine r_iconst 1 rfl ?_
  refine q_inlS 6 rfl [.int a1, .int 0, .int 1] [] (Nat.le_of_ble_eq_true rfl) rfl ?_
  refine Ev.mk rfl rfl ⟨Nat.le_of_ble_eq_true rfl, Or.inl rfl⟩ ?_
  show At _ none _ _ (0, [(0, .int a1), (1, .int 0), (2, .int 1)], [], (_, _)) _
  refine At.enter rfl ?_
  refine r_iload_n rfl ?_
  refine r_iload_n rfl ?_
  refine r_ics 5 rfl (fun c1571 => ?_) (fun c1571 => ?_)
  · have c1571_ : a1.toInt < 0 := en_i_lt_t c1571
    refine At.enter rfl ?_
    refine r_iconst 0 rfl ?_
    refine Ar.fall 15 rfl ?_
    refine At.enter rfl ?_
    refine q_iretz (by decide) ?_
    refine At.enter rfl ?_
    refine r_ift (by decide) ?_
    refine At.enter rfl ?_
    refine r_null ?_
    refine Ar.fall 19 rfl ?_
    refine At.enter rfl ?_
    refine q_zret ?_
    refine At.enter rfl ?_
    refine r_zstore_n ([(2, .null), (0, .ref 0), (1, .int a1)]) rfl ?_
    refine r_zload_n rfl ?_
    refine r_nnz 10 rfl ?_
    refine At.enter rfl ?_
    refine r_aload_n rfl ?_
    refine r_iconst (-1) rfl ?_
    refine r_callV 15 rfl [.ref 0, .int (-1)] [] (Nat.le_of_ble_eq_true rfl) rfl (T_X10_refused_0 _ hI0 (-1) (by decide)) ?_
    rintro _ _ ⟨g1572, rfl, hI1573, hF1574, v1575, rfl, hr1576⟩
    refine At.sti ?_
    have hF1577 := Fr.tr hF0 hF1574 rfl rfl
    have zv1578 : ((-1) : Int32).toInt = (-1) := rfl
    refine At.enter rfl ?_
    refine r_ireti ?_
    obtain ⟨v1579, hv1579⟩ : ∃ v, gI g0 1 0 = v := ⟨_, rfl⟩
    have rv1579 := RgF.at hI0.2.1 (p := 1) (b := 0) rfl
    rw [hv1579] at rv1579
    dsimp only at rv1579
    have tv1579 := congrArg Int32.toInt hv1579
    obtain ⟨v1581, hv1581⟩ : ∃ v, gI g0 1 12 = v := ⟨_, rfl⟩
    have rv1581 := RgF.at hI0.2.1 (p := 1) (b := 12) rfl
    rw [hv1581] at rv1581
    dsimp only at rv1581
    have tv1581 := congrArg Int32.toInt hv1581
    obtain ⟨v1583, hv1583⟩ : ∃ v, gI g0 1 10 = v := ⟨_, rfl⟩
    have tv1583 := congrArg Int32.toInt hv1583
    obtain ⟨v1585, hv1585⟩ : ∃ v, gI g0 1 11 = v := ⟨_, rfl⟩
    have tv1585 := congrArg Int32.toInt hv1585
    obtain ⟨v1587, hv1587⟩ : ∃ v, gI g0 1 4 = v := ⟨_, rfl⟩
    have rv1587 := RgF.at hI0.2.1 (p := 1) (b := 4) rfl
    rw [hv1587] at rv1587
    dsimp only at rv1587
    have tv1587 := congrArg Int32.toInt hv1587
    obtain ⟨v1589, hv1589⟩ : ∃ v, gI g0 1 6 = v := ⟨_, rfl⟩
    have rv1589 := RgF.at hI0.2.1 (p := 1) (b := 6) rfl
    rw [hv1589] at rv1589
    dsimp only at rv1589
    have tv1589 := congrArg Int32.toInt hv1589
    obtain ⟨v1591, hv1591⟩ : ∃ v, gI g0 1 9 = v := ⟨_, rfl⟩
    have tv1591 := congrArg Int32.toInt hv1591
    obtain ⟨v1593, hv1593⟩ : ∃ v, gI g0 59 0 = v := ⟨_, rfl⟩
    have rv1593 := RgF.at hI0.2.1 (p := 59) (b := 0) rfl
    rw [hv1593] at rv1593
    dsimp only at rv1593
    have tv1593 := congrArg Int32.toInt hv1593
    obtain ⟨v1595, hv1595⟩ : ∃ v, gI g0 59 12 = v := ⟨_, rfl⟩
    have rv1595 := RgF.at hI0.2.1 (p := 59) (b := 12) rfl
    rw [hv1595] at rv1595
    dsimp only at rv1595
    have tv1595 := congrArg Int32.toInt hv1595
    obtain ⟨v1597, hv1597⟩ : ∃ v, gI g0 59 10 = v := ⟨_, rfl⟩
    have tv1597 := congrArg Int32.toInt hv1597
    obtain ⟨v1599, hv1599⟩ : ∃ v, gI g0 59 11 = v := ⟨_, rfl⟩
    have tv1599 := congrArg Int32.toInt hv1599
    obtain ⟨v1601, hv1601⟩ : ∃ v, gI g0 59 4 = v := ⟨_, rfl⟩
    have rv1601 := RgF.at hI0.2.1 (p := 59) (b := 4) rfl
    rw [hv1601] at rv1601
    dsimp only at rv1601
    have tv1601 := congrArg Int32.toInt hv1601
    obtain ⟨v1603, hv1603⟩ : ∃ v, gI g0 59 6 = v := ⟨_, rfl⟩
    have rv1603 := RgF.at hI0.2.1 (p := 59) (b := 6) rfl
    rw [hv1603] at rv1603
    dsimp only at rv1603
    have tv1603 := congrArg Int32.toInt hv1603
    obtain ⟨v1605, hv1605⟩ : ∃ v, gI g0 59 9 = v := ⟨_, rfl⟩
    have tv1605 := congrArg Int32.toInt hv1605
    obtain ⟨v1607, hv1607⟩ : ∃ v, gI g0 116 0 = v := ⟨_, rfl⟩
    have rv1607 := RgF.at hI0.2.1 (p := 116) (b := 0) rfl
    rw [hv1607] at rv1607
    dsimp only at rv1607
    have tv1607 := congrArg Int32.toInt hv1607
    obtain ⟨v1609, hv1609⟩ : ∃ v, gI g0 116 12 = v := ⟨_, rfl⟩
    have rv1609 := RgF.at hI0.2.1 (p := 116) (b := 12) rfl
    rw [hv1609] at rv1609
    dsimp only at rv1609
    have tv1609 := congrArg Int32.toInt hv1609
    obtain ⟨v1611, hv1611⟩ : ∃ v, gI g0 116 10 = v := ⟨_, rfl⟩
    have tv1611 := congrArg Int32.toInt hv1611
    obtain ⟨v1613, hv1613⟩ : ∃ v, gI g0 116 11 = v := ⟨_, rfl⟩
    have tv1613 := congrArg Int32.toInt hv1613
    obtain ⟨v1615, hv1615⟩ : ∃ v, gI g0 116 4 = v := ⟨_, rfl⟩
    have rv1615 := RgF.at hI0.2.1 (p := 116) (b := 4) rfl
    rw [hv1615] at rv1615
    dsimp only at rv1615
    have tv1615 := congrArg Int32.toInt hv1615
    obtain ⟨v1617, hv1617⟩ : ∃ v, gI g0 116 6 = v := ⟨_, rfl⟩
    have rv1617 := RgF.at hI0.2.1 (p := 116) (b := 6) rfl
    rw [hv1617] at rv1617
    dsimp only at rv1617
    have tv1617 := congrArg Int32.toInt hv1617
    obtain ⟨v1619, hv1619⟩ : ∃ v, gI g0 116 9 = v := ⟨_, rfl⟩
    have tv1619 := congrArg Int32.toInt hv1619
    obtain ⟨v1621, hv1621⟩ : ∃ v, eA g0 173 0 = v := ⟨_, rfl⟩
    have tv1621 := congrArg Int32.toInt hv1621
    have x1622 := HI.eqA hI0 (p := 173) (j := 0) (hv1621)
    obtain ⟨v1623, hv1623⟩ : ∃ v, eA g0 173 1 = v := ⟨_, rfl⟩
    have tv1623 := congrArg Int32.toInt hv1623
    have x1624 := HI.eqA hI0 (p := 173) (j := 1) (hv1623)
    have x1625 := HI.eqI hI1573 (p := 59) (b := 0) (((hF1574.1 59 0 mf_X10_refused_0_59_0).trans hv1593))
    have x1626 := HI.eqI hI1573 (p := 59) (b := 12) (((hF1574.1 59 12 mf_X10_refused_0_59_12).trans hv1595))
    have x1627 := HI.eqI hI1573 (p := 59) (b := 10) (((hF1574.1 59 10 mf_X10_refused_0_59_10).trans hv1597))
    have x1628 := HI.eqI hI1573 (p := 59) (b := 11) (((hF1574.1 59 11 mf_X10_refused_0_59_11).trans hv1599))
    have x1629 := HI.eqI hI1573 (p := 59) (b := 4) (((hF1574.1 59 4 mf_X10_refused_0_59_4).trans hv1601))
    have x1630 := HI.eqI hI1573 (p := 59) (b := 6) (((hF1574.1 59 6 mf_X10_refused_0_59_6).trans hv1603))
    have x1631 := HI.eqI hI1573 (p := 59) (b := 9) (((hF1574.1 59 9 mf_X10_refused_0_59_9).trans hv1605))
    have x1632 := HI.eqI hI1573 (p := 116) (b := 0) (((hF1574.1 116 0 mf_X10_refused_0_116_0).trans hv1607))
    have x1633 := HI.eqI hI1573 (p := 116) (b := 12) (((hF1574.1 116 12 mf_X10_refused_0_116_12).trans hv1609))
    have x1634 := HI.eqI hI1573 (p := 116) (b := 10) (((hF1574.1 116 10 mf_X10_refused_0_116_10).trans hv1611))
    have x1635 := HI.eqI hI1573 (p := 116) (b := 11) (((hF1574.1 116 11 mf_X10_refused_0_116_11).trans hv1613))
    have x1636 := HI.eqI hI1573 (p := 116) (b := 4) (((hF1574.1 116 4 mf_X10_refused_0_116_4).trans hv1615))
    have x1637 := HI.eqI hI1573 (p := 116) (b := 6) (((hF1574.1 116 6 mf_X10_refused_0_116_6).trans hv1617))
    have x1638 := HI.eqI hI1573 (p := 116) (b := 9) (((hF1574.1 116 9 mf_X10_refused_0_116_9).trans hv1619))
    have x1639 := HI.eqA hI1573 (p := 173) (j := 0) (((eA_c (hF1574.2.1 173 ma_X10_refused_0_173)).trans hv1621))
    have x1640 := HI.eqA hI1573 (p := 173) (j := 1) (((eA_c (hF1574.2.1 173 ma_X10_refused_0_173)).trans hv1623))
    have kn110_ : ¬ (a1.toInt = 0) := by omega
    have kn111_ : ¬ (a1.toInt = 1) := by omega
    exact ⟨_, rfl, hI1573, hF1577, _, rfl, by omega, ⟨⟨⟨by omega, by omega, by omega, by omega, by omega⟩, (by intro i i0 i1; refine Eq.trans ?_ (if_neg kn110_).symm; refine (eA_ti ((hF1574.2.1 60 ma_X10_refused_0_60))).trans ?_; (first | with_reducible rfl | omega | exact eA_ix (by omega) | rfl)), (by intro i i0 i1; refine Eq.trans ?_ (if_neg kn110_).symm; refine (eA_ti ((hF1574.2.1 61 ma_X10_refused_0_61))).trans ?_; (first | with_reducible rfl | omega | exact eA_ix (by omega) | rfl)), (by intro i i0 i1; refine Eq.trans ?_ (if_neg kn110_).symm; refine (eA_ti ((hF1574.2.1 62 ma_X10_refused_0_62))).trans ?_; (first | with_reducible rfl | omega | exact eA_ix (by omega) | rfl)), (by intro i i0 i1; refine Eq.trans ?_ (if_neg kn110_).symm; refine (eA_ti ((hF1574.2.1 72 ma_X10_refused_0_72))).trans ?_; (first | with_reducible rfl | omega | exact eA_ix (by omega) | rfl)), (by intro i i0 i1; refine Eq.trans ?_ (if_neg kn110_).symm; refine (eA_ti ((hF1574.2.1 73 ma_X10_refused_0_73))).trans ?_; (first | with_reducible rfl | omega | exact eA_ix (by omega) | rfl)), (by intro i i0 i1; refine Eq.trans ?_ (if_neg kn111_).symm; refine (eA_ti ((hF1574.2.1 117 ma_X10_refused_0_117))).trans ?_; (first | with_reducible rfl | omega | exact eA_ix (by omega) | rfl)), (by intro i i0 i1; refine Eq.trans ?_ (if_neg kn111_).symm; refine (eA_ti ((hF1574.2.1 118 ma_X10_refused_0_118))).trans ?_; (first | with_reducible rfl | omega | exact eA_ix (by omega) | rfl)), (by intro i i0 i1; refine Eq.trans ?_ (if_neg kn111_).symm; refine (eA_ti ((hF1574.2.1 119 ma_X10_refused_0_119))).trans ?_; (first | with_reducible rfl | omega | exact eA_ix (by omega) | rfl)), (by intro i i0 i1; refine Eq.trans ?_ (if_neg kn111_).symm; refine (eA_ti ((hF1574.2.1 129 ma_X10_refused_0_129))).trans ?_; (first | with_reducible rfl | omega | exact eA_ix (by omega) | rfl)), (by intro i i0 i1; refine Eq.trans ?_ (if_neg kn111_).symm; refine (eA_ti ((hF1574.2.1 130 ma_X10_refused_0_130))).trans ?_; (first | with_reducible rfl | omega | exact eA_ix (by omega) | rfl)), (by intro i i0 i1; refine Eq.trans ?_ (if_neg kn110_).symm; refine (eA_ti ((hF1574.2.1 63 ma_X10_refused_0_63))).trans ?_; (first | with_reducible rfl | omega | exact eA_ix (by omega) | rfl)), (by intro i i0 i1; refine Eq.trans ?_ (if_neg kn111_).symm; refine (eA_ti ((hF1574.2.1 120 ma_X10_refused_0_120))).trans ?_; (first | with_reducible rfl | omega | exact eA_ix (by omega) | rfl))⟩, ⟨(fun h => False.elim (by omega)), (fun h => False.elim (by omega)), fun _ => (LSA_tr LSA_rf (LSA_fr hF1574 rfl))⟩⟩⟩
  · have c1571_ : a1.toInt ≥ 0 := en_i_lt_f c1571
    refine At.enter rfl ?_
    refine r_iload_n rfl ?_
    refine r_iload_n rfl ?_
    refine r_ics 10 rfl (fun c1641 => ?_) (fun c1641 => ?_)
    · have c1641_ : a1.toInt > 1 := en_i_gt_t c1641
      refine At.enter rfl ?_
      refine r_iconst 0 rfl ?_
      refine Ar.fall 15 rfl ?_
      refine At.enter rfl ?_
      refine q_iretz (by decide) ?_
      refine At.enter rfl ?_
      refine r_ift (by decide) ?_
      refine At.enter rfl ?_
      refine r_null ?_
      refine Ar.fall 19 rfl ?_
      refine At.enter rfl ?_
      refine q_zret ?_
      refine At.enter rfl ?_
      refine r_zstore_n ([(2, .null), (0, .ref 0), (1, .int a1)]) rfl ?_
      refine r_zload_n rfl ?_
      refine r_nnz 10 rfl ?_
      refine At.enter rfl ?_
      refine r_aload_n rfl ?_
      refine r_iconst (-1) rfl ?_
      refine r_callV 15 rfl [.ref 0, .int (-1)] [] (Nat.le_of_ble_eq_true rfl) rfl (T_X10_refused_0 _ hI0 (-1) (by decide)) ?_
      rintro _ _ ⟨g1642, rfl, hI1643, hF1644, v1645, rfl, hr1646⟩
      refine At.sti ?_
      have hF1647 := Fr.tr hF0 hF1644 rfl rfl
      have zv1648 : ((-1) : Int32).toInt = (-1) := rfl
      refine At.enter rfl ?_
      refine r_ireti ?_
      obtain ⟨v1649, hv1649⟩ : ∃ v, gI g0 1 0 = v := ⟨_, rfl⟩
      have rv1649 := RgF.at hI0.2.1 (p := 1) (b := 0) rfl
      rw [hv1649] at rv1649
      dsimp only at rv1649
      have tv1649 := congrArg Int32.toInt hv1649
      obtain ⟨v1651, hv1651⟩ : ∃ v, gI g0 1 12 = v := ⟨_, rfl⟩
      have rv1651 := RgF.at hI0.2.1 (p := 1) (b := 12) rfl
      rw [hv1651] at rv1651
      dsimp only at rv1651
      have tv1651 := congrArg Int32.toInt hv1651
      obtain ⟨v1653, hv1653⟩ : ∃ v, gI g0 1 10 = v := ⟨_, rfl⟩
      have tv1653 := congrArg Int32.toInt hv1653
      obtain ⟨v1655, hv1655⟩ : ∃ v, gI g0 1 11 = v := ⟨_, rfl⟩
      have tv1655 := congrArg Int32.toInt hv1655
      obtain ⟨v1657, hv1657⟩ : ∃ v, gI g0 1 4 = v := ⟨_, rfl⟩
      have rv1657 := RgF.at hI0.2.1 (p := 1) (b := 4) rfl
      rw [hv1657] at rv1657
      dsimp only at rv1657
      have tv1657 := congrArg Int32.toInt hv1657
      obtain ⟨v1659, hv1659⟩ : ∃ v, gI g0 1 6 = v := ⟨_, rfl⟩
      have rv1659 := RgF.at hI0.2.1 (p := 1) (b := 6) rfl
      rw [hv1659] at rv1659
      dsimp only at rv1659
      have tv1659 := congrArg Int32.toInt hv1659
      obtain ⟨v1661, hv1661⟩ : ∃ v, gI g0 1 9 = v := ⟨_, rfl⟩
      have tv1661 := congrArg Int32.toInt hv1661
      obtain ⟨v1663, hv1663⟩ : ∃ v, gI g0 59 0 = v := ⟨_, rfl⟩
      have rv1663 := RgF.at hI0.2.1 (p := 59) (b := 0) rfl
      rw [hv1663] at rv1663
      dsimp only at rv1663
      have tv1663 := congrArg Int32.toInt hv1663
      obtain ⟨v1665, hv1665⟩ : ∃ v, gI g0 59 12 = v := ⟨_, rfl⟩
      have rv1665 := RgF.at hI0.2.1 (p := 59) (b := 12) rfl
      rw [hv1665] at rv1665
      dsimp only at rv1665
      have tv1665 := congrArg Int32.toInt hv1665
      obtain ⟨v1667, hv1667⟩ : ∃ v, gI g0 59 10 = v := ⟨_, rfl⟩
      have tv1667 := congrArg Int32.toInt hv1667
      obtain ⟨v1669, hv1669⟩ : ∃ v, gI g0 59 11 = v := ⟨_, rfl⟩
      have tv1669 := congrArg Int32.toInt hv1669
      obtain ⟨v1671, hv1671⟩ : ∃ v, gI g0 59 4 = v := ⟨_, rfl⟩
      have rv1671 := RgF.at hI0.2.1 (p := 59) (b := 4) rfl
      rw [hv1671] at rv1671
      dsimp only at rv1671
      have tv1671 := congrArg Int32.toInt hv1671
      obtain ⟨v1673, hv1673⟩ : ∃ v, gI g0 59 6 = v := ⟨_, rfl⟩
      have rv1673 := RgF.at hI0.2.1 (p := 59) (b := 6) rfl
      rw [hv1673] at rv1673
      dsimp only at rv1673
      have tv1673 := congrArg Int32.toInt hv1673
      obtain ⟨v1675, hv1675⟩ : ∃ v, gI g0 59 9 = v := ⟨_, rfl⟩
      have tv1675 := congrArg Int32.toInt hv1675
      obtain ⟨v1677, hv1677⟩ : ∃ v, gI g0 116 0 = v := ⟨_, rfl⟩
      have rv1677 := RgF.at hI0.2.1 (p := 116) (b := 0) rfl
      rw [hv1677] at rv1677
      dsimp only at rv1677
      have tv1677 := congrArg Int32.toInt hv1677
      obtain ⟨v1679, hv1679⟩ : ∃ v, gI g0 116 12 = v := ⟨_, rfl⟩
      have rv1679 := RgF.at hI0.2.1 (p := 116) (b := 12) rfl
      rw [hv1679] at rv1679
      dsimp only at rv1679
      have tv1679 := congrArg Int32.toInt hv1679
      obtain ⟨v1681, hv1681⟩ : ∃ v, gI g0 116 10 = v := ⟨_, rfl⟩
      have tv1681 := congrArg Int32.toInt hv1681
      obtain ⟨v1683, hv1683⟩ : ∃ v, gI g0 116 11 = v := ⟨_, rfl⟩
      have tv1683 := congrArg Int32.toInt hv1683
      obtain ⟨v1685, hv1685⟩ : ∃ v, gI g0 116 4 = v := ⟨_, rfl⟩
      have rv1685 := RgF.at hI0.2.1 (p := 116) (b := 4) rfl
      rw [hv1685] at rv1685
      dsimp only at rv1685
      have tv1685 := congrArg Int32.toInt hv1685
      obtain ⟨v1687, hv1687⟩ : ∃ v, gI g0 116 6 = v := ⟨_, rfl⟩
      have rv1687 := RgF.at hI0.2.1 (p := 116) (b := 6) rfl
      rw [hv1687] at rv1687
      dsimp only at rv1687
      have tv1687 := congrArg Int32.toInt hv1687
      obtain ⟨v1689, hv1689⟩ : ∃ v, gI g0 116 9 = v := ⟨_, rfl⟩
      have tv1689 := congrArg Int32.toInt hv1689
      obtain ⟨v1691, hv1691⟩ : ∃ v, eA g0 173 0 = v := ⟨_, rfl⟩
      have tv1691 := congrArg Int32.toInt hv1691
      have x1692 := HI.eqA hI0 (p := 173) (j := 0) (hv1691)
      obtain ⟨v1693, hv1693⟩ : ∃ v, eA g0 173 1 = v := ⟨_, rfl⟩
      have tv1693 := congrArg Int32.toInt hv1693
      have x1694 := HI.eqA hI0 (p := 173) (j := 1) (hv1693)
      have x1695 := HI.eqI hI1643 (p := 59) (b := 0) (((hF1644.1 59 0 mf_X10_refused_0_59_0).trans hv1663))
      have x1696 := HI.eqI hI1643 (p := 59) (b := 12) (((hF1644.1 59 12 mf_X10_refused_0_59_12).trans hv1665))
      have x1697 := HI.eqI hI1643 (p := 59) (b := 10) (((hF1644.1 59 10 mf_X10_refused_0_59_10).trans hv1667))
      have x1698 := HI.eqI hI1643 (p := 59) (b := 11) (((hF1644.1 59 11 mf_X10_refused_0_59_11).trans hv1669))
      have x1699 := HI.eqI hI1643 (p := 59) (b := 4) (((hF1644.1 59 4 mf_X10_refused_0_59_4).trans hv1671))
      have x1700 := HI.eqI hI1643 (p := 59) (b := 6) (((hF1644.1 59 6 mf_X10_refused_0_59_6).trans hv1673))
      have x1701 := HI.eqI hI1643 (p := 59) (b := 9) (((hF1644.1 59 9 mf_X10_refused_0_59_9).trans hv1675))
      have x1702 := HI.eqI hI1643 (p := 116) (b := 0) (((hF1644.1 116 0 mf_X10_refused_0_116_0).trans hv1677))
      have x1703 := HI.eqI hI1643 (p := 116) (b := 12) (((hF1644.1 116 12 mf_X10_refused_0_116_12).trans hv1679))
      have x1704 := HI.eqI hI1643 (p := 116) (b := 10) (((hF1644.1 116 10 mf_X10_refused_0_116_10).trans hv1681))
      have x1705 := HI.eqI hI1643 (p := 116) (b := 11) (((hF1644.1 116 11 mf_X10_refused_0_116_11).trans hv1683))
      have x1706 := HI.eqI hI1643 (p := 116) (b := 4) (((hF1644.1 116 4 mf_X10_refused_0_116_4).trans hv1685))
      have x1707 := HI.eqI hI1643 (p := 116) (b := 6) (((hF1644.1 116 6 mf_X10_refused_0_116_6).trans hv1687))
      have x1708 := HI.eqI hI1643 (p := 116) (b := 9) (((hF1644.1 116 9 mf_X10_refused_0_116_9).trans hv1689))
      have x1709 := HI.eqA hI1643 (p := 173) (j := 0) (((eA_c (hF1644.2.1 173 ma_X10_refused_0_173)).trans hv1691))
      have x1710 := HI.eqA hI1643 (p := 173) (j := 1) (((eA_c (hF1644.2.1 173 ma_X10_refused_0_173)).trans hv1693))
      have kn112_ : ¬ (a1.toInt = 0) := by omega
      have kn113_ : ¬ (a1.toInt = 1) := by omega
      exact ⟨_, rfl, hI1643, hF1647, _, rfl, by omega, ⟨⟨⟨by omega, by omega, by omega, by omega, by omega⟩, (by intro i i0 i1; refine Eq.trans ?_ (if_neg kn112_).symm; refine (eA_ti ((hF1644.2.1 60 ma_X10_refused_0_60))).trans ?_; (first | with_reducible rfl | omega | exact eA_ix (by omega) | rfl)), (by intro i i0 i1; refine Eq.trans ?_ (if_neg kn112_).symm; refine (eA_ti ((hF1644.2.1 61 ma_X10_refused_0_61))).trans ?_; (first | with_reducible rfl | omega | exact eA_ix (by omega) | rfl)), (by intro i i0 i1; refine Eq.trans ?_ (if_neg kn112_).symm; refine (eA_ti ((hF1644.2.1 62 ma_X10_refused_0_62))).trans ?_; (first | with_reducible rfl | omega | exact eA_ix (by omega) | rfl)), (by intro i i0 i1; refine Eq.trans ?_ (if_neg kn112_).symm; refine (eA_ti ((hF1644.2.1 72 ma_X10_refused_0_72))).trans ?_; (first | with_reducible rfl | omega | exact eA_ix (by omega) | rfl)), (by intro i i0 i1; refine Eq.trans ?_ (if_neg kn112_).symm; refine (eA_ti ((hF1644.2.1 73 ma_X10_refused_0_73))).trans ?_; (first | with_reducible rfl | omega | exact eA_ix (by omega) | rfl)), (by intro i i0 i1; refine Eq.trans ?_ (if_neg kn113_).symm; refine (eA_ti ((hF1644.2.1 117 ma_X10_refused_0_117))).trans ?_; (first | with_reducible rfl | omega | exact eA_ix (by omega) | rfl)), (by intro i i0 i1; refine Eq.trans ?_ (if_neg kn113_).symm; refine (eA_ti ((hF1644.2.1 118 ma_X10_refused_0_118))).trans ?_; (first | with_reducible rfl | omega | exact eA_ix (by omega) | rfl)), (by intro i i0 i1; refine Eq.trans ?_ (if_neg kn113_).symm; refine (eA_ti ((hF1644.2.1 119 ma_X10_refused_0_119))).trans ?_; (first | with_reducible rfl | omega | exact eA_ix (by omega) | rfl)), (by intro i i0 i1; refine Eq.trans ?_ (if_neg kn113_).symm; refine (eA_ti ((hF1644.2.1 129 ma_X10_refused_0_129))).trans ?_; (first | with_reducible rfl | omega | exact eA_ix (by omega) | rfl)), (by intro i i0 i1; refine Eq.trans ?_ (if_neg kn113_).symm; refine (eA_ti ((hF1644.2.1 130 ma_X10_refused_0_130))).trans ?_; (first | with_reducible rfl | omega | exact eA_ix (by omega) | rfl)), (by intro i i0 i1; refine Eq.trans ?_ (if_neg kn112_).symm; refine (eA_ti ((hF1644.2.1 63 ma_X10_refused_0_63))).trans ?_; (first | with_reducible rfl | omega | exact eA_ix (by omega) | rfl)), (by intro i i0 i1; refine Eq.trans ?_ (if_neg kn113_).symm; refine (eA_ti ((hF1644.2.1 120 ma_X10_refused_0_120))).trans ?_; (first | with_reducible rfl | omega | exact eA_ix (by omega) | rfl))⟩, ⟨(fun h => False.elim (by omega)), (fun h => False.elim (by omega)), fun _ => (LSA_tr LSA_rf (LSA_fr hF1644 rfl))⟩⟩⟩
    · have c1641_ : a1.toInt ≤ 1 := en_i_gt_f c1641
      refine At.enter rfl ?_
      refine r_iconst 1 rfl ?_
      refine r_goto ?_
      refine At.enter rfl ?_
      refine q_iretz (by decide) ?_
      refine At.enter rfl ?_
      refine r_iff 9 rfl (by decide) ?_
      refine At.enter rfl ?_
      refine r_aload_n rfl ?_
      refine q_getR (Sh.ref hI0.1 kx_0 rfl) ?_
      refine r_iload_n rfl ?_
      by_cases c1711_0 : a1.toInt = 0
      · refine q_aald (Sh.rar hI0.1 ka_58) (by decide) 0 (by omega) (by decide) (some 59) rfl ?_
        refine r_goto ?_
        refine At.enter rfl ?_
        refine q_aret ?_
        refine At.enter rfl ?_
        refine r_astore_n ([(2, .ref 59), (0, .ref 0), (1, .int a1)]) rfl ?_
        refine r_aload_n rfl ?_
        refine r_nnr ?_
        refine At.enter rfl ?_
        refine r_aload_n rfl ?_
        refine r_aload_n rfl ?_
        refine q_getR (Sh.ref hI0.1 kx_0 rfl) ?_
        refine q_inlV 24 rfl [.ref 59, .ref 1] [] (Nat.le_of_ble_eq_true rfl) rfl ?_
        refine Ev.mk rfl rfl ⟨Nat.le_of_ble_eq_true rfl, Or.inr (q_rc hI0.1 kx_59 rfl)⟩ ?_
        show At _ none _ _ (0, [(0, .ref 59), (1, .ref 1)], [], (_, _)) _
        refine At.enter rfl ?_
        refine r_aload_n rfl ?_
        refine r_aload_n rfl ?_
        obtain ⟨v1712, hv1712⟩ : ∃ v, gI g0 1 0 = v := ⟨_, rfl⟩
        have rv1712 := RgF.at hI0.2.1 (p := 1) (b := 0) rfl
        rw [hv1712] at rv1712
        dsimp only at rv1712
        refine q_getI (Sh.int hI0.1 kx_1 rfl) v1712 hv1712 ?_
        refine q_putI (Sh.int hI0.1 kx_59 rfl) rfl ?_
        have hI1713 := HI.wI1 hI0 kx_59 rfl (p := 59) (b := 0) (v := v1712) rfl (by dsimp only; omega)
        have hF1714 := Fr.wI (p := 59) (b := 0) (v := v1712) hF0 rfl
        refine r_aload_n rfl ?_
        refine q_getR (Sh.ref hI1713.1 kx_1 rfl) ?_
        refine r_iconst 0 rfl ?_
        refine r_aload_n rfl ?_
        refine q_getR (Sh.ref hI1713.1 kx_59 rfl) ?_
        refine r_iconst 0 rfl ?_
        refine r_bipush 12 rfl ?_
        have zv1715 : (0 : Int32).toInt = 0 := rfl
        have zv1716 : (0 : Int32).toInt = 0 := rfl
        have zv1717 : (12 : Int32).toInt = 12 := rfl
        refine q_cpy rfl (Nat.le_of_ble_eq_true rfl) (Sh.arr hI1713.1 ka_2) (Sh.arr hI1713.1 ka_60) ⟨by omega, by omega, by omega, by omega, by omega⟩ ?_
        have hI1718 := HI.cpy0 hI1713 ka_2 ka_60 rfl rfl ((0 : Int32).toInt.toNat) ((0 : Int32).toInt.toNat) ((12 : Int32).toInt.toNat) (by omega) (by omega)
        have hF1719 := Fr.cpy (p0 := 2) (p1 := 60) hF1714 rfl ((0 : Int32).toInt.toNat) ((0 : Int32).toInt.toNat) ((12 : Int32).toInt.toNat)
        refine r_aload_n rfl ?_
        refine q_getR (Sh.ref hI1718.1 kx_1 rfl) ?_
        refine r_iconst 0 rfl ?_
        refine r_aload_n rfl ?_
        refine q_getR (Sh.ref hI1718.1 kx_59 rfl) ?_
        refine r_iconst 0 rfl ?_
        refine r_bipush 12 rfl ?_
        have zv1720 : (0 : Int32).toInt = 0 := rfl
        have zv1721 : (0 : Int32).toInt = 0 := rfl
        have zv1722 : (12 : Int32).toInt = 12 := rfl
        refine q_cpy rfl (Nat.le_of_ble_eq_true rfl) (Sh.arr hI1718.1 ka_3) (Sh.arr hI1718.1 ka_61) ⟨by omega, by omega, by omega, by omega, by omega⟩ ?_
        have hI1723 := HI.cpy0 hI1718 ka_3 ka_61 rfl rfl ((0 : Int32).toInt.toNat) ((0 : Int32).toInt.toNat) ((12 : Int32).toInt.toNat) (by omega) (by omega)
        have hF1724 := Fr.cpy (p0 := 3) (p1 := 61) hF1719 rfl ((0 : Int32).toInt.toNat) ((0 : Int32).toInt.toNat) ((12 : Int32).toInt.toNat)
        refine r_aload_n rfl ?_
        refine q_getR (Sh.ref hI1723.1 kx_1 rfl) ?_
        refine r_iconst 0 rfl ?_
        refine r_aload_n rfl ?_
        refine q_getR (Sh.ref hI1723.1 kx_59 rfl) ?_
        refine r_iconst 0 rfl ?_
        refine r_bipush 12 rfl ?_
        have zv1725 : (0 : Int32).toInt = 0 := rfl
        have zv1726 : (0 : Int32).toInt = 0 := rfl
        have zv1727 : (12 : Int32).toInt = 12 := rfl
        refine q_cpy rfl (Nat.le_of_ble_eq_true rfl) (Sh.arr hI1723.1 ka_4) (Sh.arr hI1723.1 ka_62) ⟨by omega, by omega, by omega, by omega, by omega⟩ ?_
        have hI1728 := HI.cpy0 hI1723 ka_4 ka_62 rfl rfl ((0 : Int32).toInt.toNat) ((0 : Int32).toInt.toNat) ((12 : Int32).toInt.toNat) (by omega) (by omega)
        have hF1729 := Fr.cpy (p0 := 4) (p1 := 62) hF1724 rfl ((0 : Int32).toInt.toNat) ((0 : Int32).toInt.toNat) ((12 : Int32).toInt.toNat)
        refine r_aload_n rfl ?_
        refine r_aload_n rfl ?_
        obtain ⟨v1730, hv1730⟩ : ∃ v, gI g0 1 4 = v := ⟨_, rfl⟩
        have rv1730 := RgF.at hI0.2.1 (p := 1) (b := 4) rfl
        rw [hv1730] at rv1730
        dsimp only at rv1730
        refine q_getI (Sh.int hI1728.1 kx_1 rfl) v1730 (((gI_sW).trans ((gI_sW).trans ((gI_sW).trans (gI_sI_ne (by decide))))).trans hv1730) ?_
        refine q_putI (Sh.int hI1728.1 kx_59 rfl) rfl ?_
        have hI1731 := HI.wI1 hI1728 kx_59 rfl (p := 59) (b := 4) (v := v1730) rfl (by dsimp only; omega)
        have hF1732 := Fr.wI (p := 59) (b := 4) (v := v1730) hF1729 rfl
        refine r_aload_n rfl ?_
        refine q_getR (Sh.ref hI1731.1 kx_1 rfl) ?_
        refine r_iconst 0 rfl ?_
        refine r_aload_n rfl ?_
        refine q_getR (Sh.ref hI1731.1 kx_59 rfl) ?_
        refine r_iconst 0 rfl ?_
        refine r_bipush 48 rfl ?_
        have zv1733 : (0 : Int32).toInt = 0 := rfl
        have zv1734 : (0 : Int32).toInt = 0 := rfl
        have zv1735 : (48 : Int32).toInt = 48 := rfl
        refine q_cpy rfl (Nat.le_of_ble_eq_true rfl) (Sh.arr hI1731.1 ka_5) (Sh.arr hI1731.1 ka_63) ⟨by omega, by omega, by omega, by omega, by omega⟩ ?_
        have hI1736 := HI.cpy0 hI1731 ka_5 ka_63 rfl rfl ((0 : Int32).toInt.toNat) ((0 : Int32).toInt.toNat) ((48 : Int32).toInt.toNat) (by omega) (by omega)
        have hF1737 := Fr.cpy (p0 := 5) (p1 := 63) hF1732 rfl ((0 : Int32).toInt.toNat) ((0 : Int32).toInt.toNat) ((48 : Int32).toInt.toNat)
        refine r_aload_n rfl ?_
        refine r_aload_n rfl ?_
        obtain ⟨v1738, hv1738⟩ : ∃ v, gI g0 1 6 = v := ⟨_, rfl⟩
        have rv1738 := RgF.at hI0.2.1 (p := 1) (b := 6) rfl
        rw [hv1738] at rv1738
        dsimp only at rv1738
        refine q_getI (Sh.int hI1736.1 kx_1 rfl) v1738 (((gI_sW).trans ((gI_sI_ne (by decide)).trans ((gI_sW).trans ((gI_sW).trans ((gI_sW).trans (gI_sI_ne (by decide))))))).trans hv1738) ?_
        refine q_putI (Sh.int hI1736.1 kx_59 rfl) rfl ?_
        have hI1739 := HI.wI1 hI1736 kx_59 rfl (p := 59) (b := 6) (v := v1738) rfl (by dsimp only; omega)
        have hF1740 := Fr.wI (p := 59) (b := 6) (v := v1738) hF1737 rfl
        refine r_iconst 0 rfl ?_
        refine r_istore_n ([(2, .int 0), (0, .ref 59), (1, .ref 1)]) rfl ?_
        refine Ar.fall 86 rfl ?_
        obtain ⟨v1741, hv1741⟩ : ∃ v, gI g0 59 10 = v := ⟨_, rfl⟩
        have tv1741 := congrArg Int32.toInt hv1741
        obtain ⟨v1742, hv1742⟩ : ∃ v, gI g0 59 11 = v := ⟨_, rfl⟩
        have tv1742 := congrArg Int32.toInt hv1742
        obtain ⟨v1743, hv1743⟩ : ∃ v, gI g0 59 12 = v := ⟨_, rfl⟩
        have rv1743 := RgF.at hI0.2.1 (p := 59) (b := 12) rfl
        rw [hv1743] at rv1743
        dsimp only at rv1743
        have tv1743 := congrArg Int32.toInt hv1743
        obtain ⟨v1744, hv1744⟩ : ∃ v, gI g0 59 9 = v := ⟨_, rfl⟩
        have tv1744 := congrArg Int32.toInt hv1744
        obtain ⟨v1745, hv1745⟩ : ∃ v, gI g0 116 0 = v := ⟨_, rfl⟩
        have rv1745 := RgF.at hI0.2.1 (p := 116) (b := 0) rfl
        rw [hv1745] at rv1745
        dsimp only at rv1745
        have tv1745 := congrArg Int32.toInt hv1745
        obtain ⟨v1746, hv1746⟩ : ∃ v, gI g0 116 10 = v := ⟨_, rfl⟩
        have tv1746 := congrArg Int32.toInt hv1746
        obtain ⟨v1747, hv1747⟩ : ∃ v, gI g0 116 11 = v := ⟨_, rfl⟩
        have tv1747 := congrArg Int32.toInt hv1747
        obtain ⟨v1748, hv1748⟩ : ∃ v, gI g0 116 12 = v := ⟨_, rfl⟩
        have rv1748 := RgF.at hI0.2.1 (p := 116) (b := 12) rfl
        rw [hv1748] at rv1748
        dsimp only at rv1748
        have tv1748 := congrArg Int32.toInt hv1748
        obtain ⟨v1749, hv1749⟩ : ∃ v, gI g0 116 4 = v := ⟨_, rfl⟩
        have rv1749 := RgF.at hI0.2.1 (p := 116) (b := 4) rfl
        rw [hv1749] at rv1749
        dsimp only at rv1749
        have tv1749 := congrArg Int32.toInt hv1749
        obtain ⟨v1750, hv1750⟩ : ∃ v, gI g0 116 6 = v := ⟨_, rfl⟩
        have rv1750 := RgF.at hI0.2.1 (p := 116) (b := 6) rfl
        rw [hv1750] at rv1750
        dsimp only at rv1750
        have tv1750 := congrArg Int32.toInt hv1750
        obtain ⟨v1751, hv1751⟩ : ∃ v, gI g0 116 9 = v := ⟨_, rfl⟩
        have tv1751 := congrArg Int32.toInt hv1751
        obtain ⟨v1752, hv1752⟩ : ∃ v, eA g0 173 0 = v := ⟨_, rfl⟩
        have tv1752 := congrArg Int32.toInt hv1752
        obtain ⟨v1753, hv1753⟩ : ∃ v, eA g0 173 1 = v := ⟨_, rfl⟩
        have tv1753 := congrArg Int32.toInt hv1753
        have z_2028 : (0 : Int32).toInt = 0 := rfl
        refine w_loopI (fun n_ l_ g_ => ∃ x1988 : Int32, n_ = 6 - x1988.toInt ∧ HI g_ ∧ Fr F_X10_image_0 A_X10_image_0 g0 g_ ∧ gI g_ 59 0 = v1712 ∧ gI g_ 59 10 = v1741 ∧ gI g_ 59 11 = v1742 ∧ gI g_ 59 12 = v1743 ∧ gI g_ 59 4 = v1730 ∧ gI g_ 59 6 = v1738 ∧ gI g_ 59 9 = v1744 ∧ gI g_ 116 0 = v1745 ∧ gI g_ 116 10 = v1746 ∧ gI g_ 116 11 = v1747 ∧ gI g_ 116 12 = v1748 ∧ gI g_ 116 4 = v1749 ∧ gI g_ 116 6 = v1750 ∧ gI g_ 116 9 = v1751 ∧ eA g_ 173 0 = v1752 ∧ eA g_ 173 1 = v1753 ∧ en_get 0 l_ = some (.ref 59) ∧ en_get 1 l_ = some (.ref 1) ∧ en_get 2 l_ = some (.int x1988) ∧ (0 ≤ x1988.toInt ∧ x1988.toInt ≤ 6) ∧ (∀ i : Int, 0 ≤ i → i < 12 → (eA g_ 60 (i)).toInt = (eA g0 2 (i)).toInt) ∧ (∀ i : Int, 0 ≤ i → i < 12 → (eA g_ 61 (i)).toInt = (eA g0 3 (i)).toInt) ∧ (∀ i : Int, 0 ≤ i → i < 12 → (eA g_ 62 (i)).toInt = (eA g0 4 (i)).toInt) ∧ (∀ i : Int, 0 ≤ i → i < 8 → (eA g_ 72 (i)).toInt = (eA g0 72 (i)).toInt) ∧ (∀ i : Int, 0 ≤ i → i < 8 → (eA g_ 73 (i)).toInt = (eA g0 73 (i)).toInt) ∧ (∀ i : Int, 0 ≤ i → i < 12 → (eA g_ 117 (i)).toInt = (eA g0 117 (i)).toInt) ∧ (∀ i : Int, 0 ≤ i → i < 12 → (eA g_ 118 (i)).toInt = (eA g0 118 (i)).toInt) ∧ (∀ i : Int, 0 ≤ i → i < 12 → (eA g_ 119 (i)).toInt = (eA g0 119 (i)).toInt) ∧ (∀ i : Int, 0 ≤ i → i < 8 → (eA g_ 129 (i)).toInt = (eA g0 129 (i)).toInt) ∧ (∀ i : Int, 0 ≤ i → i < 8 → (eA g_ 130 (i)).toInt = (eA g0 130 (i)).toInt) ∧ (∀ i : Int, 0 ≤ i → i < 48 → (eA g_ 63 (i)).toInt = (eA g0 5 (i)).toInt) ∧ (∀ i : Int, 0 ≤ i → i < 48 → (eA g_ 120 (i)).toInt = (eA g0 120 (i)).toInt) ∧ (BCI g0 g_ 59 1 x1988.toInt)) ?_ (6 - 0) ⟨0, by first | rfl | omega, hI1739, hF1740, ((gI_sI_ne (by decide)).trans ((gI_sW).trans ((gI_sI_ne (by decide)).trans ((gI_sW).trans ((gI_sW).trans ((gI_sW).trans (gI_sI_eq hI0.1 kx_59 rfl _))))))), (((gI_sI_ne (by decide)).trans ((gI_sW).trans ((gI_sI_ne (by decide)).trans ((gI_sW).trans ((gI_sW).trans ((gI_sW).trans (gI_sI_ne (by decide)))))))).trans hv1741), (((gI_sI_ne (by decide)).trans ((gI_sW).trans ((gI_sI_ne (by decide)).trans ((gI_sW).trans ((gI_sW).trans ((gI_sW).trans (gI_sI_ne (by decide)))))))).trans hv1742), (((gI_sI_ne (by decide)).trans ((gI_sW).trans ((gI_sI_ne (by decide)).trans ((gI_sW).trans ((gI_sW).trans ((gI_sW).trans (gI_sI_ne (by decide)))))))).trans hv1743), ((gI_sI_ne (by decide)).trans ((gI_sW).trans (gI_sI_eq hI1728.1 kx_59 rfl _))), (gI_sI_eq hI1736.1 kx_59 rfl _), (((gI_sI_ne (by decide)).trans ((gI_sW).trans ((gI_sI_ne (by decide)).trans ((gI_sW).trans ((gI_sW).trans ((gI_sW).trans (gI_sI_ne (by decide)))))))).trans hv1744), (((gI_sI_ne (by decide)).trans ((gI_sW).trans ((gI_sI_ne (by decide)).trans ((gI_sW).trans ((gI_sW).trans ((gI_sW).trans (gI_sI_ne (by decide)))))))).trans hv1745), (((gI_sI_ne (by decide)).trans ((gI_sW).trans ((gI_sI_ne (by decide)).trans ((gI_sW).trans ((gI_sW).trans ((gI_sW).trans (gI_sI_ne (by decide)))))))).trans hv1746), (((gI_sI_ne (by decide)).trans ((gI_sW).trans ((gI_sI_ne (by decide)).trans ((gI_sW).trans ((gI_sW).trans ((gI_sW).trans (gI_sI_ne (by decide)))))))).trans hv1747), (((gI_sI_ne (by decide)).trans ((gI_sW).trans ((gI_sI_ne (by decide)).trans ((gI_sW).trans ((gI_sW).trans ((gI_sW).trans (gI_sI_ne (by decide)))))))).trans hv1748), (((gI_sI_ne (by decide)).trans ((gI_sW).trans ((gI_sI_ne (by decide)).trans ((gI_sW).trans ((gI_sW).trans ((gI_sW).trans (gI_sI_ne (by decide)))))))).trans hv1749), (((gI_sI_ne (by decide)).trans ((gI_sW).trans ((gI_sI_ne (by decide)).trans ((gI_sW).trans ((gI_sW).trans ((gI_sW).trans (gI_sI_ne (by decide)))))))).trans hv1750), (((gI_sI_ne (by decide)).trans ((gI_sW).trans ((gI_sI_ne (by decide)).trans ((gI_sW).trans ((gI_sW).trans ((gI_sW).trans (gI_sI_ne (by decide)))))))).trans hv1751), (((eA_c gA_sI).trans ((eA_c (gA_sW_ne (by decide))).trans ((eA_c gA_sI).trans ((eA_c (gA_sW_ne (by decide))).trans ((eA_c (gA_sW_ne (by decide))).trans ((eA_c (gA_sW_ne (by decide))).trans (eA_c gA_sI))))))).trans hv1752), (((eA_c gA_sI).trans ((eA_c (gA_sW_ne (by decide))).trans ((eA_c gA_sI).trans ((eA_c (gA_sW_ne (by decide))).trans ((eA_c (gA_sW_ne (by decide))).trans ((eA_c (gA_sW_ne (by decide))).trans (eA_c gA_sI))))))).trans hv1753), rfl, rfl, rfl, by decide, (by intro i i0 i1; refine (eA_tq (((gA_sI).trans ((gA_sW_ne (by decide)).trans ((gA_sI).trans ((gA_sW_ne (by decide)).trans ((gA_sW_ne (by decide)).trans ((gA_cpF hI1713.1 ka_2 ka_60 (by decide) (by decide) (by decide)).trans (gA_sI))))))))).trans ?_; (first | with_reducible rfl | omega | exact eA_ix (by omega) | rfl)), (by intro i i0 i1; refine (eA_tq (((gA_sI).trans ((gA_sW_ne (by decide)).trans ((gA_sI).trans ((gA_sW_ne (by decide)).trans ((gA_cpF hI1718.1 ka_3 ka_61 (by decide) (by decide) (by decide)).trans ((gA_sW_ne (by decide)).trans (gA_sI))))))))).trans ?_; (first | with_reducible rfl | omega | exact eA_ix (by omega) | rfl)), (by intro i i0 i1; refine (eA_tq (((gA_sI).trans ((gA_sW_ne (by decide)).trans ((gA_sI).trans ((gA_cpF hI1723.1 ka_4 ka_62 (by decide) (by decide) (by decide)).trans ((gA_sW_ne (by decide)).trans ((gA_sW_ne (by decide)).trans (gA_sI))))))))).trans ?_; (first | with_reducible rfl | omega | exact eA_ix (by omega) | rfl)), (by intro i i0 i1; refine (eA_ti (((gA_sI).trans ((gA_sW_ne (by decide)).trans ((gA_sI).trans ((gA_sW_ne (by decide)).trans ((gA_sW_ne (by decide)).trans ((gA_sW_ne (by decide)).trans (gA_sI))))))))).trans ?_; (first | with_reducible rfl | omega | exact eA_ix (by omega) | rfl)), (by intro i i0 i1; refine (eA_ti (((gA_sI).trans ((gA_sW_ne (by decide)).trans ((gA_sI).trans ((gA_sW_ne (by decide)).trans ((gA_sW_ne (by decide)).trans ((gA_sW_ne (by decide)).trans (gA_sI))))))))).trans ?_; (first | with_reducible rfl | omega | exact eA_ix (by omega) | rfl)), (by intro i i0 i1; refine (eA_ti (((gA_sI).trans ((gA_sW_ne (by decide)).trans ((gA_sI).trans ((gA_sW_ne (by decide)).trans ((gA_sW_ne (by decide)).trans ((gA_sW_ne (by decide)).trans (gA_sI))))))))).trans ?_; (first | with_reducible rfl | omega | exact eA_ix (by omega) | rfl)), (by intro i i0 i1; refine (eA_ti (((gA_sI).trans ((gA_sW_ne (by decide)).trans ((gA_sI).trans ((gA_sW_ne (by decide)).trans ((gA_sW_ne (by decide)).trans ((gA_sW_ne (by decide)).trans (gA_sI))))))))).trans ?_; (first | with_reducible rfl | omega | exact eA_ix (by omega) | rfl)), (by intro i i0 i1; refine (eA_ti (((gA_sI).trans ((gA_sW_ne (by decide)).trans ((gA_sI).trans ((gA_sW_ne (by decide)).trans ((gA_sW_ne (by decide)).trans ((gA_sW_ne (by decide)).trans (gA_sI))))))))).trans ?_; (first | with_reducible rfl | omega | exact eA_ix (by omega) | rfl)), (by intro i i0 i1; refine (eA_ti (((gA_sI).trans ((gA_sW_ne (by decide)).trans ((gA_sI).trans ((gA_sW_ne (by decide)).trans ((gA_sW_ne (by decide)).trans ((gA_sW_ne (by decide)).trans (gA_sI))))))))).trans ?_; (first | with_reducible rfl | omega | exact eA_ix (by omega) | rfl)), (by intro i i0 i1; refine (eA_ti (((gA_sI).trans ((gA_sW_ne (by decide)).trans ((gA_sI).trans ((gA_sW_ne (by decide)).trans ((gA_sW_ne (by decide)).trans ((gA_sW_ne (by decide)).trans (gA_sI))))))))).trans ?_; (first | with_reducible rfl | omega | exact eA_ix (by omega) | rfl)), (by intro i i0 i1; refine (eA_tq (((gA_sI).trans ((gA_cpF hI1731.1 ka_5 ka_63 (by decide) (by decide) (by decide)).trans ((gA_sI).trans ((gA_sW_ne (by decide)).trans ((gA_sW_ne (by decide)).trans ((gA_sW_ne (by decide)).trans (gA_sI))))))))).trans ?_; (first | with_reducible rfl | omega | exact eA_ix (by omega) | rfl)), (by intro i i0 i1; refine (eA_ti (((gA_sI).trans ((gA_sW_ne (by decide)).trans ((gA_sI).trans ((gA_sW_ne (by decide)).trans ((gA_sW_ne (by decide)).trans ((gA_sW_ne (by decide)).trans (gA_sI))))))))).trans ?_; (first | with_reducible rfl | omega | exact eA_ix (by omega) | rfl)), (BCI_z (LSA_tr (LSA_tr (LSA_tr (LSA_tr (LSA_tr (LSA_tr (LSA_tr LSA_rf (LSA_I rfl)) (LSA_W rfl)) (LSA_W rfl)) (LSA_W rfl)) (LSA_I rfl)) (LSA_W rfl)) (LSA_I rfl)) (by first | decide | omega))⟩
        rintro n1993 l1992 g1989 ⟨x1988, hm2029, hI1990, hF1991, e1995, e1996, e1997, e1998, e1999, e2000, e2001, e2002, e2003, e2004, e2005, e2006, e2007, e2008, e2009, e2010, e2011, e2012, e2013, r2014, q2015, q2016, q2017, q2018, q2019, q2020, q2021, q2022, q2023, q2024, q2025, q2026, q2027⟩ ih1994
        have tv2030 := congrArg Int32.toInt e2009
        have tv2031 := congrArg Int32.toInt e2010
        have tv2032 := congrArg Int32.toInt e1995
        have tv2033 := congrArg Int32.toInt e1996
        have tv2034 := congrArg Int32.toInt e1997
        have tv2035 := congrArg Int32.toInt e1998
        have tv2036 := congrArg Int32.toInt e1999
        have tv2037 := congrArg Int32.toInt e2000
        have tv2038 := congrArg Int32.toInt e2001
        have tv2039 := congrArg Int32.toInt e2002
        have tv2040 := congrArg Int32.toInt e2003
        have tv2041 := congrArg Int32.toInt e2004
        have tv2042 := congrArg Int32.toInt e2005
        have tv2043 := congrArg Int32.toInt e2006
        have tv2044 := congrArg Int32.toInt e2007
        have tv2045 := congrArg Int32.toInt e2008
        refine At.enter rfl ?_
        refine r_iload_n e2013 ?_
        refine r_bipush 6 rfl ?_
        refine r_ics 92 rfl (fun c2046 => ?_) (fun c2046 => ?_)
        · have c2046_ : x1988.toInt ≥ 6 := en_i_ge_t c2046
          refine At.enter rfl ?_
          refine r_aload_n e2011 ?_
          refine r_aload_n e2012 ?_
          obtain ⟨v2047, hv2047⟩ : ∃ v, gI g0 1 9 = v := ⟨_, rfl⟩
          refine q_getI (Sh.int hI1990.1 kx_1 rfl) v2047 ((hF1991.1 1 9 (by decide)).trans hv2047) ?_
          refine q_putI (Sh.int hI1990.1 kx_59 rfl) rfl ?_
          have hI2048 := HI.wI0 hI1990 kx_59 rfl (p := 59) (b := 9) (v := v2047) rfl
          have hF2049 := Fr.wI (p := 59) (b := 9) (v := v2047) hF1991 rfl
          refine r_aload_n e2011 ?_
          refine r_aload_n e2012 ?_
          obtain ⟨v2050, hv2050⟩ : ∃ v, gI g0 1 10 = v := ⟨_, rfl⟩
          refine q_getI (Sh.int hI2048.1 kx_1 rfl) v2050 (((gI_sI_ne (by decide)).trans (hF1991.1 1 10 (by decide))).trans hv2050) ?_
          refine q_putI (Sh.int hI2048.1 kx_59 rfl) rfl ?_
          have hI2051 := HI.wI0 hI2048 kx_59 rfl (p := 59) (b := 10) (v := v2050) rfl
          have hF2052 := Fr.wI (p := 59) (b := 10) (v := v2050) hF2049 rfl
          refine r_aload_n e2011 ?_
          refine r_aload_n e2012 ?_
          obtain ⟨v2053, hv2053⟩ : ∃ v, gI g0 1 11 = v := ⟨_, rfl⟩
          refine q_getI (Sh.int hI2051.1 kx_1 rfl) v2053 (((gI_sI_ne (by decide)).trans ((gI_sI_ne (by decide)).trans (hF1991.1 1 11 (by decide)))).trans hv2053) ?_
          refine q_putI (Sh.int hI2051.1 kx_59 rfl) rfl ?_
          have hI2054 := HI.wI0 hI2051 kx_59 rfl (p := 59) (b := 11) (v := v2053) rfl
          have hF2055 := Fr.wI (p := 59) (b := 11) (v := v2053) hF2052 rfl
          refine r_aload_n e2011 ?_
          refine r_aload_n e2012 ?_
          obtain ⟨v2056, hv2056⟩ : ∃ v, gI g0 1 12 = v := ⟨_, rfl⟩
          have rv2056 := RgF.at hI0.2.1 (p := 1) (b := 12) rfl
          rw [hv2056] at rv2056
          dsimp only at rv2056
          refine q_getI (Sh.int hI2054.1 kx_1 rfl) v2056 (((gI_sI_ne (by decide)).trans ((gI_sI_ne (by decide)).trans ((gI_sI_ne (by decide)).trans (hF1991.1 1 12 (by decide))))).trans hv2056) ?_
          refine q_putI (Sh.int hI2054.1 kx_59 rfl) rfl ?_
          have hI2057 := HI.wI1 hI2054 kx_59 rfl (p := 59) (b := 12) (v := v2056) rfl (by dsimp only; omega)
          have hF2058 := Fr.wI (p := 59) (b := 12) (v := v2056) hF2055 rfl
          refine r_aload_n e2012 ?_
          refine q_getR (Sh.ref hI2057.1 kx_1 rfl) ?_
          refine r_iconst 0 rfl ?_
          refine r_aload_n e2011 ?_
          refine q_getR (Sh.ref hI2057.1 kx_59 rfl) ?_
          refine r_iconst 0 rfl ?_
          refine r_bipush 8 rfl ?_
          have zv2059 : (0 : Int32).toInt = 0 := rfl
          have zv2060 : (0 : Int32).toInt = 0 := rfl
          have zv2061 : (8 : Int32).toInt = 8 := rfl
          refine q_cpy rfl (Nat.le_of_ble_eq_true rfl) (Sh.arr hI2057.1 ka_14) (Sh.arr hI2057.1 ka_72) ⟨by omega, by omega, by omega, by omega, by omega⟩ ?_
          have hI2062 := HI.cpy0 hI2057 ka_14 ka_72 rfl rfl ((0 : Int32).toInt.toNat) ((0 : Int32).toInt.toNat) ((8 : Int32).toInt.toNat) (by omega) (by omega)
          have hF2063 := Fr.cpy (p0 := 14) (p1 := 72) hF2058 rfl ((0 : Int32).toInt.toNat) ((0 : Int32).toInt.toNat) ((8 : Int32).toInt.toNat)
          refine r_aload_n e2012 ?_
          refine q_getR (Sh.ref hI2062.1 kx_1 rfl) ?_
          refine r_iconst 0 rfl ?_
          refine r_aload_n e2011 ?_
          refine q_getR (Sh.ref hI2062.1 kx_59 rfl) ?_
          refine r_iconst 0 rfl ?_
          refine r_bipush 8 rfl ?_
          have zv2064 : (0 : Int32).toInt = 0 := rfl
          have zv2065 : (0 : Int32).toInt = 0 := rfl
          have zv2066 : (8 : Int32).toInt = 8 := rfl
          refine q_cpy rfl (Nat.le_of_ble_eq_true rfl) (Sh.arr hI2062.1 ka_15) (Sh.arr hI2062.1 ka_73) ⟨by omega, by omega, by omega, by omega, by omega⟩ ?_
          have hI2067 := HI.cpy0 hI2062 ka_15 ka_73 rfl rfl ((0 : Int32).toInt.toNat) ((0 : Int32).toInt.toNat) ((8 : Int32).toInt.toNat) (by omega) (by omega)
          have hF2068 := Fr.cpy (p0 := 15) (p1 := 73) hF2063 rfl ((0 : Int32).toInt.toNat) ((0 : Int32).toInt.toNat) ((8 : Int32).toInt.toNat)
          refine q_vret ?_
          refine At.enter rfl ?_
          refine r_aload_n rfl ?_
          refine q_getR (Sh.ref hI2067.1 kx_0 rfl) ?_
          refine r_iload_n rfl ?_
          refine r_iconst 1 rfl ?_
          refine q_bast (Sh.arr hI2067.1 ka_173) (a1.toInt) rfl (by omega) rfl ?_
          have hI2069 := HI.wA0 hI2067 ka_173 (p := 173) rfl rfl (a1.toInt) (1)
          have hF2070 := Fr.wA (p := 173) (j := a1.toInt) (v := 1) hF2068 rfl
          refine r_aload_n rfl ?_
          refine r_iconst 0 rfl ?_
          refine q_inlV 36 rfl [.ref 0, .int 0] [] (Nat.le_of_ble_eq_true rfl) rfl ?_
          refine Ev.mk rfl rfl ⟨Nat.le_of_ble_eq_true rfl, Or.inr (q_rc hI2069.1 kx_0 rfl)⟩ ?_
          show At _ none _ _ (0, [(0, .ref 0), (1, .int 0)], [], (_, _)) _
          refine At.enter rfl ?_
          refine r_aload_n rfl ?_
          refine r_iconst 0 rfl ?_
          refine q_putI (Sh.int hI2069.1 kx_0 rfl) rfl ?_
          have hI2071 := HI.wI0 hI2069 kx_0 rfl (p := 0) (b := 17) (v := 0) rfl
          have hF2072 := Fr.wI (p := 0) (b := 17) (v := 0) hF2070 rfl
          refine r_iload_n rfl ?_
          refine q_ireti ?_
          refine At.enter rfl ?_
          refine r_ireti ?_
          have zv2073 : (0 : Int32).toInt = 0 := rfl
          have e : a1.toInt = 0 := by omega
          exact ⟨_, rfl, hI2071, hF2072, _, rfl, by decide, ⟨⟨⟨(fun _ => ⟨(HI.eqA hI2071 (p := 173) (j := 0) (((eA_c gA_sI).trans (eA_sA_eq hI2067.1 ka_173 (by omega) (by first | decide | omega) (by first | decide | omega))))).trans rfl, (by first | rfl | decide), (HI.eqI hI2071 (p := 59) (b := 0) ((((gI_sI_ne (by decide)).trans ((gI_sW).trans ((gI_sW).trans ((gI_sW).trans ((gI_sI_ne (by decide)).trans ((gI_sI_ne (by decide)).trans ((gI_sI_ne (by decide)).trans (gI_sI_ne (by decide))))))))).trans e1995))).trans (HI.eqI hI0 (p := 1) (b := 0) (hv1712)).symm, (HI.eqI hI2071 (p := 59) (b := 12) (((gI_sI_ne (by decide)).trans ((gI_sW).trans ((gI_sW).trans ((gI_sW).trans (gI_sI_eq hI2054.1 kx_59 rfl _))))))).trans (HI.eqI hI0 (p := 1) (b := 12) (hv2056)).symm, (HI.eqI hI2071 (p := 59) (b := 10) (((gI_sI_ne (by decide)).trans ((gI_sW).trans ((gI_sW).trans ((gI_sW).trans ((gI_sI_ne (by decide)).trans ((gI_sI_ne (by decide)).trans (gI_sI_eq hI2048.1 kx_59 rfl _))))))))).trans (HI.eqI hI0 (p := 1) (b := 10) (hv2050)).symm, (HI.eqI hI2071 (p := 59) (b := 11) (((gI_sI_ne (by decide)).trans ((gI_sW).trans ((gI_sW).trans ((gI_sW).trans ((gI_sI_ne (by decide)).trans (gI_sI_eq hI2051.1 kx_59 rfl _)))))))).trans (HI.eqI hI0 (p := 1) (b := 11) (hv2053)).symm, (HI.eqI hI2071 (p := 59) (b := 4) ((((gI_sI_ne (by decide)).trans ((gI_sW).trans ((gI_sW).trans ((gI_sW).trans ((gI_sI_ne (by decide)).trans ((gI_sI_ne (by decide)).trans ((gI_sI_ne (by decide)).trans (gI_sI_ne (by decide))))))))).trans e1999))).trans (HI.eqI hI0 (p := 1) (b := 4) (hv1730)).symm, (HI.eqI hI2071 (p := 59) (b := 6) ((((gI_sI_ne (by decide)).trans ((gI_sW).trans ((gI_sW).trans ((gI_sW).trans ((gI_sI_ne (by decide)).trans ((gI_sI_ne (by decide)).trans ((gI_sI_ne (by decide)).trans (gI_sI_ne (by decide))))))))).trans e2000))).trans (HI.eqI hI0 (p := 1) (b := 6) (hv1738)).symm, (HI.eqI hI2071 (p := 59) (b := 9) (((gI_sI_ne (by decide)).trans ((gI_sW).trans ((gI_sW).trans ((gI_sW).trans ((gI_sI_ne (by decide)).trans ((gI_sI_ne (by decide)).trans ((gI_sI_ne (by decide)).trans (gI_sI_eq hI1990.1 kx_59 rfl _)))))))))).trans (HI.eqI hI0 (p := 1) (b := 9) (hv2047)).symm⟩), (fun h => absurd e h), (fun h => absurd (e.symm.trans h) (by decide)), (fun _ => ⟨(HI.eqA hI2071 (p := 173) (j := 1) ((((eA_c gA_sI).trans ((eA_sA_ne hI2067.1 ka_173 (by first | decide | omega) (by first | decide | omega) (by first | decide | omega)).trans ((eA_c (gA_sW_ne (by decide))).trans ((eA_c (gA_sW_ne (by decide))).trans ((eA_c gA_sI).trans ((eA_c gA_sI).trans ((eA_c gA_sI).trans (eA_c gA_sI)))))))).trans e2010))).trans (HI.eqA hI0 (p := 173) (j := 1) (hv1753)).symm, (HI.eqI hI2071 (p := 116) (b := 0) ((((gI_sI_ne (by decide)).trans ((gI_sW).trans ((gI_sW).trans ((gI_sW).trans ((gI_sI_ne (by decide)).trans ((gI_sI_ne (by decide)).trans ((gI_sI_ne (by decide)).trans (gI_sI_ne (by decide))))))))).trans e2002))).trans (HI.eqI hI0 (p := 116) (b := 0) (hv1745)).symm, (HI.eqI hI2071 (p := 116) (b := 12) ((((gI_sI_ne (by decide)).trans ((gI_sW).trans ((gI_sW).trans ((gI_sW).trans ((gI_sI_ne (by decide)).trans ((gI_sI_ne (by decide)).trans ((gI_sI_ne (by decide)).trans (gI_sI_ne (by decide))))))))).trans e2005))).trans (HI.eqI hI0 (p := 116) (b := 12) (hv1748)).symm, (HI.eqI hI2071 (p := 116) (b := 10) ((((gI_sI_ne (by decide)).trans ((gI_sW).trans ((gI_sW).trans ((gI_sW).trans ((gI_sI_ne (by decide)).trans ((gI_sI_ne (by decide)).trans ((gI_sI_ne (by decide)).trans (gI_sI_ne (by decide))))))))).trans e2003))).trans (HI.eqI hI0 (p := 116) (b := 10) (hv1746)).symm, (HI.eqI hI2071 (p := 116) (b := 11) ((((gI_sI_ne (by decide)).trans ((gI_sW).trans ((gI_sW).trans ((gI_sW).trans ((gI_sI_ne (by decide)).trans ((gI_sI_ne (by decide)).trans ((gI_sI_ne (by decide)).trans (gI_sI_ne (by decide))))))))).trans e2004))).trans (HI.eqI hI0 (p := 116) (b := 11) (hv1747)).symm, (HI.eqI hI2071 (p := 116) (b := 4) ((((gI_sI_ne (by decide)).trans ((gI_sW).trans ((gI_sW).trans ((gI_sW).trans ((gI_sI_ne (by decide)).trans ((gI_sI_ne (by decide)).trans ((gI_sI_ne (by decide)).trans (gI_sI_ne (by decide))))))))).trans e2006))).trans (HI.eqI hI0 (p := 116) (b := 4) (hv1749)).symm, (HI.eqI hI2071 (p := 116) (b := 6) ((((gI_sI_ne (by decide)).trans ((gI_sW).trans ((gI_sW).trans ((gI_sW).trans ((gI_sI_ne (by decide)).trans ((gI_sI_ne (by decide)).trans ((gI_sI_ne (by decide)).trans (gI_sI_ne (by decide))))))))).trans e2007))).trans (HI.eqI hI0 (p := 116) (b := 6) (hv1750)).symm, (HI.eqI hI2071 (p := 116) (b := 9) ((((gI_sI_ne (by decide)).trans ((gI_sW).trans ((gI_sW).trans ((gI_sW).trans ((gI_sI_ne (by decide)).trans ((gI_sI_ne (by decide)).trans ((gI_sI_ne (by decide)).trans (gI_sI_ne (by decide))))))))).trans e2008))).trans (HI.eqI hI0 (p := 116) (b := 9) (hv1751)).symm⟩), (fun h => False.elim (by omega))⟩, (by intro i i0 i1; refine Eq.trans ?_ (if_pos (show a1.toInt = 0 from (by first | exact e | omega))).symm; refine (eA_ti (((gA_sI).trans ((gA_sA_ne (by decide)).trans ((gA_sW_ne (by decide)).trans ((gA_sW_ne (by decide)).trans ((gA_sI).trans ((gA_sI).trans ((gA_sI).trans (gA_sI)))))))))).trans ?_; refine ((q2015 (i) (by first | exact i0 | omega) (by first | exact i1 | omega))).trans ?_; (first | with_reducible rfl | omega | exact eA_ix (by omega) | rfl)), (by intro i i0 i1; refine Eq.trans ?_ (if_pos (show a1.toInt = 0 from (by first | exact e | omega))).symm; refine (eA_ti (((gA_sI).trans ((gA_sA_ne (by decide)).trans ((gA_sW_ne (by decide)).trans ((gA_sW_ne (by decide)).trans ((gA_sI).trans ((gA_sI).trans ((gA_sI).trans (gA_sI)))))))))).trans ?_; refine ((q2016 (i) (by first | exact i0 | omega) (by first | exact i1 | omega))).trans ?_; (first | with_reducible rfl | omega | exact eA_ix (by omega) | rfl)), (by intro i i0 i1; refine Eq.trans ?_ (if_pos (show a1.toInt = 0 from (by first | exact e | omega))).symm; refine (eA_ti (((gA_sI).trans ((gA_sA_ne (by decide)).trans ((gA_sW_ne (by decide)).trans ((gA_sW_ne (by decide)).trans ((gA_sI).trans ((gA_sI).trans ((gA_sI).trans (gA_sI)))))))))).trans ?_; refine ((q2017 (i) (by first | exact i0 | omega) (by first | exact i1 | omega))).trans ?_; (first | with_reducible rfl | omega | exact eA_ix (by omega) | rfl)), (by intro i i0 i1; refine Eq.trans ?_ (if_pos (show a1.toInt = 0 from (by first | exact e | omega))).symm; refine (eA_tq (((gA_sI).trans ((gA_sA_ne (by decide)).trans ((gA_sW_ne (by decide)).trans ((gA_cpF hI2057.1 ka_14 ka_72 (by decide) (by decide) (by decide)).trans ((gA_sI).trans ((gA_sI).trans ((gA_sI).trans ((gA_sI).trans (hF1991.2.1 14 (by decide)))))))))))).trans ?_; (first | with_reducible rfl | omega | exact eA_ix (by omega) | rfl)), (by intro i i0 i1; refine Eq.trans ?_ (if_pos (show a1.toInt = 0 from (by first | exact e | omega))).symm; refine (eA_tq (((gA_sI).trans ((gA_sA_ne (by decide)).trans ((gA_cpF hI2062.1 ka_15 ka_73 (by decide) (by decide) (by decide)).trans ((gA_sW_ne (by decide)).trans ((gA_sI).trans ((gA_sI).trans ((gA_sI).trans ((gA_sI).trans (hF1991.2.1 15 (by decide)))))))))))).trans ?_; (first | with_reducible rfl | omega | exact eA_ix (by omega) | rfl)), (by intro i i0 i1; refine Eq.trans ?_ (if_neg (show ¬ (a1.toInt = 1) from (by first | exact (fun h => absurd (e.symm.trans h) (by decide)) | omega))).symm; refine (eA_ti (((gA_sI).trans ((gA_sA_ne (by decide)).trans ((gA_sW_ne (by decide)).trans ((gA_sW_ne (by decide)).trans ((gA_sI).trans ((gA_sI).trans ((gA_sI).trans (gA_sI)))))))))).trans ?_; refine ((q2020 (i) (by first | exact i0 | omega) (by first | exact i1 | omega))).trans ?_; (first | with_reducible rfl | omega | exact eA_ix (by omega) | rfl)), (by intro i i0 i1; refine Eq.trans ?_ (if_neg (show ¬ (a1.toInt = 1) from (by first | exact (fun h => absurd (e.symm.trans h) (by decide)) | omega))).symm; refine (eA_ti (((gA_sI).trans ((gA_sA_ne (by decide)).trans ((gA_sW_ne (by decide)).trans ((gA_sW_ne (by decide)).trans ((gA_sI).trans ((gA_sI).trans ((gA_sI).trans (gA_sI)))))))))).trans ?_; refine ((q2021 (i) (by first | exact i0 | omega) (by first | exact i1 | omega))).trans ?_; (first | with_reducible rfl | omega | exact eA_ix (by omega) | rfl)), (by intro i i0 i1; refine Eq.trans ?_ (if_neg (show ¬ (a1.toInt = 1) from (by first | exact (fun h => absurd (e.symm.trans h) (by decide)) | omega))).symm; refine (eA_ti (((gA_sI).trans ((gA_sA_ne (by decide)).trans ((gA_sW_ne (by decide)).trans ((gA_sW_ne (by decide)).trans ((gA_sI).trans ((gA_sI).trans ((gA_sI).trans (gA_sI)))))))))).trans ?_; refine ((q2022 (i) (by first | exact i0 | omega) (by first | exact i1 | omega))).trans ?_; (first | with_reducible rfl | omega | exact eA_ix (by omega) | rfl)), (by intro i i0 i1; refine Eq.trans ?_ (if_neg (show ¬ (a1.toInt = 1) from (by first | exact (fun h => absurd (e.symm.trans h) (by decide)) | omega))).symm; refine (eA_ti (((gA_sI).trans ((gA_sA_ne (by decide)).trans ((gA_sW_ne (by decide)).trans ((gA_sW_ne (by decide)).trans ((gA_sI).trans ((gA_sI).trans ((gA_sI).trans (gA_sI)))))))))).trans ?_; refine ((q2023 (i) (by first | exact i0 | omega) (by first | exact i1 | omega))).trans ?_; (first | with_reducible rfl | omega | exact eA_ix (by omega) | rfl)), (by intro i i0 i1; refine Eq.trans ?_ (if_neg (show ¬ (a1.toInt = 1) from (by first | exact (fun h => absurd (e.symm.trans h) (by decide)) | omega))).symm; refine (eA_ti (((gA_sI).trans ((gA_sA_ne (by decide)).trans ((gA_sW_ne (by decide)).trans ((gA_sW_ne (by decide)).trans ((gA_sI).trans ((gA_sI).trans ((gA_sI).trans (gA_sI)))))))))).trans ?_; refine ((q2024 (i) (by first | exact i0 | omega) (by first | exact i1 | omega))).trans ?_; (first | with_reducible rfl | omega | exact eA_ix (by omega) | rfl)), (by intro i i0 i1; refine Eq.trans ?_ (if_pos (show a1.toInt = 0 from (by first | exact e | omega))).symm; refine (eA_ti (((gA_sI).trans ((gA_sA_ne (by decide)).trans ((gA_sW_ne (by decide)).trans ((gA_sW_ne (by decide)).trans ((gA_sI).trans ((gA_sI).trans ((gA_sI).trans (gA_sI)))))))))).trans ?_; refine ((q2025 (i) (by first | exact i0 | omega) (by first | exact i1 | omega))).trans ?_; (first | with_reducible rfl | omega | exact eA_ix (by omega) | rfl)), (by intro i i0 i1; refine Eq.trans ?_ (if_neg (show ¬ (a1.toInt = 1) from (by first | exact (fun h => absurd (e.symm.trans h) (by decide)) | omega))).symm; refine (eA_ti (((gA_sI).trans ((gA_sA_ne (by decide)).trans ((gA_sW_ne (by decide)).trans ((gA_sW_ne (by decide)).trans ((gA_sI).trans ((gA_sI).trans ((gA_sI).trans (gA_sI)))))))))).trans ?_; refine ((q2026 (i) (by first | exact i0 | omega) (by first | exact i1 | omega))).trans ?_; (first | with_reducible rfl | omega | exact eA_ix (by omega) | rfl))⟩, ⟨(fun _ => (BCI_c (BCI_c (BCI_c (BCI_c (BCI_c (BCI_c (BCI_c (BCI_c (show BCI g0 g1989 59 1 6 from (by have e : (6 : Int) = x1988.toInt := (by omega); rw [e]; exact q2027)) (LSA_I rfl) (Or.inr (Or.inl rfl))) (LSA_I rfl) (Or.inr (Or.inl rfl))) (LSA_I rfl) (Or.inr (Or.inl rfl))) (LSA_I rfl) (Or.inr (Or.inl rfl))) (LSA_W rfl) (Or.inr (Or.inl rfl))) (LSA_W rfl) (Or.inr (Or.inl rfl))) (LSA_A rfl) (Or.inr (Or.inl rfl))) (LSA_I rfl) (Or.inr (Or.inl rfl)))), (fun h => False.elim (by omega)), (fun h => False.elim (by omega))⟩⟩⟩
        · have c2046_ : x1988.toInt < 6 := en_i_ge_f c2046
          refine At.enter rfl ?_
          refine r_aload_n e2011 ?_
          refine r_iload_n e2013 ?_
          refine r_callV 97 rfl [.ref 59, .int x1988] [] (Nat.le_of_ble_eq_true rfl) rfl (T_X0_lawAt_59 _ hI1990 x1988) ?_
          rintro _ _ ⟨g2074, rfl, hI2075, hF2076, v2077, rfl, hr2078⟩
          refine At.str ?_
          have ks2081 := hr2078.2.2
          have hr2080 : _ ∧ _ := ⟨hr2078.1, hr2078.2.1⟩
          have hr2080_ := hr2080.1
          have hF2079 := Fr.tr hF1991 hF2076 rfl rfl
          refine At.enter rfl ?_
          refine r_aload_n e2012 ?_
          refine r_iload_n e2013 ?_
          refine r_callV 102 rfl [.ref 1, .int x1988] [.ref (v2077)] (Nat.le_of_ble_eq_true rfl) rfl (T_X0_lawAt_1 _ hI2075 x1988) ?_
          rintro _ _ ⟨g2082, rfl, hI2083, hF2084, v2085, rfl, hr2086⟩
          refine At.str ?_
          have ks2089 := hr2086.2.2
          have hr2088 : _ ∧ _ := ⟨hr2086.1, hr2086.2.1⟩
          have hr2088_ := hr2088.1
          have hF2087 := Fr.tr hF2079 hF2084 rfl rfl
          refine At.enter rfl ?_
          refine r_callV 105 rfl [.ref (v2077), .ref (v2085)] [] (Nat.le_of_ble_eq_true rfl) rfl (T_X4_become_law _ hI2083 (v2077) hr2080_ (v2085) hr2088_) ?_
          rintro _ _ ⟨g2090, rfl, hI2091, hF2092, rfl, hr2094⟩
          refine At.stn ?_
          have hF2095 := Fr.tr hF2087 hF2092 rfl rfl
          refine At.enter rfl ?_
          refine q_iinc e2013 (x1988.toInt + 1) rfl (by omega) (fun v2096 hv2096 => ?_)
          refine r_goto ?_
          exact ih1994 (6 - v2096.toInt) _ _ ⟨v2096, by first | rfl | omega, hI2091, hF2095, (((hF2092.1 59 0 mf_X4_become_law_59_0).trans ((hF2084.1 59 0 mf_X0_lawAt_1_59_0).trans (hF2076.1 59 0 mf_X0_lawAt_59_59_0))).trans e1995), (((hF2092.1 59 10 mf_X4_become_law_59_10).trans ((hF2084.1 59 10 mf_X0_lawAt_1_59_10).trans (hF2076.1 59 10 mf_X0_lawAt_59_59_10))).trans e1996), (((hF2092.1 59 11 mf_X4_become_law_59_11).trans ((hF2084.1 59 11 mf_X0_lawAt_1_59_11).trans (hF2076.1 59 11 mf_X0_lawAt_59_59_11))).trans e1997), (((hF2092.1 59 12 mf_X4_become_law_59_12).trans ((hF2084.1 59 12 mf_X0_lawAt_1_59_12).trans (hF2076.1 59 12 mf_X0_lawAt_59_59_12))).trans e1998), (((hF2092.1 59 4 mf_X4_become_law_59_4).trans ((hF2084.1 59 4 mf_X0_lawAt_1_59_4).trans (hF2076.1 59 4 mf_X0_lawAt_59_59_4))).trans e1999), (((hF2092.1 59 6 mf_X4_become_law_59_6).trans ((hF2084.1 59 6 mf_X0_lawAt_1_59_6).trans (hF2076.1 59 6 mf_X0_lawAt_59_59_6))).trans e2000), (((hF2092.1 59 9 mf_X4_become_law_59_9).trans ((hF2084.1 59 9 mf_X0_lawAt_1_59_9).trans (hF2076.1 59 9 mf_X0_lawAt_59_59_9))).trans e2001), (((hF2092.1 116 0 mf_X4_become_law_116_0).trans ((hF2084.1 116 0 mf_X0_lawAt_1_116_0).trans (hF2076.1 116 0 mf_X0_lawAt_59_116_0))).trans e2002), (((hF2092.1 116 10 mf_X4_become_law_116_10).trans ((hF2084.1 116 10 mf_X0_lawAt_1_116_10).trans (hF2076.1 116 10 mf_X0_lawAt_59_116_10))).trans e2003), (((hF2092.1 116 11 mf_X4_become_law_116_11).trans ((hF2084.1 116 11 mf_X0_lawAt_1_116_11).trans (hF2076.1 116 11 mf_X0_lawAt_59_116_11))).trans e2004), (((hF2092.1 116 12 mf_X4_become_law_116_12).trans ((hF2084.1 116 12 mf_X0_lawAt_1_116_12).trans (hF2076.1 116 12 mf_X0_lawAt_59_116_12))).trans e2005), (((hF2092.1 116 4 mf_X4_become_law_116_4).trans ((hF2084.1 116 4 mf_X0_lawAt_1_116_4).trans (hF2076.1 116 4 mf_X0_lawAt_59_116_4))).trans e2006), (((hF2092.1 116 6 mf_X4_become_law_116_6).trans ((hF2084.1 116 6 mf_X0_lawAt_1_116_6).trans (hF2076.1 116 6 mf_X0_lawAt_59_116_6))).trans e2007), (((hF2092.1 116 9 mf_X4_become_law_116_9).trans ((hF2084.1 116 9 mf_X0_lawAt_1_116_9).trans (hF2076.1 116 9 mf_X0_lawAt_59_116_9))).trans e2008), (((eA_c (hF2092.2.1 173 ma_X4_become_law_173)).trans ((eA_c (hF2084.2.1 173 ma_X0_lawAt_1_173)).trans (eA_c (hF2076.2.1 173 ma_X0_lawAt_59_173)))).trans e2009), (((eA_c (hF2092.2.1 173 ma_X4_become_law_173)).trans ((eA_c (hF2084.2.1 173 ma_X0_lawAt_1_173)).trans (eA_c (hF2076.2.1 173 ma_X0_lawAt_59_173)))).trans e2010), (w_p1 (by decide) (Or.inr rfl) e2011), (w_p1 (by decide) (Or.inr rfl) e2012), (w_e1 _ _ _), by omega, (by intro i i0 i1; refine (eA_ti (((hF2092.2.1 60 ma_X4_become_law_60).trans ((hF2084.2.1 60 ma_X0_lawAt_1_60).trans (hF2076.2.1 60 ma_X0_lawAt_59_60))))).trans ?_; refine ((q2015 (i) (by first | exact i0 | omega) (by first | exact i1 | omega))).trans ?_; (first | with_reducible rfl | omega | exact eA_ix (by omega) | rfl)), (by intro i i0 i1; refine (eA_ti (((hF2092.2.1 61 ma_X4_become_law_61).trans ((hF2084.2.1 61 ma_X0_lawAt_1_61).trans (hF2076.2.1 61 ma_X0_lawAt_59_61))))).trans ?_; refine ((q2016 (i) (by first | exact i0 | omega) (by first | exact i1 | omega))).trans ?_; (first | with_reducible rfl | omega | exact eA_ix (by omega) | rfl)), (by intro i i0 i1; refine (eA_ti (((hF2092.2.1 62 ma_X4_become_law_62).trans ((hF2084.2.1 62 ma_X0_lawAt_1_62).trans (hF2076.2.1 62 ma_X0_lawAt_59_62))))).trans ?_; refine ((q2017 (i) (by first | exact i0 | omega) (by first | exact i1 | omega))).trans ?_; (first | with_reducible rfl | omega | exact eA_ix (by omega) | rfl)), (by intro i i0 i1; refine (eA_ti (((hF2092.2.1 72 ma_X4_become_law_72).trans ((hF2084.2.1 72 ma_X0_lawAt_1_72).trans (hF2076.2.1 72 ma_X0_lawAt_59_72))))).trans ?_; refine ((q2018 (i) (by first | exact i0 | omega) (by first | exact i1 | omega))).trans ?_; (first | with_reducible rfl | omega | exact eA_ix (by omega) | rfl)), (by intro i i0 i1; refine (eA_ti (((hF2092.2.1 73 ma_X4_become_law_73).trans ((hF2084.2.1 73 ma_X0_lawAt_1_73).trans (hF2076.2.1 73 ma_X0_lawAt_59_73))))).trans ?_; refine ((q2019 (i) (by first | exact i0 | omega) (by first | exact i1 | omega))).trans ?_; (first | with_reducible rfl | omega | exact eA_ix (by omega) | rfl)), (by intro i i0 i1; refine (eA_ti (((hF2092.2.1 117 ma_X4_become_law_117).trans ((hF2084.2.1 117 ma_X0_lawAt_1_117).trans (hF2076.2.1 117 ma_X0_lawAt_59_117))))).trans ?_; refine ((q2020 (i) (by first | exact i0 | omega) (by first | exact i1 | omega))).trans ?_; (first | with_reducible rfl | omega | exact eA_ix (by omega) | rfl)), (by intro i i0 i1; refine (eA_ti (((hF2092.2.1 118 ma_X4_become_law_118).trans ((hF2084.2.1 118 ma_X0_lawAt_1_118).trans (hF2076.2.1 118 ma_X0_lawAt_59_118))))).trans ?_; refine ((q2021 (i) (by first | exact i0 | omega) (by first | exact i1 | omega))).trans ?_; (first | with_reducible rfl | omega | exact eA_ix (by omega) | rfl)), (by intro i i0 i1; refine (eA_ti (((hF2092.2.1 119 ma_X4_become_law_119).trans ((hF2084.2.1 119 ma_X0_lawAt_1_119).trans (hF2076.2.1 119 ma_X0_lawAt_59_119))))).trans ?_; refine ((q2022 (i) (by first | exact i0 | omega) (by first | exact i1 | omega))).trans ?_; (first | with_reducible rfl | omega | exact eA_ix (by omega) | rfl)), (by intro i i0 i1; refine (eA_ti (((hF2092.2.1 129 ma_X4_become_law_129).trans ((hF2084.2.1 129 ma_X0_lawAt_1_129).trans (hF2076.2.1 129 ma_X0_lawAt_59_129))))).trans ?_; refine ((q2023 (i) (by first | exact i0 | omega) (by first | exact i1 | omega))).trans ?_; (first | with_reducible rfl | omega | exact eA_ix (by omega) | rfl)), (by intro i i0 i1; refine (eA_ti (((hF2092.2.1 130 ma_X4_become_law_130).trans ((hF2084.2.1 130 ma_X0_lawAt_1_130).trans (hF2076.2.1 130 ma_X0_lawAt_59_130))))).trans ?_; refine ((q2024 (i) (by first | exact i0 | omega) (by first | exact i1 | omega))).trans ?_; (first | with_reducible rfl | omega | exact eA_ix (by omega) | rfl)), (by intro i i0 i1; refine (eA_ti (((hF2092.2.1 63 ma_X4_become_law_63).trans ((hF2084.2.1 63 ma_X0_lawAt_1_63).trans (hF2076.2.1 63 ma_X0_lawAt_59_63))))).trans ?_; refine ((q2025 (i) (by first | exact i0 | omega) (by first | exact i1 | omega))).trans ?_; (first | with_reducible rfl | omega | exact eA_ix (by omega) | rfl)), (by intro i i0 i1; refine (eA_ti (((hF2092.2.1 120 ma_X4_become_law_120).trans ((hF2084.2.1 120 ma_X0_lawAt_1_120).trans (hF2076.2.1 120 ma_X0_lawAt_59_120))))).trans ?_; refine ((q2026 (i) (by first | exact i0 | omega) (by first | exact i1 | omega))).trans ?_; (first | with_reducible rfl | omega | exact eA_ix (by omega) | rfl)), (BCI_s (BCI_c (BCI_c q2027 (LSA_fr hF2076 rfl) (Or.inr (Or.inl rfl))) (LSA_fr hF2084 rfl) (Or.inr (Or.inl rfl))) hr2094 (Or.inr (Or.inl rfl)) (Or.inl rfl) (by decide) (by omega) (by omega) hr2080.2 (hr2088.2.trans (LATX_B _)) (by omega))⟩ ⟨by omega, by omega⟩
      have c1711_1 : a1.toInt = 1 := by omega
      refine q_aald (Sh.rar hI0.1 ka_58) (by decide) 1 (by omega) (by decide) (some 116) rfl ?_
      refine r_goto ?_
      refine At.enter rfl ?_
      refine q_aret ?_
      refine At.enter rfl ?_
      refine r_astore_n ([(2, .ref 116), (0, .ref 0), (1, .int a1)]) rfl ?_
      refine r_aload_n rfl ?_
      refine r_nnr ?_
      refine At.enter rfl ?_
      refine r_aload_n rfl ?_
      refine r_aload_n rfl ?_
      refine q_getR (Sh.ref hI0.1 kx_0 rfl) ?_
      refine q_inlV 24 rfl [.ref 116, .ref 1] [] (Nat.le_of_ble_eq_true rfl) rfl ?_
      refine Ev.mk rfl rfl ⟨Nat.le_of_ble_eq_true rfl, Or.inr (q_rc hI0.1 kx_116 rfl)⟩ ?_
      show At _ none _ _ (0, [(0, .ref 116), (1, .ref 1)], [], (_, _)) _
      refine At.enter rfl ?_
      refine r_aload_n rfl ?_
      refine r_aload_n rfl ?_
      obtain ⟨v2097, hv2097⟩ : ∃ v, gI g0 1 0 = v := ⟨_, rfl⟩
      have rv2097 := RgF.at hI0.2.1 (p := 1) (b := 0) rfl
      rw [hv2097] at rv2097
      dsimp only at rv2097
      refine q_getI (Sh.int hI0.1 kx_1 rfl) v2097 hv2097 ?_
      refine q_putI (Sh.int hI0.1 kx_116 rfl) rfl ?_
      have hI2098 := HI.wI1 hI0 kx_116 rfl (p := 116) (b := 0) (v := v2097) rfl (by dsimp only; omega)
      have hF2099 := Fr.wI (p := 116) (b := 0) (v := v2097) hF0 rfl
      refine r_aload_n rfl ?_
      refine q_getR (Sh.ref hI2098.1 kx_1 rfl) ?_
      refine r_iconst 0 rfl ?_
      refine r_aload_n rfl ?_
      refine q_getR (Sh.ref hI2098.1 kx_116 rfl) ?_
      refine r_iconst 0 rfl ?_
      refine r_bipush 12 rfl ?_
      have zv2100 : (0 : Int32).toInt = 0 := rfl
      have zv2101 : (0 : Int32).toInt = 0 := rfl
      have zv2102 : (12 : Int32).toInt = 12 := rfl
      refine q_cpy rfl (Nat.le_of_ble_eq_true rfl) (Sh.arr hI2098.1 ka_2) (Sh.arr hI2098.1 ka_117) ⟨by omega, by omega, by omega, by omega, by omega⟩ ?_
      have hI2103 := HI.cpy0 hI2098 ka_2 ka_117 rfl rfl ((0 : Int32).toInt.toNat) ((0 : Int32).toInt.toNat) ((12 : Int32).toInt.toNat) (by omega) (by omega)
      have hF2104 := Fr.cpy (p0 := 2) (p1 := 117) hF2099 rfl ((0 : Int32).toInt.toNat) ((0 : Int32).toInt.toNat) ((12 : Int32).toInt.toNat)
      refine r_aload_n rfl ?_
      refine q_getR (Sh.ref hI2103.1 kx_1 rfl) ?_
      refine r_iconst 0 rfl ?_
      refine r_aload_n rfl ?_
      refine q_getR (Sh.ref hI2103.1 kx_116 rfl) ?_
      refine r_iconst 0 rfl ?_
      refine r_bipush 12 rfl ?_
      have zv2105 : (0 : Int32).toInt = 0 := rfl
      have zv2106 : (0 : Int32).toInt = 0 := rfl
      have zv2107 : (12 : Int32).toInt = 12 := rfl
      refine q_cpy rfl (Nat.le_of_ble_eq_true rfl) (Sh.arr hI2103.1 ka_3) (Sh.arr hI2103.1 ka_118) ⟨by omega, by omega, by omega, by omega, by omega⟩ ?_
      have hI2108 := HI.cpy0 hI2103 ka_3 ka_118 rfl rfl ((0 : Int32).toInt.toNat) ((0 : Int32).toInt.toNat) ((12 : Int32).toInt.toNat) (by omega) (by omega)
      have hF2109 := Fr.cpy (p0 := 3) (p1 := 118) hF2104 rfl ((0 : Int32).toInt.toNat) ((0 : Int32).toInt.toNat) ((12 : Int32).toInt.toNat)
      refine r_aload_n rfl ?_
      refine q_getR (Sh.ref hI2108.1 kx_1 rfl) ?_
      refine r_iconst 0 rfl ?_
      refine r_aload_n rfl ?_
      refine q_getR (Sh.ref hI2108.1 kx_116 rfl) ?_
      refine r_iconst 0 rfl ?_
      refine r_bipush 12 rfl ?_
      have zv2110 : (0 : Int32).toInt = 0 := rfl
      have zv2111 : (0 : Int32).toInt = 0 := rfl
      have zv2112 : (12 : Int32).toInt = 12 := rfl
      refine q_cpy rfl (Nat.le_of_ble_eq_true rfl) (Sh.arr hI2108.1 ka_4) (Sh.arr hI2108.1 ka_119) ⟨by omega, by omega, by omega, by omega, by omega⟩ ?_
      have hI2113 := HI.cpy0 hI2108 ka_4 ka_119 rfl rfl ((0 : Int32).toInt.toNat) ((0 : Int32).toInt.toNat) ((12 : Int32).toInt.toNat) (by omega) (by omega)
      have hF2114 := Fr.cpy (p0 := 4) (p1 := 119) hF2109 rfl ((0 : Int32).toInt.toNat) ((0 : Int32).toInt.toNat) ((12 : Int32).toInt.toNat)
      refine r_aload_n rfl ?_
      refine r_aload_n rfl ?_
      obtain ⟨v2115, hv2115⟩ : ∃ v, gI g0 1 4 = v := ⟨_, rfl⟩
      have rv2115 := RgF.at hI0.2.1 (p := 1) (b := 4) rfl
      rw [hv2115] at rv2115
      dsimp only at rv2115
      refine q_getI (Sh.int hI2113.1 kx_1 rfl) v2115 (((gI_sW).trans ((gI_sW).trans ((gI_sW).trans (gI_sI_ne (by decide))))).trans hv2115) ?_
      refine q_putI (Sh.int hI2113.1 kx_116 rfl) rfl ?_
      have hI2116 := HI.wI1 hI2113 kx_116 rfl (p := 116) (b := 4) (v := v2115) rfl (by dsimp only; omega)
      have hF2117 := Fr.wI (p := 116) (b := 4) (v := v2115) hF2114 rfl
      refine r_aload_n rfl ?_
      refine q_getR (Sh.ref hI2116.1 kx_1 rfl) ?_
      refine r_iconst 0 rfl ?_
      refine r_aload_n rfl ?_
      refine q_getR (Sh.ref hI2116.1 kx_116 rfl) ?_
      refine r_iconst 0 rfl ?_
      refine r_bipush 48 rfl ?_
      have zv2118 : (0 : Int32).toInt = 0 := rfl
      have zv2119 : (0 : Int32).toInt = 0 := rfl
      have zv2120 : (48 : Int32).toInt = 48 := rfl
      refine q_cpy rfl (Nat.le_of_ble_eq_true rfl) (Sh.arr hI2116.1 ka_5) (Sh.arr hI2116.1 ka_120) ⟨by omega, by omega, by omega, by omega, by omega⟩ ?_
      have hI2121 := HI.cpy0 hI2116 ka_5 ka_120 rfl rfl ((0 : Int32).toInt.toNat) ((0 : Int32).toInt.toNat) ((48 : Int32).toInt.toNat) (by omega) (by omega)
      have hF2122 := Fr.cpy (p0 := 5) (p1 := 120) hF2117 rfl ((0 : Int32).toInt.toNat) ((0 : Int32).toInt.toNat) ((48 : Int32).toInt.toNat)
      refine r_aload_n rfl ?_
      refine r_aload_n rfl ?_
      obtain ⟨v2123, hv2123⟩ : ∃ v, gI g0 1 6 = v := ⟨_, rfl⟩
      have rv2123 := RgF.at hI0.2.1 (p := 1) (b := 6) rfl
      rw [hv2123] at rv2123
      dsimp only at rv2123
      refine q_getI (Sh.int hI2121.1 kx_1 rfl) v2123 (((gI_sW).trans ((gI_sI_ne (by decide)).trans ((gI_sW).trans ((gI_sW).trans ((gI_sW).trans (gI_sI_ne (by decide))))))).trans hv2123) ?_
      refine q_putI (Sh.int hI2121.1 kx_116 rfl) rfl ?_
      have hI2124 := HI.wI1 hI2121 kx_116 rfl (p := 116) (b := 6) (v := v2123) rfl (by dsimp only; omega)
      have hF2125 := Fr.wI (p := 116) (b := 6) (v := v2123) hF2122 rfl
      refine r_iconst 0 rfl ?_
      refine r_istore_n ([(2, .int 0), (0, .ref 116), (1, .ref 1)]) rfl ?_
      refine Ar.fall 86 rfl ?_
      obtain ⟨v2126, hv2126⟩ : ∃ v, gI g0 59 0 = v := ⟨_, rfl⟩
      have rv2126 := RgF.at hI0.2.1 (p := 59) (b := 0) rfl
      rw [hv2126] at rv2126
      dsimp only at rv2126
      have tv2126 := congrArg Int32.toInt hv2126
      obtain ⟨v2127, hv2127⟩ : ∃ v, gI g0 59 10 = v := ⟨_, rfl⟩
      have tv2127 := congrArg Int32.toInt hv2127
      obtain ⟨v2128, hv2128⟩ : ∃ v, gI g0 59 11 = v := ⟨_, rfl⟩
      have tv2128 := congrArg Int32.toInt hv2128
      obtain ⟨v2129, hv2129⟩ : ∃ v, gI g0 59 12 = v := ⟨_, rfl⟩
      have rv2129 := RgF.at hI0.2.1 (p := 59) (b := 12) rfl
      rw [hv2129] at rv2129
      dsimp only at rv2129
      have tv2129 := congrArg Int32.toInt hv2129
      obtain ⟨v2130, hv2130⟩ : ∃ v, gI g0 59 4 = v := ⟨_, rfl⟩
      have rv2130 := RgF.at hI0.2.1 (p := 59) (b := 4) rfl
      rw [hv2130] at rv2130
      dsimp only at rv2130
      have tv2130 := congrArg Int32.toInt hv2130
      obtain ⟨v2131, hv2131⟩ : ∃ v, gI g0 59 6 = v := ⟨_, rfl⟩
      have rv2131 := RgF.at hI0.2.1 (p := 59) (b := 6) rfl
      rw [hv2131] at rv2131
      dsimp only at rv2131
      have tv2131 := congrArg Int32.toInt hv2131
      obtain ⟨v2132, hv2132⟩ : ∃ v, gI g0 59 9 = v := ⟨_, rfl⟩
      have tv2132 := congrArg Int32.toInt hv2132
      obtain ⟨v2133, hv2133⟩ : ∃ v, gI g0 116 10 = v := ⟨_, rfl⟩
      have tv2133 := congrArg Int32.toInt hv2133
      obtain ⟨v2134, hv2134⟩ : ∃ v, gI g0 116 11 = v := ⟨_, rfl⟩
      have tv2134 := congrArg Int32.toInt hv2134
      obtain ⟨v2135, hv2135⟩ : ∃ v, gI g0 116 12 = v := ⟨_, rfl⟩
      have rv2135 := RgF.at hI0.2.1 (p := 116) (b := 12) rfl
      rw [hv2135] at rv2135
      dsimp only at rv2135
      have tv2135 := congrArg Int32.toInt hv2135
      obtain ⟨v2136, hv2136⟩ : ∃ v, gI g0 116 9 = v := ⟨_, rfl⟩
      have tv2136 := congrArg Int32.toInt hv2136
      obtain ⟨v2137, hv2137⟩ : ∃ v, eA g0 173 0 = v := ⟨_, rfl⟩
      have tv2137 := congrArg Int32.toInt hv2137
      obtain ⟨v2138, hv2138⟩ : ∃ v, eA g0 173 1 = v := ⟨_, rfl⟩
      have tv2138 := congrArg Int32.toInt hv2138
      have z_2413 : (0 : Int32).toInt = 0 := rfl
      refine w_loopI (fun n_ l_ g_ => ∃ x2373 : Int32, n_ = 6 - x2373.toInt ∧ HI g_ ∧ Fr F_X10_image_0 A_X10_image_0 g0 g_ ∧ gI g_ 59 0 = v2126 ∧ gI g_ 59 10 = v2127 ∧ gI g_ 59 11 = v2128 ∧ gI g_ 59 12 = v2129 ∧ gI g_ 59 4 = v2130 ∧ gI g_ 59 6 = v2131 ∧ gI g_ 59 9 = v2132 ∧ gI g_ 116 0 = v2097 ∧ gI g_ 116 10 = v2133 ∧ gI g_ 116 11 = v2134 ∧ gI g_ 116 12 = v2135 ∧ gI g_ 116 4 = v2115 ∧ gI g_ 116 6 = v2123 ∧ gI g_ 116 9 = v2136 ∧ eA g_ 173 0 = v2137 ∧ eA g_ 173 1 = v2138 ∧ en_get 0 l_ = some (.ref 116) ∧ en_get 1 l_ = some (.ref 1) ∧ en_get 2 l_ = some (.int x2373) ∧ (0 ≤ x2373.toInt ∧ x2373.toInt ≤ 6) ∧ (∀ i : Int, 0 ≤ i → i < 12 → (eA g_ 60 (i)).toInt = (eA g0 60 (i)).toInt) ∧ (∀ i : Int, 0 ≤ i → i < 12 → (eA g_ 61 (i)).toInt = (eA g0 61 (i)).toInt) ∧ (∀ i : Int, 0 ≤ i → i < 12 → (eA g_ 62 (i)).toInt = (eA g0 62 (i)).toInt) ∧ (∀ i : Int, 0 ≤ i → i < 8 → (eA g_ 72 (i)).toInt = (eA g0 72 (i)).toInt) ∧ (∀ i : Int, 0 ≤ i → i < 8 → (eA g_ 73 (i)).toInt = (eA g0 73 (i)).toInt) ∧ (∀ i : Int, 0 ≤ i → i < 12 → (eA g_ 117 (i)).toInt = (eA g0 2 (i)).toInt) ∧ (∀ i : Int, 0 ≤ i → i < 12 → (eA g_ 118 (i)).toInt = (eA g0 3 (i)).toInt) ∧ (∀ i : Int, 0 ≤ i → i < 12 → (eA g_ 119 (i)).toInt = (eA g0 4 (i)).toInt) ∧ (∀ i : Int, 0 ≤ i → i < 8 → (eA g_ 129 (i)).toInt = (eA g0 129 (i)).toInt) ∧ (∀ i : Int, 0 ≤ i → i < 8 → (eA g_ 130 (i)).toInt = (eA g0 130 (i)).toInt) ∧ (∀ i : Int, 0 ≤ i → i < 48 → (eA g_ 63 (i)).toInt = (eA g0 63 (i)).toInt) ∧ (∀ i : Int, 0 ≤ i → i < 48 → (eA g_ 120 (i)).toInt = (eA g0 5 (i)).toInt) ∧ (BCI g0 g_ 116 1 x2373.toInt)) ?_ (6 - 0) ⟨0, by first | rfl | omega, hI2124, hF2125, (((gI_sI_ne (by decide)).trans ((gI_sW).trans ((gI_sI_ne (by decide)).trans ((gI_sW).trans ((gI_sW).trans ((gI_sW).trans (gI_sI_ne (by decide)))))))).trans hv2126), (((gI_sI_ne (by decide)).trans ((gI_sW).trans ((gI_sI_ne (by decide)).trans ((gI_sW).trans ((gI_sW).trans ((gI_sW).trans (gI_sI_ne (by decide)))))))).trans hv2127), (((gI_sI_ne (by decide)).trans ((gI_sW).trans ((gI_sI_ne (by decide)).trans ((gI_sW).trans ((gI_sW).trans ((gI_sW).trans (gI_sI_ne (by decide)))))))).trans hv2128), (((gI_sI_ne (by decide)).trans ((gI_sW).trans ((gI_sI_ne (by decide)).trans ((gI_sW).trans ((gI_sW).trans ((gI_sW).trans (gI_sI_ne (by decide)))))))).trans hv2129), (((gI_sI_ne (by decide)).trans ((gI_sW).trans ((gI_sI_ne (by decide)).trans ((gI_sW).trans ((gI_sW).trans ((gI_sW).trans (gI_sI_ne (by decide)))))))).trans hv2130), (((gI_sI_ne (by decide)).trans ((gI_sW).trans ((gI_sI_ne (by decide)).trans ((gI_sW).trans ((gI_sW).trans ((gI_sW).trans (gI_sI_ne (by decide)))))))).trans hv2131), (((gI_sI_ne (by decide)).trans ((gI_sW).trans ((gI_sI_ne (by decide)).trans ((gI_sW).trans ((gI_sW).trans ((gI_sW).trans (gI_sI_ne (by decide)))))))).trans hv2132), ((gI_sI_ne (by decide)).trans ((gI_sW).trans ((gI_sI_ne (by decide)).trans ((gI_sW).trans ((gI_sW).trans ((gI_sW).trans (gI_sI_eq hI0.1 kx_116 rfl _))))))), (((gI_sI_ne (by decide)).trans ((gI_sW).trans ((gI_sI_ne (by decide)).trans ((gI_sW).trans ((gI_sW).trans ((gI_sW).trans (gI_sI_ne (by decide)))))))).trans hv2133), (((gI_sI_ne (by decide)).trans ((gI_sW).trans ((gI_sI_ne (by decide)).trans ((gI_sW).trans ((gI_sW).trans ((gI_sW).trans (gI_sI_ne (by decide)))))))).trans hv2134), (((gI_sI_ne (by decide)).trans ((gI_sW).trans ((gI_sI_ne (by decide)).trans ((gI_sW).trans ((gI_sW).trans ((gI_sW).trans (gI_sI_ne (by decide)))))))).trans hv2135), ((gI_sI_ne (by decide)).trans ((gI_sW).trans (gI_sI_eq hI2113.1 kx_116 rfl _))), (gI_sI_eq hI2121.1 kx_116 rfl _), (((gI_sI_ne (by decide)).trans ((gI_sW).trans ((gI_sI_ne (by decide)).trans ((gI_sW).trans ((gI_sW).trans ((gI_sW).trans (gI_sI_ne (by decide)))))))).trans hv2136), (((eA_c gA_sI).trans ((eA_c (gA_sW_ne (by decide))).trans ((eA_c gA_sI).trans ((eA_c (gA_sW_ne (by decide))).trans ((eA_c (gA_sW_ne (by decide))).trans ((eA_c (gA_sW_ne (by decide))).trans (eA_c gA_sI))))))).trans hv2137), (((eA_c gA_sI).trans ((eA_c (gA_sW_ne (by decide))).trans ((eA_c gA_sI).trans ((eA_c (gA_sW_ne (by decide))).trans ((eA_c (gA_sW_ne (by decide))).trans ((eA_c (gA_sW_ne (by decide))).trans (eA_c gA_sI))))))).trans hv2138), rfl, rfl, rfl, by decide, (by intro i i0 i1; refine (eA_ti (((gA_sI).trans ((gA_sW_ne (by decide)).trans ((gA_sI).trans ((gA_sW_ne (by decide)).trans ((gA_sW_ne (by decide)).trans ((gA_sW_ne (by decide)).trans (gA_sI))))))))).trans ?_; (first | with_reducible rfl | omega | exact eA_ix (by omega) | rfl)), (by intro i i0 i1; refine (eA_ti (((gA_sI).trans ((gA_sW_ne (by decide)).trans ((gA_sI).trans ((gA_sW_ne (by decide)).trans ((gA_sW_ne (by decide)).trans ((gA_sW_ne (by decide)).trans (gA_sI))))))))).trans ?_; (first | with_reducible rfl | omega | exact eA_ix (by omega) | rfl)), (by intro i i0 i1; refine (eA_ti (((gA_sI).trans ((gA_sW_ne (by decide)).trans ((gA_sI).trans ((gA_sW_ne (by decide)).trans ((gA_sW_ne (by decide)).trans ((gA_sW_ne (by decide)).trans (gA_sI))))))))).trans ?_; (first | with_reducible rfl | omega | exact eA_ix (by omega) | rfl)), (by intro i i0 i1; refine (eA_ti (((gA_sI).trans ((gA_sW_ne (by decide)).trans ((gA_sI).trans ((gA_sW_ne (by decide)).trans ((gA_sW_ne (by decide)).trans ((gA_sW_ne (by decide)).trans (gA_sI))))))))).trans ?_; (first | with_reducible rfl | omega | exact eA_ix (by omega) | rfl)), (by intro i i0 i1; refine (eA_ti (((gA_sI).trans ((gA_sW_ne (by decide)).trans ((gA_sI).trans ((gA_sW_ne (by decide)).trans ((gA_sW_ne (by decide)).trans ((gA_sW_ne (by decide)).trans (gA_sI))))))))).trans ?_; (first | with_reducible rfl | omega | exact eA_ix (by omega) | rfl)), (by intro i i0 i1; refine (eA_tq (((gA_sI).trans ((gA_sW_ne (by decide)).trans ((gA_sI).trans ((gA_sW_ne (by decide)).trans ((gA_sW_ne (by decide)).trans ((gA_cpF hI2098.1 ka_2 ka_117 (by decide) (by decide) (by decide)).trans (gA_sI))))))))).trans ?_; (first | with_reducible rfl | omega | exact eA_ix (by omega) | rfl)), (by intro i i0 i1; refine (eA_tq (((gA_sI).trans ((gA_sW_ne (by decide)).trans ((gA_sI).trans ((gA_sW_ne (by decide)).trans ((gA_cpF hI2103.1 ka_3 ka_118 (by decide) (by decide) (by decide)).trans ((gA_sW_ne (by decide)).trans (gA_sI))))))))).trans ?_; (first | with_reducible rfl | omega | exact eA_ix (by omega) | rfl)), (by intro i i0 i1; refine (eA_tq (((gA_sI).trans ((gA_sW_ne (by decide)).trans ((gA_sI).trans ((gA_cpF hI2108.1 ka_4 ka_119 (by decide) (by decide) (by decide)).trans ((gA_sW_ne (by decide)).trans ((gA_sW_ne (by decide)).trans (gA_sI))))))))).trans ?_; (first | with_reducible rfl | omega | exact eA_ix (by omega) | rfl)), (by intro i i0 i1; refine (eA_ti (((gA_sI).trans ((gA_sW_ne (by decide)).trans ((gA_sI).trans ((gA_sW_ne (by decide)).trans ((gA_sW_ne (by decide)).trans ((gA_sW_ne (by decide)).trans (gA_sI))))))))).trans ?_; (first | with_reducible rfl | omega | exact eA_ix (by omega) | rfl)), (by intro i i0 i1; refine (eA_ti (((gA_sI).trans ((gA_sW_ne (by decide)).trans ((gA_sI).trans ((gA_sW_ne (by decide)).trans ((gA_sW_ne (by decide)).trans ((gA_sW_ne (by decide)).trans (gA_sI))))))))).trans ?_; (first | with_reducible rfl | omega | exact eA_ix (by omega) | rfl)), (by intro i i0 i1; refine (eA_ti (((gA_sI).trans ((gA_sW_ne (by decide)).trans ((gA_sI).trans ((gA_sW_ne (by decide)).trans ((gA_sW_ne (by decide)).trans ((gA_sW_ne (by decide)).trans (gA_sI))))))))).trans ?_; (first | with_reducible rfl | omega | exact eA_ix (by omega) | rfl)), (by intro i i0 i1; refine (eA_tq (((gA_sI).trans ((gA_cpF hI2116.1 ka_5 ka_120 (by decide) (by decide) (by decide)).trans ((gA_sI).trans ((gA_sW_ne (by decide)).trans ((gA_sW_ne (by decide)).trans ((gA_sW_ne (by decide)).trans (gA_sI))))))))).trans ?_; (first | with_reducible rfl | omega | exact eA_ix (by omega) | rfl)), (BCI_z (LSA_tr (LSA_tr (LSA_tr (LSA_tr (LSA_tr (LSA_tr (LSA_tr LSA_rf (LSA_I rfl)) (LSA_W rfl)) (LSA_W rfl)) (LSA_W rfl)) (LSA_I rfl)) (LSA_W rfl)) (LSA_I rfl)) (by first | decide | omega))⟩
      rintro n2378 l2377 g2374 ⟨x2373, hm2414, hI2375, hF2376, e2380, e2381, e2382, e2383, e2384, e2385, e2386, e2387, e2388, e2389, e2390, e2391, e2392, e2393, e2394, e2395, e2396, e2397, e2398, r2399, q2400, q2401, q2402, q2403, q2404, q2405, q2406, q2407, q2408, q2409, q2410, q2411, q2412⟩ ih2379
      have tv2415 := congrArg Int32.toInt e2394
      have tv2416 := congrArg Int32.toInt e2395
      have tv2417 := congrArg Int32.toInt e2380
      have tv2418 := congrArg Int32.toInt e2381
      have tv2419 := congrArg Int32.toInt e2382
      have tv2420 := congrArg Int32.toInt e2383
      have tv2421 := congrArg Int32.toInt e2384
      have tv2422 := congrArg Int32.toInt e2385
      have tv2423 := congrArg Int32.toInt e2386
      have tv2424 := congrArg Int32.toInt e2387
      have tv2425 := congrArg Int32.toInt e2388
      have tv2426 := congrArg Int32.toInt e2389
      have tv2427 := congrArg Int32.toInt e2390
      have tv2428 := congrArg Int32.toInt e2391
      have tv2429 := congrArg Int32.toInt e2392
      have tv2430 := congrArg Int32.toInt e2393
      refine At.enter rfl ?_
      refine r_iload_n e2398 ?_
      refine r_bipush 6 rfl ?_
      refine r_ics 92 rfl (fun c2431 => ?_) (fun c2431 => ?_)
      · have c2431_ : x2373.toInt ≥ 6 := en_i_ge_t c2431
        refine At.enter rfl ?_
        refine r_aload_n e2396 ?_
        refine r_aload_n e2397 ?_
        obtain ⟨v2432, hv2432⟩ : ∃ v, gI g0 1 9 = v := ⟨_, rfl⟩
        refine q_getI (Sh.int hI2375.1 kx_1 rfl) v2432 ((hF2376.1 1 9 (by decide)).trans hv2432) ?_
        refine q_putI (Sh.int hI2375.1 kx_116 rfl) rfl ?_
        have hI2433 := HI.wI0 hI2375 kx_116 rfl (p := 116) (b := 9) (v := v2432) rfl
        have hF2434 := Fr.wI (p := 116) (b := 9) (v := v2432) hF2376 rfl
        refine r_aload_n e2396 ?_
        refine r_aload_n e2397 ?_
        obtain ⟨v2435, hv2435⟩ : ∃ v, gI g0 1 10 = v := ⟨_, rfl⟩
        refine q_getI (Sh.int hI2433.1 kx_1 rfl) v2435 (((gI_sI_ne (by decide)).trans (hF2376.1 1 10 (by decide))).trans hv2435) ?_
        refine q_putI (Sh.int hI2433.1 kx_116 rfl) rfl ?_
        have hI2436 := HI.wI0 hI2433 kx_116 rfl (p := 116) (b := 10) (v := v2435) rfl
        have hF2437 := Fr.wI (p := 116) (b := 10) (v := v2435) hF2434 rfl
        refine r_aload_n e2396 ?_
        refine r_aload_n e2397 ?_
        obtain ⟨v2438, hv2438⟩ : ∃ v, gI g0 1 11 = v := ⟨_, rfl⟩
        refine q_getI (Sh.int hI2436.1 kx_1 rfl) v2438 (((gI_sI_ne (by decide)).trans ((gI_sI_ne (by decide)).trans (hF2376.1 1 11 (by decide)))).trans hv2438) ?_
        refine q_putI (Sh.int hI2436.1 kx_116 rfl) rfl ?_
        have hI2439 := HI.wI0 hI2436 kx_116 rfl (p := 116) (b := 11) (v := v2438) rfl
        have hF2440 := Fr.wI (p := 116) (b := 11) (v := v2438) hF2437 rfl
        refine r_aload_n e2396 ?_
        refine r_aload_n e2397 ?_
        obtain ⟨v2441, hv2441⟩ : ∃ v, gI g0 1 12 = v := ⟨_, rfl⟩
        have rv2441 := RgF.at hI0.2.1 (p := 1) (b := 12) rfl
        rw [hv2441] at rv2441
        dsimp only at rv2441
        refine q_getI (Sh.int hI2439.1 kx_1 rfl) v2441 (((gI_sI_ne (by decide)).trans ((gI_sI_ne (by decide)).trans ((gI_sI_ne (by decide)).trans (hF2376.1 1 12 (by decide))))).trans hv2441) ?_
        refine q_putI (Sh.int hI2439.1 kx_116 rfl) rfl ?_
        have hI2442 := HI.wI1 hI2439 kx_116 rfl (p := 116) (b := 12) (v := v2441) rfl (by dsimp only; omega)
        have hF2443 := Fr.wI (p := 116) (b := 12) (v := v2441) hF2440 rfl
        refine r_aload_n e2397 ?_
        refine q_getR (Sh.ref hI2442.1 kx_1 rfl) ?_
        refine r_iconst 0 rfl ?_
        refine r_aload_n e2396 ?_
        refine q_getR (Sh.ref hI2442.1 kx_116 rfl) ?_
        refine r_iconst 0 rfl ?_
        refine r_bipush 8 rfl ?_
        have zv2444 : (0 : Int32).toInt = 0 := rfl
        have zv2445 : (0 : Int32).toInt = 0 := rfl
        have zv2446 : (8 : Int32).toInt = 8 := rfl
        refine q_cpy rfl (Nat.le_of_ble_eq_true rfl) (Sh.arr hI2442.1 ka_14) (Sh.arr hI2442.1 ka_129) ⟨by omega, by omega, by omega, by omega, by omega⟩ ?_
        have hI2447 := HI.cpy0 hI2442 ka_14 ka_129 rfl rfl ((0 : Int32).toInt.toNat) ((0 : Int32).toInt.toNat) ((8 : Int32).toInt.toNat) (by omega) (by omega)
        have hF2448 := Fr.cpy (p0 := 14) (p1 := 129) hF2443 rfl ((0 : Int32).toInt.toNat) ((0 : Int32).toInt.toNat) ((8 : Int32).toInt.toNat)
        refine r_aload_n e2397 ?_
        refine q_getR (Sh.ref hI2447.1 kx_1 rfl) ?_
        refine r_iconst 0 rfl ?_
        refine r_aload_n e2396 ?_
        refine q_getR (Sh.ref hI2447.1 kx_116 rfl) ?_
        refine r_iconst 0 rfl ?_
        refine r_bipush 8 rfl ?_
        have zv2449 : (0 : Int32).toInt = 0 := rfl
        have zv2450 : (0 : Int32).toInt = 0 := rfl
        have zv2451 : (8 : Int32).toInt = 8 := rfl
        refine q_cpy rfl (Nat.le_of_ble_eq_true rfl) (Sh.arr hI2447.1 ka_15) (Sh.arr hI2447.1 ka_130) ⟨by omega, by omega, by omega, by omega, by omega⟩ ?_
        have hI2452 := HI.cpy0 hI2447 ka_15 ka_130 rfl rfl ((0 : Int32).toInt.toNat) ((0 : Int32).toInt.toNat) ((8 : Int32).toInt.toNat) (by omega) (by omega)
        have hF2453 := Fr.cpy (p0 := 15) (p1 := 130) hF2448 rfl ((0 : Int32).toInt.toNat) ((0 : Int32).toInt.toNat) ((8 : Int32).toInt.toNat)
        refine q_vret ?_
        refine At.enter rfl ?_
        refine r_aload_n rfl ?_
        refine q_getR (Sh.ref hI2452.1 kx_0 rfl) ?_
        refine r_iload_n rfl ?_
        refine r_iconst 1 rfl ?_
        refine q_bast (Sh.arr hI2452.1 ka_173) (a1.toInt) rfl (by omega) rfl ?_
        have hI2454 := HI.wA0 hI2452 ka_173 (p := 173) rfl rfl (a1.toInt) (1)
        have hF2455 := Fr.wA (p := 173) (j := a1.toInt) (v := 1) hF2453 rfl
        refine r_aload_n rfl ?_
        refine r_iconst 0 rfl ?_
        refine q_inlV 36 rfl [.ref 0, .int 0] [] (Nat.le_of_ble_eq_true rfl) rfl ?_
        refine Ev.mk rfl rfl ⟨Nat.le_of_ble_eq_true rfl, Or.inr (q_rc hI2454.1 kx_0 rfl)⟩ ?_
        show At _ none _ _ (0, [(0, .ref 0), (1, .int 0)], [], (_, _)) _
        refine At.enter rfl ?_
        refine r_aload_n rfl ?_
        refine r_iconst 0 rfl ?_
        refine q_putI (Sh.int hI2454.1 kx_0 rfl) rfl ?_
        have hI2456 := HI.wI0 hI2454 kx_0 rfl (p := 0) (b := 17) (v := 0) rfl
        have hF2457 := Fr.wI (p := 0) (b := 17) (v := 0) hF2455 rfl
        refine r_iload_n rfl ?_
        refine q_ireti ?_
        refine At.enter rfl ?_
        refine r_ireti ?_
        have zv2458 : (0 : Int32).toInt = 0 := rfl
        have e : a1.toInt = 1 := by omega
        exact ⟨_, rfl, hI2456, hF2457, _, rfl, by decide, ⟨⟨⟨(fun h => absurd (e.symm.trans h) (by decide)), (fun _ => ⟨(HI.eqA hI2456 (p := 173) (j := 0) ((((eA_c gA_sI).trans ((eA_sA_ne hI2452.1 ka_173 (by first | decide | omega) (by first | decide | omega) (by first | decide | omega)).trans ((eA_c (gA_sW_ne (by decide))).trans ((eA_c (gA_sW_ne (by decide))).trans ((eA_c gA_sI).trans ((eA_c gA_sI).trans ((eA_c gA_sI).trans (eA_c gA_sI)))))))).trans e2394))).trans (HI.eqA hI0 (p := 173) (j := 0) (hv2137)).symm, (HI.eqI hI2456 (p := 59) (b := 0) ((((gI_sI_ne (by decide)).trans ((gI_sW).trans ((gI_sW).trans ((gI_sW).trans ((gI_sI_ne (by decide)).trans ((gI_sI_ne (by decide)).trans ((gI_sI_ne (by decide)).trans (gI_sI_ne (by decide))))))))).trans e2380))).trans (HI.eqI hI0 (p := 59) (b := 0) (hv2126)).symm, (HI.eqI hI2456 (p := 59) (b := 12) ((((gI_sI_ne (by decide)).trans ((gI_sW).trans ((gI_sW).trans ((gI_sW).trans ((gI_sI_ne (by decide)).trans ((gI_sI_ne (by decide)).trans ((gI_sI_ne (by decide)).trans (gI_sI_ne (by decide))))))))).trans e2383))).trans (HI.eqI hI0 (p := 59) (b := 12) (hv2129)).symm, (HI.eqI hI2456 (p := 59) (b := 10) ((((gI_sI_ne (by decide)).trans ((gI_sW).trans ((gI_sW).trans ((gI_sW).trans ((gI_sI_ne (by decide)).trans ((gI_sI_ne (by decide)).trans ((gI_sI_ne (by decide)).trans (gI_sI_ne (by decide))))))))).trans e2381))).trans (HI.eqI hI0 (p := 59) (b := 10) (hv2127)).symm, (HI.eqI hI2456 (p := 59) (b := 11) ((((gI_sI_ne (by decide)).trans ((gI_sW).trans ((gI_sW).trans ((gI_sW).trans ((gI_sI_ne (by decide)).trans ((gI_sI_ne (by decide)).trans ((gI_sI_ne (by decide)).trans (gI_sI_ne (by decide))))))))).trans e2382))).trans (HI.eqI hI0 (p := 59) (b := 11) (hv2128)).symm, (HI.eqI hI2456 (p := 59) (b := 4) ((((gI_sI_ne (by decide)).trans ((gI_sW).trans ((gI_sW).trans ((gI_sW).trans ((gI_sI_ne (by decide)).trans ((gI_sI_ne (by decide)).trans ((gI_sI_ne (by decide)).trans (gI_sI_ne (by decide))))))))).trans e2384))).trans (HI.eqI hI0 (p := 59) (b := 4) (hv2130)).symm, (HI.eqI hI2456 (p := 59) (b := 6) ((((gI_sI_ne (by decide)).trans ((gI_sW).trans ((gI_sW).trans ((gI_sW).trans ((gI_sI_ne (by decide)).trans ((gI_sI_ne (by decide)).trans ((gI_sI_ne (by decide)).trans (gI_sI_ne (by decide))))))))).trans e2385))).trans (HI.eqI hI0 (p := 59) (b := 6) (hv2131)).symm, (HI.eqI hI2456 (p := 59) (b := 9) ((((gI_sI_ne (by decide)).trans ((gI_sW).trans ((gI_sW).trans ((gI_sW).trans ((gI_sI_ne (by decide)).trans ((gI_sI_ne (by decide)).trans ((gI_sI_ne (by decide)).trans (gI_sI_ne (by decide))))))))).trans e2386))).trans (HI.eqI hI0 (p := 59) (b := 9) (hv2132)).symm⟩), (fun _ => ⟨(HI.eqA hI2456 (p := 173) (j := 1) (((eA_c gA_sI).trans (eA_sA_eq hI2452.1 ka_173 (by omega) (by first | decide | omega) (by first | decide | omega))))).trans rfl, (by first | rfl | decide), (HI.eqI hI2456 (p := 116) (b := 0) ((((gI_sI_ne (by decide)).trans ((gI_sW).trans ((gI_sW).trans ((gI_sW).trans ((gI_sI_ne (by decide)).trans ((gI_sI_ne (by decide)).trans ((gI_sI_ne (by decide)).trans (gI_sI_ne (by decide))))))))).trans e2387))).trans (HI.eqI hI0 (p := 1) (b := 0) (hv2097)).symm, (HI.eqI hI2456 (p := 116) (b := 12) (((gI_sI_ne (by decide)).trans ((gI_sW).trans ((gI_sW).trans ((gI_sW).trans (gI_sI_eq hI2439.1 kx_116 rfl _))))))).trans (HI.eqI hI0 (p := 1) (b := 12) (hv2441)).symm, (HI.eqI hI2456 (p := 116) (b := 10) (((gI_sI_ne (by decide)).trans ((gI_sW).trans ((gI_sW).trans ((gI_sW).trans ((gI_sI_ne (by decide)).trans ((gI_sI_ne (by decide)).trans (gI_sI_eq hI2433.1 kx_116 rfl _))))))))).trans (HI.eqI hI0 (p := 1) (b := 10) (hv2435)).symm, (HI.eqI hI2456 (p := 116) (b := 11) (((gI_sI_ne (by decide)).trans ((gI_sW).trans ((gI_sW).trans ((gI_sW).trans ((gI_sI_ne (by decide)).trans (gI_sI_eq hI2436.1 kx_116 rfl _)))))))).trans (HI.eqI hI0 (p := 1) (b := 11) (hv2438)).symm, (HI.eqI hI2456 (p := 116) (b := 4) ((((gI_sI_ne (by decide)).trans ((gI_sW).trans ((gI_sW).trans ((gI_sW).trans ((gI_sI_ne (by decide)).trans ((gI_sI_ne (by decide)).trans ((gI_sI_ne (by decide)).trans (gI_sI_ne (by decide))))))))).trans e2391))).trans (HI.eqI hI0 (p := 1) (b := 4) (hv2115)).symm, (HI.eqI hI2456 (p := 116) (b := 6) ((((gI_sI_ne (by decide)).trans ((gI_sW).trans ((gI_sW).trans ((gI_sW).trans ((gI_sI_ne (by decide)).trans ((gI_sI_ne (by decide)).trans ((gI_sI_ne (by decide)).trans (gI_sI_ne (by decide))))))))).trans e2392))).trans (HI.eqI hI0 (p := 1) (b := 6) (hv2123)).symm, (HI.eqI hI2456 (p := 116) (b := 9) (((gI_sI_ne (by decide)).trans ((gI_sW).trans ((gI_sW).trans ((gI_sW).trans ((gI_sI_ne (by decide)).trans ((gI_sI_ne (by decide)).trans ((gI_sI_ne (by decide)).trans (gI_sI_eq hI2375.1 kx_116 rfl _)))))))))).trans (HI.eqI hI0 (p := 1) (b := 9) (hv2432)).symm⟩), (fun h => absurd e h), (fun h => False.elim (by omega))⟩, (by intro i i0 i1; refine Eq.trans ?_ (if_neg (show ¬ (a1.toInt = 0) from (by first | exact (fun h => absurd (e.symm.trans h) (by decide)) | omega))).symm; refine (eA_ti (((gA_sI).trans ((gA_sA_ne (by decide)).trans ((gA_sW_ne (by decide)).trans ((gA_sW_ne (by decide)).trans ((gA_sI).trans ((gA_sI).trans ((gA_sI).trans (gA_sI)))))))))).trans ?_; refine ((q2400 (i) (by first | exact i0 | omega) (by first | exact i1 | omega))).trans ?_; (first | with_reducible rfl | omega | exact eA_ix (by omega) | rfl)), (by intro i i0 i1; refine Eq.trans ?_ (if_neg (show ¬ (a1.toInt = 0) from (by first | exact (fun h => absurd (e.symm.trans h) (by decide)) | omega))).symm; refine (eA_ti (((gA_sI).trans ((gA_sA_ne (by decide)).trans ((gA_sW_ne (by decide)).trans ((gA_sW_ne (by decide)).trans ((gA_sI).trans ((gA_sI).trans ((gA_sI).trans (gA_sI)))))))))).trans ?_; refine ((q2401 (i) (by first | exact i0 | omega) (by first | exact i1 | omega))).trans ?_; (first | with_reducible rfl | omega | exact eA_ix (by omega) | rfl)), (by intro i i0 i1; refine Eq.trans ?_ (if_neg (show ¬ (a1.toInt = 0) from (by first | exact (fun h => absurd (e.symm.trans h) (by decide)) | omega))).symm; refine (eA_ti (((gA_sI).trans ((gA_sA_ne (by decide)).trans ((gA_sW_ne (by decide)).trans ((gA_sW_ne (by decide)).trans ((gA_sI).trans ((gA_sI).trans ((gA_sI).trans (gA_sI)))))))))).trans ?_; refine ((q2402 (i) (by first | exact i0 | omega) (by first | exact i1 | omega))).trans ?_; (first | with_reducible rfl | omega | exact eA_ix (by omega) | rfl)), (by intro i i0 i1; refine Eq.trans ?_ (if_neg (show ¬ (a1.toInt = 0) from (by first | exact (fun h => absurd (e.symm.trans h) (by decide)) | omega))).symm; refine (eA_ti (((gA_sI).trans ((gA_sA_ne (by decide)).trans ((gA_sW_ne (by decide)).trans ((gA_sW_ne (by decide)).trans ((gA_sI).trans ((gA_sI).trans ((gA_sI).trans (gA_sI)))))))))).trans ?_; refine ((q2403 (i) (by first | exact i0 | omega) (by first | exact i1 | omega))).trans ?_; (first | with_reducible rfl | omega | exact eA_ix (by omega) | rfl)), (by intro i i0 i1; refine Eq.trans ?_ (if_neg (show ¬ (a1.toInt = 0) from (by first | exact (fun h => absurd (e.symm.trans h) (by decide)) | omega))).symm; refine (eA_ti (((gA_sI).trans ((gA_sA_ne (by decide)).trans ((gA_sW_ne (by decide)).trans ((gA_sW_ne (by decide)).trans ((gA_sI).trans ((gA_sI).trans ((gA_sI).trans (gA_sI)))))))))).trans ?_; refine ((q2404 (i) (by first | exact i0 | omega) (by first | exact i1 | omega))).trans ?_; (first | with_reducible rfl | omega | exact eA_ix (by omega) | rfl)), (by intro i i0 i1; refine Eq.trans ?_ (if_pos (show a1.toInt = 1 from (by first | exact e | omega))).symm; refine (eA_ti (((gA_sI).trans ((gA_sA_ne (by decide)).trans ((gA_sW_ne (by decide)).trans ((gA_sW_ne (by decide)).trans ((gA_sI).trans ((gA_sI).trans ((gA_sI).trans (gA_sI)))))))))).trans ?_; refine ((q2405 (i) (by first | exact i0 | omega) (by first | exact i1 | omega))).trans ?_; (first | with_reducible rfl | omega | exact eA_ix (by omega) | rfl)), (by intro i i0 i1; refine Eq.trans ?_ (if_pos (show a1.toInt = 1 from (by first | exact e | omega))).symm; refine (eA_ti (((gA_sI).trans ((gA_sA_ne (by decide)).trans ((gA_sW_ne (by decide)).trans ((gA_sW_ne (by decide)).trans ((gA_sI).trans ((gA_sI).trans ((gA_sI).trans (gA_sI)))))))))).trans ?_; refine ((q2406 (i) (by first | exact i0 | omega) (by first | exact i1 | omega))).trans ?_; (first | with_reducible rfl | omega | exact eA_ix (by omega) | rfl)), (by intro i i0 i1; refine Eq.trans ?_ (if_pos (show a1.toInt = 1 from (by first | exact e | omega))).symm; refine (eA_ti (((gA_sI).trans ((gA_sA_ne (by decide)).trans ((gA_sW_ne (by decide)).trans ((gA_sW_ne (by decide)).trans ((gA_sI).trans ((gA_sI).trans ((gA_sI).trans (gA_sI)))))))))).trans ?_; refine ((q2407 (i) (by first | exact i0 | omega) (by first | exact i1 | omega))).trans ?_; (first | with_reducible rfl | omega | exact eA_ix (by omega) | rfl)), (by intro i i0 i1; refine Eq.trans ?_ (if_pos (show a1.toInt = 1 from (by first | exact e | omega))).symm; refine (eA_tq (((gA_sI).trans ((gA_sA_ne (by decide)).trans ((gA_sW_ne (by decide)).trans ((gA_cpF hI2442.1 ka_14 ka_129 (by decide) (by decide) (by decide)).trans ((gA_sI).trans ((gA_sI).trans ((gA_sI).trans ((gA_sI).trans (hF2376.2.1 14 (by decide)))))))))))).trans ?_; (first | with_reducible rfl | omega | exact eA_ix (by omega) | rfl)), (by intro i i0 i1; refine Eq.trans ?_ (if_pos (show a1.toInt = 1 from (by first | exact e | omega))).symm; refine (eA_tq (((gA_sI).trans ((gA_sA_ne (by decide)).trans ((gA_cpF hI2447.1 ka_15 ka_130 (by decide) (by decide) (by decide)).trans ((gA_sW_ne (by decide)).trans ((gA_sI).trans ((gA_sI).trans ((gA_sI).trans ((gA_sI).trans (hF2376.2.1 15 (by decide)))))))))))).trans ?_; (first | with_reducible rfl | omega | exact eA_ix (by omega) | rfl)), (by intro i i0 i1; refine Eq.trans ?_ (if_neg (show ¬ (a1.toInt = 0) from (by first | exact (fun h => absurd (e.symm.trans h) (by decide)) | omega))).symm; refine (eA_ti (((gA_sI).trans ((gA_sA_ne (by decide)).trans ((gA_sW_ne (by decide)).trans ((gA_sW_ne (by decide)).trans ((gA_sI).trans ((gA_sI).trans ((gA_sI).trans (gA_sI)))))))))).trans ?_; refine ((q2410 (i) (by first | exact i0 | omega) (by first | exact i1 | omega))).trans ?_; (first | with_reducible rfl | omega | exact eA_ix (by omega) | rfl)), (by intro i i0 i1; refine Eq.trans ?_ (if_pos (show a1.toInt = 1 from (by first | exact e | omega))).symm; refine (eA_ti (((gA_sI).trans ((gA_sA_ne (by decide)).trans ((gA_sW_ne (by decide)).trans ((gA_sW_ne (by decide)).trans ((gA_sI).trans ((gA_sI).trans ((gA_sI).trans (gA_sI)))))))))).trans ?_; refine ((q2411 (i) (by first | exact i0 | omega) (by first | exact i1 | omega))).trans ?_; (first | with_reducible rfl | omega | exact eA_ix (by omega) | rfl))⟩, ⟨(fun h => False.elim (by omega)), (fun _ => (BCI_c (BCI_c (BCI_c (BCI_c (BCI_c (BCI_c (BCI_c (BCI_c (show BCI g0 g2374 116 1 6 from (by have e : (6 : Int) = x2373.toInt := (by omega); rw [e]; exact q2412)) (LSA_I rfl) (Or.inr (Or.inr rfl))) (LSA_I rfl) (Or.inr (Or.inr rfl))) (LSA_I rfl) (Or.inr (Or.inr rfl))) (LSA_I rfl) (Or.inr (Or.inr rfl))) (LSA_W rfl) (Or.inr (Or.inr rfl))) (LSA_W rfl) (Or.inr (Or.inr rfl))) (LSA_A rfl) (Or.inr (Or.inr rfl))) (LSA_I rfl) (Or.inr (Or.inr rfl)))), (fun h => False.elim (by omega))⟩⟩⟩
      · have c2431_ : x2373.toInt < 6 := en_i_ge_f c2431
        refine At.enter rfl ?_
        refine r_aload_n e2396 ?_
        refine r_iload_n e2398 ?_
        refine r_callV 97 rfl [.ref 116, .int x2373] [] (Nat.le_of_ble_eq_true rfl) rfl (T_X0_lawAt_116 _ hI2375 x2373) ?_
        rintro _ _ ⟨g2459, rfl, hI2460, hF2461, v2462, rfl, hr2463⟩
        refine At.str ?_
        have ks2466 := hr2463.2.2
        have hr2465 : _ ∧ _ := ⟨hr2463.1, hr2463.2.1⟩
        have hr2465_ := hr2465.1
        have hF2464 := Fr.tr hF2376 hF2461 rfl rfl
        refine At.enter rfl ?_
        refine r_aload_n e2397 ?_
        refine r_iload_n e2398 ?_
        refine r_callV 102 rfl [.ref 1, .int x2373] [.ref (v2462)] (Nat.le_of_ble_eq_true rfl) rfl (T_X0_lawAt_1 _ hI2460 x2373) ?_
        rintro _ _ ⟨g2467, rfl, hI2468, hF2469, v2470, rfl, hr2471⟩
        refine At.str ?_
        have ks2474 := hr2471.2.2
        have hr2473 : _ ∧ _ := ⟨hr2471.1, hr2471.2.1⟩
        have hr2473_ := hr2473.1
        have hF2472 := Fr.tr hF2464 hF2469 rfl rfl
        refine At.enter rfl ?_
        refine r_callV 105 rfl [.ref (v2462), .ref (v2470)] [] (Nat.le_of_ble_eq_true rfl) rfl (T_X4_become_law _ hI2468 (v2462) hr2465_ (v2470) hr2473_) ?_
        rintro _ _ ⟨g2475, rfl, hI2476, hF2477, rfl, hr2479⟩
        refine At.stn ?_
        have hF2480 := Fr.tr hF2472 hF2477 rfl rfl
        refine At.enter rfl ?_
        refine q_iinc e2398 (x2373.toInt + 1) rfl (by omega) (fun v2481 hv2481 => ?_)
        refine r_goto ?_
        exact ih2379 (6 - v2481.toInt) _ _ ⟨v2481, by first | rfl | omega, hI2476, hF2480, (((hF2477.1 59 0 mf_X4_become_law_59_0).trans ((hF2469.1 59 0 mf_X0_lawAt_1_59_0).trans (hF2461.1 59 0 mf_X0_lawAt_116_59_0))).trans e2380), (((hF2477.1 59 10 mf_X4_become_law_59_10).trans ((hF2469.1 59 10 mf_X0_lawAt_1_59_10).trans (hF2461.1 59 10 mf_X0_lawAt_116_59_10))).trans e2381), (((hF2477.1 59 11 mf_X4_become_law_59_11).trans ((hF2469.1 59 11 mf_X0_lawAt_1_59_11).trans (hF2461.1 59 11 mf_X0_lawAt_116_59_11))).trans e2382), (((hF2477.1 59 12 mf_X4_become_law_59_12).trans ((hF2469.1 59 12 mf_X0_lawAt_1_59_12).trans (hF2461.1 59 12 mf_X0_lawAt_116_59_12))).trans e2383), (((hF2477.1 59 4 mf_X4_become_law_59_4).trans ((hF2469.1 59 4 mf_X0_lawAt_1_59_4).trans (hF2461.1 59 4 mf_X0_lawAt_116_59_4))).trans e2384), (((hF2477.1 59 6 mf_X4_become_law_59_6).trans ((hF2469.1 59 6 mf_X0_lawAt_1_59_6).trans (hF2461.1 59 6 mf_X0_lawAt_116_59_6))).trans e2385), (((hF2477.1 59 9 mf_X4_become_law_59_9).trans ((hF2469.1 59 9 mf_X0_lawAt_1_59_9).trans (hF2461.1 59 9 mf_X0_lawAt_116_59_9))).trans e2386), (((hF2477.1 116 0 mf_X4_become_law_116_0).trans ((hF2469.1 116 0 mf_X0_lawAt_1_116_0).trans (hF2461.1 116 0 mf_X0_lawAt_116_116_0))).trans e2387), (((hF2477.1 116 10 mf_X4_become_law_116_10).trans ((hF2469.1 116 10 mf_X0_lawAt_1_116_10).trans (hF2461.1 116 10 mf_X0_lawAt_116_116_10))).trans e2388), (((hF2477.1 116 11 mf_X4_become_law_116_11).trans ((hF2469.1 116 11 mf_X0_lawAt_1_116_11).trans (hF2461.1 116 11 mf_X0_lawAt_116_116_11))).trans e2389), (((hF2477.1 116 12 mf_X4_become_law_116_12).trans ((hF2469.1 116 12 mf_X0_lawAt_1_116_12).trans (hF2461.1 116 12 mf_X0_lawAt_116_116_12))).trans e2390), (((hF2477.1 116 4 mf_X4_become_law_116_4).trans ((hF2469.1 116 4 mf_X0_lawAt_1_116_4).trans (hF2461.1 116 4 mf_X0_lawAt_116_116_4))).trans e2391), (((hF2477.1 116 6 mf_X4_become_law_116_6).trans ((hF2469.1 116 6 mf_X0_lawAt_1_116_6).trans (hF2461.1 116 6 mf_X0_lawAt_116_116_6))).trans e2392), (((hF2477.1 116 9 mf_X4_become_law_116_9).trans ((hF2469.1 116 9 mf_X0_lawAt_1_116_9).trans (hF2461.1 116 9 mf_X0_lawAt_116_116_9))).trans e2393), (((eA_c (hF2477.2.1 173 ma_X4_become_law_173)).trans ((eA_c (hF2469.2.1 173 ma_X0_lawAt_1_173)).trans (eA_c (hF2461.2.1 173 ma_X0_lawAt_116_173)))).trans e2394), (((eA_c (hF2477.2.1 173 ma_X4_become_law_173)).trans ((eA_c (hF2469.2.1 173 ma_X0_lawAt_1_173)).trans (eA_c (hF2461.2.1 173 ma_X0_lawAt_116_173)))).trans e2395), (w_p1 (by decide) (Or.inr rfl) e2396), (w_p1 (by decide) (Or.inr rfl) e2397), (w_e1 _ _ _), by omega, (by intro i i0 i1; refine (eA_ti (((hF2477.2.1 60 ma_X4_become_law_60).trans ((hF2469.2.1 60 ma_X0_lawAt_1_60).trans (hF2461.2.1 60 ma_X0_lawAt_116_60))))).trans ?_; refine ((q2400 (i) (by first | exact i0 | omega) (by first | exact i1 | omega))).trans ?_; (first | with_reducible rfl | omega | exact eA_ix (by omega) | rfl)), (by intro i i0 i1; refine (eA_ti (((hF2477.2.1 61 ma_X4_become_law_61).trans ((hF2469.2.1 61 ma_X0_lawAt_1_61).trans (hF2461.2.1 61 ma_X0_lawAt_116_61))))).trans ?_; refine ((q2401 (i) (by first | exact i0 | omega) (by first | exact i1 | omega))).trans ?_; (first | with_reducible rfl | omega | exact eA_ix (by omega) | rfl)), (by intro i i0 i1; refine (eA_ti (((hF2477.2.1 62 ma_X4_become_law_62).trans ((hF2469.2.1 62 ma_X0_lawAt_1_62).trans (hF2461.2.1 62 ma_X0_lawAt_116_62))))).trans ?_; refine ((q2402 (i) (by first | exact i0 | omega) (by first | exact i1 | omega))).trans ?_; (first | with_reducible rfl | omega | exact eA_ix (by omega) | rfl)), (by intro i i0 i1; refine (eA_ti (((hF2477.2.1 72 ma_X4_become_law_72).trans ((hF2469.2.1 72 ma_X0_lawAt_1_72).trans (hF2461.2.1 72 ma_X0_lawAt_116_72))))).trans ?_; refine ((q2403 (i) (by first | exact i0 | omega) (by first | exact i1 | omega))).trans ?_; (first | with_reducible rfl | omega | exact eA_ix (by omega) | rfl)), (by intro i i0 i1; refine (eA_ti (((hF2477.2.1 73 ma_X4_become_law_73).trans ((hF2469.2.1 73 ma_X0_lawAt_1_73).trans (hF2461.2.1 73 ma_X0_lawAt_116_73))))).trans ?_; refine ((q2404 (i) (by first | exact i0 | omega) (by first | exact i1 | omega))).trans ?_; (first | with_reducible rfl | omega | exact eA_ix (by omega) | rfl)), (by intro i i0 i1; refine (eA_ti (((hF2477.2.1 117 ma_X4_become_law_117).trans ((hF2469.2.1 117 ma_X0_lawAt_1_117).trans (hF2461.2.1 117 ma_X0_lawAt_116_117))))).trans ?_; refine ((q2405 (i) (by first | exact i0 | omega) (by first | exact i1 | omega))).trans ?_; (first | with_reducible rfl | omega | exact eA_ix (by omega) | rfl)), (by intro i i0 i1; refine (eA_ti (((hF2477.2.1 118 ma_X4_become_law_118).trans ((hF2469.2.1 118 ma_X0_lawAt_1_118).trans (hF2461.2.1 118 ma_X0_lawAt_116_118))))).trans ?_; refine ((q2406 (i) (by first | exact i0 | omega) (by first | exact i1 | omega))).trans ?_; (first | with_reducible rfl | omega | exact eA_ix (by omega) | rfl)), (by intro i i0 i1; refine (eA_ti (((hF2477.2.1 119 ma_X4_become_law_119).trans ((hF2469.2.1 119 ma_X0_lawAt_1_119).trans (hF2461.2.1 119 ma_X0_lawAt_116_119))))).trans ?_; refine ((q2407 (i) (by first | exact i0 | omega) (by first | exact i1 | omega))).trans ?_; (first | with_reducible rfl | omega | exact eA_ix (by omega) | rfl)), (by intro i i0 i1; refine (eA_ti (((hF2477.2.1 129 ma_X4_become_law_129).trans ((hF2469.2.1 129 ma_X0_lawAt_1_129).trans (hF2461.2.1 129 ma_X0_lawAt_116_129))))).trans ?_; refine ((q2408 (i) (by first | exact i0 | omega) (by first | exact i1 | omega))).trans ?_; (first | with_reducible rfl | omega | exact eA_ix (by omega) | rfl)), (by intro i i0 i1; refine (eA_ti (((hF2477.2.1 130 ma_X4_become_law_130).trans ((hF2469.2.1 130 ma_X0_lawAt_1_130).trans (hF2461.2.1 130 ma_X0_lawAt_116_130))))).trans ?_; refine ((q2409 (i) (by first | exact i0 | omega) (by first | exact i1 | omega))).trans ?_; (first | with_reducible rfl | omega | exact eA_ix (by omega) | rfl)), (by intro i i0 i1; refine (eA_ti (((hF2477.2.1 63 ma_X4_become_law_63).trans ((hF2469.2.1 63 ma_X0_lawAt_1_63).trans (hF2461.2.1 63 ma_X0_lawAt_116_63))))).trans ?_; refine ((q2410 (i) (by first | exact i0 | omega) (by first | exact i1 | omega))).trans ?_; (first | with_reducible rfl | omega | exact eA_ix (by omega) | rfl)), (by intro i i0 i1; refine (eA_ti (((hF2477.2.1 120 ma_X4_become_law_120).trans ((hF2469.2.1 120 ma_X0_lawAt_1_120).trans (hF2461.2.1 120 ma_X0_lawAt_116_120))))).trans ?_; refine ((q2411 (i) (by first | exact i0 | omega) (by first | exact i1 | omega))).trans ?_; (first | with_reducible rfl | omega | exact eA_ix (by omega) | rfl)), (BCI_s (BCI_c (BCI_c q2412 (LSA_fr hF2461 rfl) (Or.inr (Or.inr rfl))) (LSA_fr hF2469 rfl) (Or.inr (Or.inr rfl))) hr2479 (Or.inr (Or.inr rfl)) (Or.inl rfl) (by decide) (by omega) (by omega) hr2465.2 (hr2473.2.trans (LATX_B _)) (by omega))⟩ ⟨by omega, by omega⟩
