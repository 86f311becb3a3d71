def F_X10_drawn_0 : List (Nat × Nat) := []
def A_X10_drawn_0 : List Nat := []
set_option maxRecDepth 100000 in
set_option maxHeartbeats 4000000 in
theorem T_X10_drawn_0 (d : Nat) {N : Nat} {g0 : List en_E} (hI0 : HI g0) (a1 : Int32) (a2 : Int32) : Ev (d + 2) 139 [.ref 0, .int a1, .int a2] (g0, N) (fun w h' => ∃ g', h' = (g', N) ∧ HI g' ∧ Fr F_X10_drawn_0 A_X10_drawn_0 g0 g' ∧ ∃ r : Int32, w = some (.int r) ∧ True) := by
  have hF0 : Fr F_X10_drawn_0 A_X10_drawn_0 g0 g0 := Fr.rf
  refine Ev.mk rfl rfl ⟨Nat.le_of_ble_eq_true rfl, Or.inr (q_rc hI0.1 kx_0 rfl)⟩ ?_
  show At _ none _ _ (0, [(0, .ref 0), (1, .int a1), (2, .int a2)], [], (_, _)) _
  refine At.enter rfl ?_
  refine r_iload_n rfl ?_
  refine r_iconst 0 rfl ?_
  refine r_aload_n rfl ?_
  obtain ⟨v23, hv23⟩ : ∃ v, gI g0 0 15 = v := ⟨_, rfl⟩
  have rv23 := RgF.at hI0.2.1 (p := 0) (b := 15) rfl
  rw [hv23] at rv23
  dsimp only at rv23
  refine q_getI (Sh.int hI0.1 kx_0 rfl) v23 hv23 ?_
  refine r_iconst 1 rfl ?_
  refine q_isub (v23.toInt - 1) rfl (by omega) (fun v24 hv24 => ?_)
  refine q_inlS 11 rfl [.int a1, .int 0, .int v24] [] (Nat.le_of_ble_eq_true rfl) rfl ?_
  refine Ev.mk rfl rfl ⟨Nat.le_of_ble_eq_true rfl, Or.inl rfl⟩ ?_
  show At _ none _ _ (0, [(0, .int a1), (1, .int 0), (2, .int v24)], [], (_, _)) _
  refine At.enter rfl ?_
  refine r_iload_n rfl ?_
  refine r_iload_n rfl ?_
  refine r_ics 5 rfl (fun c25 => ?_) (fun c25 => ?_)
  · have c25_ : a1.toInt < 0 := en_i_lt_t c25
    refine At.enter rfl ?_
    refine r_iconst 0 rfl ?_
    refine Ar.fall 15 rfl ?_
    refine At.enter rfl ?_
    refine q_iretz (by decide) ?_
    refine At.enter rfl ?_
    refine r_ift (by decide) ?_
    refine At.enter rfl ?_
    refine r_iconst (-1) rfl ?_
    refine r_ireti ?_
    exact ⟨_, rfl, hI0, hF0, _, rfl, trivial⟩
  · have c25_ : a1.toInt ≥ 0 := en_i_lt_f c25
    refine At.enter rfl ?_
    refine r_iload_n rfl ?_
    refine r_iload_n rfl ?_
    have bv27 := q_bnd a1
    have bv28 := q_bnd v24
    refine r_ics 10 rfl (fun c26 => ?_) (fun c26 => ?_)
    · have c26_ : a1.toInt > v24.toInt := en_i_gt_t c26
      refine At.enter rfl ?_
      refine r_iconst 0 rfl ?_
      refine Ar.fall 15 rfl ?_
      refine At.enter rfl ?_
      refine q_iretz (by decide) ?_
      refine At.enter rfl ?_
      refine r_ift (by decide) ?_
      refine At.enter rfl ?_
      refine r_iconst (-1) rfl ?_
      refine r_ireti ?_
      exact ⟨_, rfl, hI0, hF0, _, rfl, trivial⟩
    · have c26_ : a1.toInt ≤ v24.toInt := en_i_gt_f c26
      refine At.enter rfl ?_
      refine r_iconst 1 rfl ?_
      refine r_goto ?_
      refine At.enter rfl ?_
      refine q_iretz (by decide) ?_
      refine At.enter rfl ?_
      refine r_iff 14 rfl (by decide) ?_
      refine At.enter rfl ?_
      refine r_iload_n rfl ?_
      refine r_iconst 0 rfl ?_
      refine r_iconst 1 rfl ?_
      refine q_inlS 20 rfl [.int a2, .int 0, .int 1] [] (Nat.le_of_ble_eq_true rfl) rfl ?_
      refine Ev.mk rfl rfl ⟨Nat.le_of_ble_eq_true rfl, Or.inl rfl⟩ ?_
      show At _ none _ _ (0, [(0, .int a2), (1, .int 0), (2, .int 1)], [], (_, _)) _
      refine At.enter rfl ?_
      refine r_iload_n rfl ?_
      refine r_iload_n rfl ?_
      refine r_ics 5 rfl (fun c29 => ?_) (fun c29 => ?_)
      · have c29_ : a2.toInt < 0 := en_i_lt_t c29
        refine At.enter rfl ?_
        refine r_iconst 0 rfl ?_
        refine Ar.fall 15 rfl ?_
        refine At.enter rfl ?_
        refine q_iretz (by decide) ?_
        refine At.enter rfl ?_
        refine r_iff 23 rfl (by decide) ?_
        refine At.enter rfl ?_
        refine r_iconst (-1) rfl ?_
        refine r_ireti ?_
        exact ⟨_, rfl, hI0, hF0, _, rfl, trivial⟩
      · have c29_ : a2.toInt ≥ 0 := en_i_lt_f c29
        refine At.enter rfl ?_
        refine r_iload_n rfl ?_
        refine r_iload_n rfl ?_
        refine r_ics 10 rfl (fun c30 => ?_) (fun c30 => ?_)
        · have c30_ : a2.toInt > 1 := en_i_gt_t c30
          refine At.enter rfl ?_
          refine r_iconst 0 rfl ?_
          refine Ar.fall 15 rfl ?_
          refine At.enter rfl ?_
          refine q_iretz (by decide) ?_
          refine At.enter rfl ?_
          refine r_iff 23 rfl (by decide) ?_
          refine At.enter rfl ?_
          refine r_iconst (-1) rfl ?_
          refine r_ireti ?_
          exact ⟨_, rfl, hI0, hF0, _, rfl, trivial⟩
        · have c30_ : a2.toInt ≤ 1 := en_i_gt_f c30
          refine At.enter rfl ?_
          refine r_iconst 1 rfl ?_
          refine r_goto ?_
          refine At.enter rfl ?_
          refine q_iretz (by decide) ?_
          refine At.enter rfl ?_
          refine r_ift (by decide) ?_
          refine At.enter rfl ?_
          refine r_iload_n rfl ?_
          refine r_ifs 29 rfl (fun c31 => ?_) (fun c31 => ?_)
          · have c31_ : a2.toInt ≠ 0 := en_k_ne_t c31
            refine At.enter rfl ?_
            refine r_aload_n rfl ?_
            refine q_getR (Sh.ref hI0.1 kx_0 rfl) ?_
            refine r_iload_n rfl ?_
            obtain ⟨v32, hv32⟩ : ∃ v, eA g0 229 a1.toInt = v := ⟨_, rfl⟩
            refine q_iald (Sh.arr hI0.1 ka_229) a1.toInt rfl (by omega) v32 hv32 ?_
            refine Ar.fall 44 rfl ?_
            refine At.enter rfl ?_
            refine r_ireti ?_
            exact ⟨_, rfl, hI0, hF0, _, rfl, trivial⟩
          · have c31_ : a2.toInt = 0 := en_k_ne_f c31
            refine At.enter rfl ?_
            refine r_aload_n rfl ?_
            refine q_getR (Sh.ref hI0.1 kx_0 rfl) ?_
            refine r_iload_n rfl ?_
            obtain ⟨v33, hv33⟩ : ∃ v, eA g0 228 a1.toInt = v := ⟨_, rfl⟩
            refine q_iald (Sh.arr hI0.1 ka_228) a1.toInt rfl (by omega) v33 hv33 ?_
            refine r_goto ?_
            refine At.enter rfl ?_
            refine r_ireti ?_
            exact ⟨_, rfl, hI0, hF0, _, rfl, trivial⟩

def F_X10_image_0 : List (Nat × Nat) := [(0, 17), (7, 0), (7, 3), (7, 4), (16, 0), (16, 3), (16, 4), (23, 0), (23, 3), (23, 4), (30, 0), (30, 3), (30, 4), (37, 0), (37, 3), (37, 4), (44, 0), (44, 3), (44, 4), (51, 0), (51, 3), (51, 4), (59, 0), (59, 4), (59, 6), (59, 9), (59, 10), (59, 11), (59, 12), (65, 0), (65, 3), (65, 4), (74, 0), (74, 3), (74, 4), (81, 0), (81, 3), (81, 4), (88, 0), (88, 3), (88, 4), (95, 0), (95, 3), (95, 4), (102, 0), (102, 3), (102, 4), (109, 0), (109, 3), (109, 4), (116, 0), (116, 4), (116, 6), (116, 9), (116, 10), (116, 11), (116, 12), (122, 0), (122, 3), (122, 4), (131, 0), (131, 3), (131, 4), (138, 0), (138, 3), (138, 4), (145, 0), (145, 3), (145, 4), (152, 0), (152, 3), (152, 4), (159, 0), (159, 3), (159, 4), (166, 0), (166, 3), (166, 4), (177, 0), (177, 3), (177, 4)]
def A_X10_image_0 : List Nat := [8, 9, 10, 11, 12, 13, 17, 18, 19, 20, 21, 22, 24, 25, 26, 27, 28, 29, 31, 32, 33, 34, 35, 36, 38, 39, 40, 41, 42, 43, 45, 46, 47, 48, 49, 50, 52, 53, 54, 55, 56, 57, 60, 61, 62, 63, 66, 67, 68, 69, 70, 71, 72, 73, 75, 76, 77, 78, 79, 80, 82, 83, 84, 85, 86, 87, 89, 90, 91, 92, 93, 94, 96, 97, 98, 99, 100, 101, 103, 104, 105, 106, 107, 108, 110, 111, 112, 113, 114, 115, 117, 118, 119, 120, 123, 124, 125, 126, 127, 128, 129, 130, 132, 133, 134, 135, 136, 137, 139, 140, 141, 142, 143, 144, 146, 147, 148, 149, 150, 151, 153, 154, 155, 156, 157, 158, 160, 161, 162, 163, 164, 165, 167, 168, 169, 170, 171, 172, 173, 178, 179, 180, 181, 182, 183, 230]
theorem mf_X10_refused_0_59_0 : memF F_X10_refused_0 59 0 = false := by decide
theorem mf_X10_refused_0_59_12 : memF F_X10_refused_0 59 12 = false := by decide
theorem mf_X10_refused_0_59_10 : memF F_X10_refused_0 59 10 = false := by decide
theorem mf_X10_refused_0_59_11 : memF F_X10_refused_0 59 11 = false := by decide
theorem mf_X10_refused_0_59_4 : memF F_X10_refused_0 59 4 = false := by decide
theorem mf_X10_refused_0_59_6 : memF F_X10_refused_0 59 6 = false := by decide
theorem mf_X10_refused_0_59_9 : memF F_X10_refused_0 59 9 = false := by decide
theorem mf_X10_refused_0_116_0 : memF F_X10_refused_0 116 0 = false := by decide
theorem mf_X10_refused_0_116_12 : memF F_X10_refused_0 116 12 = false := by decide
theorem mf_X10_refused_0_116_10 : memF F_X10_refused_0 116 10 = false := by decide
theorem mf_X10_refused_0_116_11 : memF F_X10_refused_0 116 11 = false := by decide
theorem mf_X10_refused_0_116_4 : memF F_X10_refused_0 116 4 = false := by decide
theorem mf_X10_refused_0_116_6 : memF F_X10_refused_0 116 6 = false := by decide
theorem mf_X10_refused_0_116_9 : memF F_X10_refused_0 116 9 = false := by decide
theorem ma_X10_refused_0_173 : memA A_X10_refused_0 173 = false := by decide
theorem ma_X10_refused_0_60 : memA A_X10_refused_0 60 = false := by decide
theorem ma_X10_refused_0_61 : memA A_X10_refused_0 61 = false := by decide
theorem ma_X10_refused_0_62 : memA A_X10_refused_0 62 = false := by decide
theorem ma_X10_refused_0_72 : memA A_X10_refused_0 72 = false := by decide
theorem ma_X10_refused_0_73 : memA A_X10_refused_0 73 = false := by decide
theorem ma_X10_refused_0_117 : memA A_X10_refused_0 117 = false := by decide
theorem ma_X10_refused_0_118 : memA A_X10_refused_0 118 = false := by decide
theorem ma_X10_refused_0_119 : memA A_X10_refused_0 119 = false := by decide
theorem ma_X10_refused_0_129 : memA A_X10_refused_0 129 = false := by decide
theorem ma_X10_refused_0_130 : memA A_X10_refused_0 130 = false := by decide
theorem ma_X10_refused_0_63 : memA A_X10_refused_0 63 = false := by decide
theorem ma_X10_refused_0_120 : memA A_X10_refused_0 120 = false := by decide
theorem mf_X4_become_law_59_0 : memF F_X4_become_law 59 0 = false := by decide
theorem mf_X0_lawAt_1_59_0 : memF F_X0_lawAt_1 59 0 = false := by decide
theorem mf_X0_lawAt_59_59_0 : memF F_X0_lawAt_59 59 0 = false := by decide
theorem mf_X4_become_law_59_10 : memF F_X4_become_law 59 10 = false := by decide
theorem mf_X0_lawAt_1_59_10 : memF F_X0_lawAt_1 59 10 = false := by decide
theorem mf_X0_lawAt_59_59_10 : memF F_X0_lawAt_59 59 10 = false := by decide
theorem mf_X4_become_law_59_11 : memF F_X4_become_law 59 11 = false := by decide
theorem mf_X0_lawAt_1_59_11 : memF F_X0_lawAt_1 59 11 = false := by decide
theorem mf_X0_lawAt_59_59_11 : memF F_X0_lawAt_59 59 11 = false := by decide
theorem mf_X4_become_law_59_12 : memF F_X4_become_law 59 12 = false := by decide
theorem mf_X0_lawAt_1_59_12 : memF F_X0_lawAt_1 59 12 = false := by decide
theorem mf_X0_lawAt_59_59_12 : memF F_X0_lawAt_59 59 12 = false := by decide
theorem mf_X4_become_law_59_4 : memF F_X4_become_law 59 4 = false := by decide
theorem mf_X0_lawAt_1_59_4 : memF F_X0_lawAt_1 59 4 = false := by decide
theorem mf_X0_lawAt_59_59_4 : memF F_X0_lawAt_59 59 4 = false := by decide
theorem mf_X4_become_law_59_6 : memF F_X4_become_law 59 6 = false := by decide
theorem mf_X0_lawAt_1_59_6 : memF F_X0_lawAt_1 59 6 = false := by decide
theorem mf_X0_lawAt_59_59_6 : memF F_X0_lawAt_59 59 6 = false := by decide
theorem mf_X4_become_law_59_9 : memF F_X4_become_law 59 9 = false := by decide
theorem mf_X0_lawAt_1_59_9 : memF F_X0_lawAt_1 59 9 = false := by decide
theorem mf_X0_lawAt_59_59_9 : memF F_X0_lawAt_59 59 9 = false := by decide
theorem mf_X4_become_law_116_0 : memF F_X4_become_law 116 0 = false := by decide
theorem mf_X0_lawAt_1_116_0 : memF F_X0_lawAt_1 116 0 = false := by decide
theorem mf_X0_lawAt_59_116_0 : memF F_X0_lawAt_59 116 0 = false := by decide
theorem mf_X4_become_law_116_10 : memF F_X4_become_law 116 10 = false := by decide
theorem mf_X0_lawAt_1_116_10 : memF F_X0_lawAt_1 116 10 = false := by decide
theorem mf_X0_lawAt_59_116_10 : memF F_X0_lawAt_59 116 10 = false := by decide
theorem mf_X4_become_law_116_11 : memF F_X4_become_law 116 11 = false := by decide
theorem mf_X0_lawAt_1_116_11 : memF F_X0_lawAt_1 116 11 = false := by decide
theorem mf_X0_lawAt_59_116_11 : memF F_X0_lawAt_59 116 11 = false := by decide
theorem mf_X4_become_law_116_12 : memF F_X4_become_law 116 12 = false := by decide
theorem mf_X0_lawAt_1_116_12 : memF F_X0_lawAt_1 116 12 = false := by decide
theorem mf_X0_lawAt_59_116_12 : memF F_X0_lawAt_59 116 12 = false := by decide
theorem mf_X4_become_law_116_4 : memF F_X4_become_law 116 4 = false := by decide
theorem mf_X0_lawAt_1_116_4 : memF F_X0_lawAt_1 116 4 = false := by decide
theorem mf_X0_lawAt_59_116_4 : memF F_X0_lawAt_59 116 4 = false := by decide
theorem mf_X4_become_law_116_6 : memF F_X4_become_law 116 6 = false := by decide
theorem mf_X0_lawAt_1_116_6 : memF F_X0_lawAt_1 116 6 = false := by decide
theorem mf_X0_lawAt_59_116_6 : memF F_X0_lawAt_59 116 6 = false := by decide
theorem mf_X4_become_law_116_9 : memF F_X4_become_law 116 9 = false := by decide
theorem mf_X0_lawAt_1_116_9 : memF F_X0_lawAt_1 116 9 = false := by decide
theorem mf_X0_lawAt_59_116_9 : memF F_X0_lawAt_59 116 9 = false := by decide
theorem ma_X4_become_law_173 : memA A_X4_become_law 173 = false := by decide
theorem ma_X0_lawAt_1_173 : memA A_X0_lawAt_1 173 = false := by decide
theorem ma_X0_lawAt_59_173 : memA A_X0_lawAt_59 173 = false := by decide
theorem ma_X4_become_law_60 : memA A_X4_become_law 60 = false := by decide
theorem ma_X0_lawAt_1_60 : memA A_X0_lawAt_1 60 = false := by decide
theorem ma_X0_lawAt_59_60 : memA A_X0_lawAt_59 60 = false := by decide
theorem ma_X4_become_law_61 : memA A_X4_become_law 61 = false := by decide
theorem ma_X0_lawAt_1_61 : memA A_X0_lawAt_1 61 = false := by decide
theorem ma_X0_lawAt_59_61 : memA A_X0_lawAt_59 61 = false := by decide
theorem ma_X4_become_law_62 : memA A_X4_become_law 62 = false := by decide
theorem ma_X0_lawAt_1_62 : memA A_X0_lawAt_1 62 = false := by decide
theorem ma_X0_lawAt_59_62 : memA A_X0_lawAt_59 62 = false := by decide
theorem ma_X4_become_law_72 : memA A_X4_become_law 72 = false := by decide
theorem ma_X0_lawAt_1_72 : memA A_X0_lawAt_1 72 = false := by decide
theorem ma_X0_lawAt_59_72 : memA A_X0_lawAt_59 72 = false := by decide
theorem ma_X4_become_law_73 : memA A_X4_become_law 73 = false := by decide
theorem ma_X0_lawAt_1_73 : memA A_X0_lawAt_1 73 = false := by decide
theorem ma_X0_lawAt_59_73 : memA A_X0_lawAt_59 73 = false := by decide
theorem ma_X4_become_law_117 : memA A_X4_become_law 117 = false := by decide
theorem ma_X0_lawAt_1_117 : memA A_X0_lawAt_1 117 = false := by decide
theorem ma_X0_lawAt_59_117 : memA A_X0_lawAt_59 117 = false := by decide
theorem ma_X4_become_law_118 : memA A_X4_become_law 118 = false := by decide
theorem ma_X0_lawAt_1_118 : memA A_X0_lawAt_1 118 = false := by decide
theorem ma_X0_lawAt_59_118 : memA A_X0_lawAt_59 118 = false := by decide
theorem ma_X4_become_law_119 : memA A_X4_become_law 119 = false := by decide
theorem ma_X0_lawAt_1_119 : memA A_X0_lawAt_1 119 = false := by decide
theorem ma_X0_lawAt_59_119 : memA A_X0_lawAt_59 119 = false := by decide
theorem ma_X4_become_law_129 : memA A_X4_become_law 129 = false := by decide
theorem ma_X0_lawAt_1_129 : memA A_X0_lawAt_1 129 = false := by decide
theorem ma_X0_lawAt_59_129 : memA A_X0_lawAt_59 129 = false := by decide
theorem ma_X4_become_law_130 : memA A_X4_become_law 130 = false := by decide
theorem ma_X0_lawAt_1_130 : memA A_X0_lawAt_1 130 = false := by decide
theorem ma_X0_lawAt_59_130 : memA A_X0_lawAt_59 130 = false := by decide
theorem ma_X4_become_law_63 : memA A_X4_become_law 63 = false := by decide
theorem ma_X0_lawAt_1_63 : memA A_X0_lawAt_1 63 = false := by decide
theorem ma_X0_lawAt_59_63 : memA A_X0_lawAt_59 63 = false := by decide
theorem ma_X4_become_law_120 : memA A_X4_become_law 120 = false := by decide
theorem ma_X0_lawAt_1_120 : memA A_X0_lawAt_1 120 = false := by decide
theorem ma_X0_lawAt_59_120 : memA A_X0_lawAt_59 120 = false := by decide
theorem mf_X0_lawAt_116_59_0 : memF F_X0_lawAt_116 59 0 = false := by decide
theorem mf_X0_lawAt_116_59_10 : memF F_X0_lawAt_116 59 10 = false := by decide
theorem mf_X0_lawAt_116_59_11 : memF F_X0_lawAt_116 59 11 = false := by decide
theorem mf_X0_lawAt_116_59_12 : memF F_X0_lawAt_116 59 12 = false := by decide
theorem mf_X0_lawAt_116_59_4 : memF F_X0_lawAt_116 59 4 = false := by decide
theorem mf_X0_lawAt_116_59_6 : memF F_X0_lawAt_116 59 6 = false := by decide
theorem mf_X0_lawAt_116_59_9 : memF F_X0_lawAt_116 59 9 = false := by decide
theorem mf_X0_lawAt_116_116_0 : memF F_X0_lawAt_116 116 0 = false := by decide
theorem mf_X0_lawAt_116_116_10 : memF F_X0_lawAt_116 116 10 = false := by decide
theorem mf_X0_lawAt_116_116_11 : memF F_X0_lawAt_116 116 11 = false := by decide
theorem mf_X0_lawAt_116_116_12 : memF F_X0_lawAt_116 116 12 = false := by decide
theorem mf_X0_lawAt_116_116_4 : memF F_X0_lawAt_116 116 4 = false := by decide
theorem mf_X0_lawAt_116_116_6 : memF F_X0_lawAt_116 116 6 = false := by decide
theorem mf_X0_lawAt_116_116_9 : memF F_X0_lawAt_116 116 9 = false := by decide
theorem ma_X0_lawAt_116_173 : memA A_X0_lawAt_116 173 = false := by decide
theorem ma_X0_lawAt_116_60 : memA A_X0_lawAt_116 60 = false := by decide
theorem ma_X0_lawAt_116_61 : memA A_X0_lawAt_116 61 = false := by decide
theorem ma_X0_lawAt_116_62 : memA A_X0_lawAt_116 62 = false := by decide
theorem ma_X0_lawAt_116_72 : memA A_X0_lawAt_116 72 = false := by decide
theorem ma_X0_lawAt_116_73 : memA A_X0_lawAt_116 73 = false := by decide
theorem ma_X0_lawAt_116_117 : memA A_X0_lawAt_116 117 = false := by decide
theorem ma_X0_lawAt_116_118 : memA A_X0_lawAt_116 118 = false := by decide
theorem ma_X0_lawAt_116_119 : memA A_X0_lawAt_116 119 = false := by decide
theorem ma_X0_lawAt_116_129 : memA A_X0_lawAt_116 129 = false := by decide
theorem ma_X0_lawAt_116_130 : memA A_X0_lawAt_116 130 = false := by decide
theorem ma_X0_lawAt_116_63 : memA A_X0_lawAt_116 63 = false := by decide
theorem ma_X0_lawAt_116_120 : memA A_X0_lawAt_116 120 = false := by decide
set_option maxRecDepth 100000 in
set_option maxHeartbeats 4000000 in
theorem T_X10_image_0 (d : Nat) {N : Nat} {g0 : List en_E} (hI0 : HI g0) (a1 : Int32) : Ev (d + 3) 140 [.ref 0, .int a1] (g0, N) (fun w h' => ∃ g', h' = (g', N) ∧ HI g' ∧ Fr F_X10_image_0 A_X10_image_0 g0 g' ∧ ∃ r : Int32, w = some (.int r) ∧ ((-1) ≤ r.toInt ∧ r.toInt ≤ 0) ∧ ((((a1.toInt = 0 → (eA g' 173 0).toInt = 1 ∧ r.toInt = 0 ∧ (gI g' 59 0).toInt = (gI g0 1 0).toInt ∧ (gI g' 59 12).toInt = (gI g0 1 12).toInt ∧ (gI g' 59 10).toInt = (gI g0 1 10).toInt ∧ (gI g' 59 11).toInt = (gI g0 1 11).toInt ∧ (gI g' 59 4).toInt = (gI g0 1 4).toInt ∧ (gI g' 59 6).toInt = (gI g0 1 6).toInt ∧ (gI g' 59 9).toInt = (gI g0 1 9).toInt) ∧ (a1.toInt ≠ 0 → (eA g' 173 0).toInt = (eA g0 173 0).toInt ∧ (gI g' 59 0).toInt = (gI g0 59 0).toInt ∧ (gI g' 59 12).toInt = (gI g0 59 12).toInt ∧ (gI g' 59 10).toInt = (gI g0 59 10).toInt ∧ (gI g' 59 11).toInt = (gI g0 59 11).toInt ∧ (gI g' 59 4).toInt = (gI g0 59 4).toInt ∧ (gI g' 59 6).toInt = (gI g0 59 6).toInt ∧ (gI g' 59 9).toInt = (gI g0 59 9).toInt) ∧ (a1.toInt = 1 → (eA g' 173 1).toInt = 1 ∧ r.toInt = 0 ∧ (gI g' 116 0).toInt = (gI g0 1 0).toInt ∧ (gI g' 116 12).toInt = (gI g0 1 12).toInt ∧ (gI g' 116 10).toInt = (gI g0 1 10).toInt ∧ (gI g' 116 11).toInt = (gI g0 1 11).toInt ∧ (gI g' 116 4).toInt = (gI g0 1 4).toInt ∧ (gI g' 116 6).toInt = (gI g0 1 6).toInt ∧ (gI g' 116 9).toInt = (gI g0 1 9).toInt) ∧ (a1.toInt ≠ 1 → (eA g' 173 1).toInt = (eA g0 173 1).toInt ∧ (gI g' 116 0).toInt = (gI g0 116 0).toInt ∧ (gI g' 116 12).toInt = (gI g0 116 12).toInt ∧ (gI g' 116 10).toInt = (gI g0 116 10).toInt ∧ (gI g' 116 11).toInt = (gI g0 116 11).toInt ∧ (gI g' 116 4).toInt = (gI g0 116 4).toInt ∧ (gI g' 116 6).toInt = (gI g0 116 6).toInt ∧ (gI g' 116 9).toInt = (gI g0 116 9).toInt) ∧ (a1.toInt < 0 ∨ 1 < a1.toInt → r.toInt = -1)) ∧ (∀ i : Int, 0 ≤ i → i < 12 → (eA g' 60 (i)).toInt = if a1.toInt = 0 then (eA g0 2 (i)).toInt else (eA g0 60 (i)).toInt) ∧ (∀ i : Int, 0 ≤ i → i < 12 → (eA g' 61 (i)).toInt = if a1.toInt = 0 then (eA g0 3 (i)).toInt else (eA g0 61 (i)).toInt) ∧ (∀ i : Int, 0 ≤ i → i < 12 → (eA g' 62 (i)).toInt = if a1.toInt = 0 then (eA g0 4 (i)).toInt else (eA g0 62 (i)).toInt) ∧ (∀ i : Int, 0 ≤ i → i < 8 → (eA g' 72 (i)).toInt = if a1.toInt = 0 then (eA g0 14 (i)).toInt else (eA g0 72 (i)).toInt) ∧ (∀ i : Int, 0 ≤ i → i < 8 → (eA g' 73 (i)).toInt = if a1.toInt = 0 then (eA g0 15 (i)).toInt else (eA g0 73 (i)).toInt) ∧ (∀ i : Int, 0 ≤ i → i < 12 → (eA g' 117 (i)).toInt = if a1.toInt = 1 then (eA g0 2 (i)).toInt else (eA g0 117 (i)).toInt) ∧ (∀ i : Int, 0 ≤ i → i < 12 → (eA g' 118 (i)).toInt = if a1.toInt = 1 then (eA g0 3 (i)).toInt else (eA g0 118 (i)).toInt) ∧ (∀ i : Int, 0 ≤ i → i < 12 → (eA g' 119 (i)).toInt = if a1.toInt = 1 then (eA g0 4 (i)).toInt else (eA g0 119 (i)).toInt) ∧ (∀ i : Int, 0 ≤ i → i < 8 → (eA g' 129 (i)).toInt = if a1.toInt = 1 then (eA g0 14 (i)).toInt else (eA g0 129 (i)).toInt) ∧ (∀ i : Int, 0 ≤ i → i < 8 → (eA g' 130 (i)).toInt = if a1.toInt = 1 then (eA g0 15 (i)).toInt else (eA g0 130 (i)).toInt) ∧ (∀ i : Int, 0 ≤ i → i < 48 → (eA g' 63 (i)).toInt = if a1.toInt = 0 then (eA g0 5 (i)).toInt else (eA g0 63 (i)).toInt) ∧ (∀ i : Int, 0 ≤ i → i < 48 → (eA g' 120 (i)).toInt = if a1.toInt = 1 then (eA g0 5 (i)).toInt else (eA g0 120 (i)).toInt)) ∧ SU r.toInt (gI g' 0 17).toInt)) := by
  have hF0 : Fr F_X10_image_0 A_X10_image_0 g0 g0 := Fr.rf
  refine Ev.mk rfl rfl ⟨Nat.le_of_ble_eq_true rfl, Or.inr (q_rc hI0.1 kx_0 rfl)⟩ ?_
  show At _ none _ _ (0, [(0, .ref 0), (1, .int a1)], [], (_, _)) _
  refine At.enter rfl ?_
  refine r_aload_n rfl ?_
  refine r_iload_n rfl ?_
  refine q_inlV 5 rfl [.ref 0, .int a1] [] (Nat.le_of_ble_eq_true rfl) rfl ?_
  refine Ev.mk rfl rfl ⟨Nat.le_of_ble_eq_true rfl, Or.inr (q_rc hI0.1 kx_0 rfl)⟩ ?_
  show At _ none _ _ (0, [(0, .ref 0), (1, .int a1)], [], (_, _)) _
  refine At.enter rfl ?_
  refine r_iload_n rfl ?_
  refine r_iconst 0 rfl ?_
  refine r_iconst 1 rfl ?_
  refine q_inlS 6 rfl [.int a1, .int 0, .int 1] [] (Nat.le_of_ble_eq_true rfl) rfl ?_
  refine Ev.mk rfl rfl ⟨Nat.le_of_ble_eq_true rfl, Or.inl rfl⟩ ?_
  show At _ none _ _ (0, [(0, .int a1), (1, .int 0), (2, .int 1)], [], (_, _)) _
  refine At.enter rfl ?_
  refine r_iload_n rfl ?_
  refine r_iload_n rfl ?_
  refine r_ics 5 rfl (fun c1439 => ?_) (fun c1439 => ?_)
  · have c1439_ : a1.toInt < 0 := en_i_lt_t c1439
    refine At.enter rfl ?_
    refine r_iconst 0 rfl ?_
    refine Ar.fall 15 rfl ?_
    refine At.enter rfl ?_
    refine q_iretz (by decide) ?_
    refine At.enter rfl ?_
    refine r_ift (by decide) ?_
    refine At.enter rfl ?_
    refine r_null ?_
    refine Ar.fall 19 rfl ?_
    refine At.enter rfl ?_
    refine q_zret ?_
    refine At.enter rfl ?_
    refine r_zstore_n ([(2, .null), (0, .ref 0), (1, .int a1)]) rfl ?_
    refine r_zload_n rfl ?_
    refine r_nnz 10 rfl ?_
    refine At.enter rfl ?_
    refine r_aload_n rfl ?_
    refine r_iconst (-1) rfl ?_
    refine r_callV 15 rfl [.ref 0, .int (-1)] [] (Nat.le_of_ble_eq_true rfl) rfl (T_X10_refused_0 _ hI0 (-1) (by decide)) ?_
    rintro _ _ ⟨g1440, rfl, hI1441, hF1442, v1443, rfl, hr1444⟩
    refine At.sti ?_
    have hF1445 := Fr.tr hF0 hF1442 rfl rfl
    have zv1446 : ((-1) : Int32).toInt = (-1) := rfl
    refine At.enter rfl ?_
    refine r_ireti ?_
    obtain ⟨v1447, hv1447⟩ : ∃ v, gI g0 1 0 = v := ⟨_, rfl⟩
    have rv1447 := RgF.at hI0.2.1 (p := 1) (b := 0) rfl
    rw [hv1447] at rv1447
    dsimp only at rv1447
    have tv1447 := congrArg Int32.toInt hv1447
    obtain ⟨v1449, hv1449⟩ : ∃ v, gI g0 1 12 = v := ⟨_, rfl⟩
    have rv1449 := RgF.at hI0.2.1 (p := 1) (b := 12) rfl
    rw [hv1449] at rv1449
    dsimp only at rv1449
    have tv1449 := congrArg Int32.toInt hv1449
    obtain ⟨v1451, hv1451⟩ : ∃ v, gI g0 1 10 = v := ⟨_, rfl⟩
    have tv1451 := congrArg Int32.toInt hv1451
    obtain ⟨v1453, hv1453⟩ : ∃ v, gI g0 1 11 = v := ⟨_, rfl⟩
    have tv1453 := congrArg Int32.toInt hv1453
    obtain ⟨v1455, hv1455⟩ : ∃ v, gI g0 1 4 = v := ⟨_, rfl⟩
    have rv1455 := RgF.at hI0.2.1 (p := 1) (b := 4) rfl
    rw [hv1455] at rv1455
    dsimp only at rv1455
    have tv1455 := congrArg Int32.toInt hv1455
    obtain ⟨v1457, hv1457⟩ : ∃ v, gI g0 1 6 = v := ⟨_, rfl⟩
    have rv1457 := RgF.at hI0.2.1 (p := 1) (b := 6) rfl
    rw [hv1457] at rv1457
    dsimp only at rv1457
    have tv1457 := congrArg Int32.toInt hv1457
    obtain ⟨v1459, hv1459⟩ : ∃ v, gI g0 1 9 = v := ⟨_, rfl⟩
    have tv1459 := congrArg Int32.toInt hv1459
    obtain ⟨v1461, hv1461⟩ : ∃ v, gI g0 59 0 = v := ⟨_, rfl⟩
    have rv1461 := RgF.at hI0.2.1 (p := 59) (b := 0) rfl
    rw [hv1461] at rv1461
    dsimp only at rv1461
    have tv1461 := congrArg Int32.toInt hv1461
    obtain ⟨v1463, hv1463⟩ : ∃ v, gI g0 59 12 = v := ⟨_, rfl⟩
    have rv1463 := RgF.at hI0.2.1 (p := 59) (b := 12) rfl
    rw [hv1463] at rv1463
    dsimp only at rv1463
    have tv1463 := congrArg Int32.toInt hv1463
    obtain ⟨v1465, hv1465⟩ : ∃ v, gI g0 59 10 = v := ⟨_, rfl⟩
    have tv1465 := congrArg Int32.toInt hv1465
    obtain ⟨v1467, hv1467⟩ : ∃ v, gI g0 59 11 = v := ⟨_, rfl⟩
    have tv1467 := congrArg Int32.toInt hv1467
    obtain ⟨v1469, hv1469⟩ : ∃ v, gI g0 59 4 = v := ⟨_, rfl⟩
    have rv1469 := RgF.at hI0.2.1 (p := 59) (b := 4) rfl
    rw [hv1469] at rv1469
    dsimp only at rv1469
    have tv1469 := congrArg Int32.toInt hv1469
    obtain ⟨v1471, hv1471⟩ : ∃ v, gI g0 59 6 = v := ⟨_, rfl⟩
    have rv1471 := RgF.at hI0.2.1 (p := 59) (b := 6) rfl
    rw [hv1471] at rv1471
    dsimp only at rv1471
    have tv1471 := congrArg Int32.toInt hv1471
    obtain ⟨v1473, hv1473⟩ : ∃ v, gI g0 59 9 = v := ⟨_, rfl⟩
    have tv1473 := congrArg Int32.toInt hv1473
    obtain ⟨v1475, hv1475⟩ : ∃ v, gI g0 116 0 = v := ⟨_, rfl⟩
    have rv1475 := RgF.at hI0.2.1 (p := 116) (b := 0) rfl
    rw [hv1475] at rv1475
    dsimp only at rv1475
    have tv1475 := congrArg Int32.toInt hv1475
    obtain ⟨v1477, hv1477⟩ : ∃ v, gI g0 116 12 = v := ⟨_, rfl⟩
    have rv1477 := RgF.at hI0.2.1 (p := 116) (b := 12) rfl
    rw [hv1477] at rv1477
    dsimp only at rv1477
    have tv1477 := congrArg Int32.toInt hv1477
    obtain ⟨v1479, hv1479⟩ : ∃ v, gI g0 116 10 = v := ⟨_, rfl⟩
    have tv1479 := congrArg Int32.toInt hv1479
    obtain ⟨v1481, hv1481⟩ : ∃ v, gI g0 116 11 = v := ⟨_, rfl⟩
    have tv1481 := congrArg Int32.toInt hv1481
    obtain ⟨v1483, hv1483⟩ : ∃ v, gI g0 116 4 = v := ⟨_, rfl⟩
    have rv1483 := RgF.at hI0.2.1 (p := 116) (b := 4) rfl
    rw [hv1483] at rv1483
    dsimp only at rv1483
    have tv1483 := congrArg Int32.toInt hv1483
    obtain ⟨v1485, hv1485⟩ : ∃ v, gI g0 116 6 = v := ⟨_, rfl⟩
    have rv1485 := RgF.at hI0.2.1 (p := 116) (b := 6) rfl
    rw [hv1485] at rv1485
    dsimp only at rv1485
    have tv1485 := congrArg Int32.toInt hv1485
    obtain ⟨v1487, hv1487⟩ : ∃ v, gI g0 116 9 = v := ⟨_, rfl⟩
    have tv1487 := congrArg Int32.toInt hv1487
    obtain ⟨v1489, hv1489⟩ : ∃ v, eA g0 173 0 = v := ⟨_, rfl⟩
    have tv1489 := congrArg Int32.toInt hv1489
    have x1490 := HI.eqA hI0 (p := 173) (j := 0) (hv1489)
    obtain ⟨v1491, hv1491⟩ : ∃ v, eA g0 173 1 = v := ⟨_, rfl⟩
    have tv1491 := congrArg Int32.toInt hv1491
    have x1492 := HI.eqA hI0 (p := 173) (j := 1) (hv1491)
    have x1493 := HI.eqI hI1441 (p := 59) (b := 0) (((hF1442.1 59 0 mf_X10_refused_0_59_0).trans hv1461))
    have x1494 := HI.eqI hI1441 (p := 59) (b := 12) (((hF1442.1 59 12 mf_X10_refused_0_59_12).trans hv1463))
    have x1495 := HI.eqI hI1441 (p := 59) (b := 10) (((hF1442.1 59 10 mf_X10_refused_0_59_10).trans hv1465))
    have x1496 := HI.eqI hI1441 (p := 59) (b := 11) (((hF1442.1 59 11 mf_X10_refused_0_59_11).trans hv1467))
    have x1497 := HI.eqI hI1441 (p := 59) (b := 4) (((hF1442.1 59 4 mf_X10_refused_0_59_4).trans hv1469))
    have x1498 := HI.eqI hI1441 (p := 59) (b := 6) (((hF1442.1 59 6 mf_X10_refused_0_59_6).trans hv1471))
    have x1499 := HI.eqI hI1441 (p := 59) (b := 9) (((hF1442.1 59 9 mf_X10_refused_0_59_9).trans hv1473))
    have x1500 := HI.eqI hI1441 (p := 116) (b := 0) (((hF1442.1 116 0 mf_X10_refused_0_116_0).trans hv1475))
    have x1501 := HI.eqI hI1441 (p := 116) (b := 12) (((hF1442.1 116 12 mf_X10_refused_0_116_12).trans hv1477))
    have x1502 := HI.eqI hI1441 (p := 116) (b := 10) (((hF1442.1 116 10 mf_X10_refused_0_116_10).trans hv1479))
    have x1503 := HI.eqI hI1441 (p := 116) (b := 11) (((hF1442.1 116 11 mf_X10_refused_0_116_11).trans hv1481))
    have x1504 := HI.eqI hI1441 (p := 116) (b := 4) (((hF1442.1 116 4 mf_X10_refused_0_116_4).trans hv1483))
    have x1505 := HI.eqI hI1441 (p := 116) (b := 6) (((hF1442.1 116 6 mf_X10_refused_0_116_6).trans hv1485))
    have x1506 := HI.eqI hI1441 (p := 116) (b := 9) (((hF1442.1 116 9 mf_X10_refused_0_116_9).trans hv1487))
    have x1507 := HI.eqA hI1441 (p := 173) (j := 0) (((eA_c (hF1442.2.1 173 ma_X10_refused_0_173)).trans hv1489))
    have x1508 := HI.eqA hI1441 (p := 173) (j := 1) (((eA_c (hF1442.2.1 173 ma_X10_refused_0_173)).trans hv1491))
    have kn110_ : ¬ (a1.toInt = 0) := by omega
    have kn111_ : ¬ (a1.toInt = 1) := by omega
    obtain ⟨v1509, hv1509⟩ : ∃ v, gI g1440 0 17 = v := ⟨_, rfl⟩
    have tv1509 := congrArg Int32.toInt hv1509
    exact ⟨_, rfl, hI1441, hF1445, _, rfl, by omega, ⟨⟨⟨by omega, by omega, by omega, by omega, by omega⟩, (by intro i i0 i1; refine Eq.trans ?_ (if_neg kn110_).symm; refine (eA_ti ((hF1442.2.1 60 ma_X10_refused_0_60))).trans ?_; (first | with_reducible rfl | omega | exact eA_ix (by omega) | rfl)), (by intro i i0 i1; refine Eq.trans ?_ (if_neg kn110_).symm; refine (eA_ti ((hF1442.2.1 61 ma_X10_refused_0_61))).trans ?_; (first | with_reducible rfl | omega | exact eA_ix (by omega) | rfl)), (by intro i i0 i1; refine Eq.trans ?_ (if_neg kn110_).symm; refine (eA_ti ((hF1442.2.1 62 ma_X10_refused_0_62))).trans ?_; (first | with_reducible rfl | omega | exact eA_ix (by omega) | rfl)), (by intro i i0 i1; refine Eq.trans ?_ (if_neg kn110_).symm; refine (eA_ti ((hF1442.2.1 72 ma_X10_refused_0_72))).trans ?_; (first | with_reducible rfl | omega | exact eA_ix (by omega) | rfl)), (by intro i i0 i1; refine Eq.trans ?_ (if_neg kn110_).symm; refine (eA_ti ((hF1442.2.1 73 ma_X10_refused_0_73))).trans ?_; (first | with_reducible rfl | omega | exact eA_ix (by omega) | rfl)), (by intro i i0 i1; refine Eq.trans ?_ (if_neg kn111_).symm; refine (eA_ti ((hF1442.2.1 117 ma_X10_refused_0_117))).trans ?_; (first | with_reducible rfl | omega | exact eA_ix (by omega) | rfl)), (by intro i i0 i1; refine Eq.trans ?_ (if_neg kn111_).symm; refine (eA_ti ((hF1442.2.1 118 ma_X10_refused_0_118))).trans ?_; (first | with_reducible rfl | omega | exact eA_ix (by omega) | rfl)), (by intro i i0 i1; refine Eq.trans ?_ (if_neg kn111_).symm; refine (eA_ti ((hF1442.2.1 119 ma_X10_refused_0_119))).trans ?_; (first | with_reducible rfl | omega | exact eA_ix (by omega) | rfl)), (by intro i i0 i1; refine Eq.trans ?_ (if_neg kn111_).symm; refine (eA_ti ((hF1442.2.1 129 ma_X10_refused_0_129))).trans ?_; (first | with_reducible rfl | omega | exact eA_ix (by omega) | rfl)), (by intro i i0 i1; refine Eq.trans ?_ (if_neg kn111_).symm; refine (eA_ti ((hF1442.2.1 130 ma_X10_refused_0_130))).trans ?_; (first | with_reducible rfl | omega | exact eA_ix (by omega) | rfl)), (by intro i i0 i1; refine Eq.trans ?_ (if_neg kn110_).symm; refine (eA_ti ((hF1442.2.1 63 ma_X10_refused_0_63))).trans ?_; (first | with_reducible rfl | omega | exact eA_ix (by omega) | rfl)), (by intro i i0 i1; refine Eq.trans ?_ (if_neg kn111_).symm; refine (eA_ti ((hF1442.2.1 120 ma_X10_refused_0_120))).trans ?_; (first | with_reducible rfl | omega | exact eA_ix (by omega) | rfl))⟩, (SU.mk (by omega))⟩⟩
  · have c1439_ : a1.toInt ≥ 0 := en_i_lt_f c1439
    refine At.enter rfl ?_
    refine r_iload_n rfl ?_
    refine r_iload_n rfl ?_
    refine r_ics 10 rfl (fun c1511 => ?_) (fun c1511 => ?_)
    · have c1511_ : a1.toInt > 1 := en_i_gt_t c1511
      refine At.enter rfl ?_
      refine r_iconst 0 rfl ?_
      refine Ar.fall 15 rfl ?_
      refine At.enter rfl ?_
      refine q_iretz (by decide) ?_
      refine At.enter rfl ?_
      refine r_ift (by decide) ?_
      refine At.enter rfl ?_
      refine r_null ?_
      refine Ar.fall 19 rfl ?_
      refine At.enter rfl ?_
      refine q_zret ?_
      refine At.enter rfl ?_
      refine r_zstore_n ([(2, .null), (0, .ref 0), (1, .int a1)]) rfl ?_
      refine r_zload_n rfl ?_
      refine r_nnz 10 rfl ?_
      refine At.enter rfl ?_
      refine r_aload_n rfl ?_
      refine r_iconst (-1) rfl ?_
      refine r_callV 15 rfl [.ref 0, .int (-1)] [] (Nat.le_of_ble_eq_true rfl) rfl (T_X10_refused_0 _ hI0 (-1) (by decide)) ?_
      rintro _ _ ⟨g1512, rfl, hI1513, hF1514, v1515, rfl, hr1516⟩
      refine At.sti ?_
      have hF1517 := Fr.tr hF0 hF1514 rfl rfl
      have zv1518 : ((-1) : Int32).toInt = (-1) := rfl
      refine At.enter rfl ?_
      refine r_ireti ?_
      obtain ⟨v1519, hv1519⟩ : ∃ v, gI g0 1 0 = v := ⟨_, rfl⟩
      have rv1519 := RgF.at hI0.2.1 (p := 1) (b := 0) rfl
      rw [hv1519] at rv1519
      dsimp only at rv1519
      have tv1519 := congrArg Int32.toInt hv1519
      obtain ⟨v1521, hv1521⟩ : ∃ v, gI g0 1 12 = v := ⟨_, rfl⟩
      have rv1521 := RgF.at hI0.2.1 (p := 1) (b := 12) rfl
      rw [hv1521] at rv1521
      dsimp only at rv1521
      have tv1521 := congrArg Int32.toInt hv1521
      obtain ⟨v1523, hv1523⟩ : ∃ v, gI g0 1 10 = v := ⟨_, rfl⟩
      have tv1523 := congrArg Int32.toInt hv1523
      obtain ⟨v1525, hv1525⟩ : ∃ v, gI g0 1 11 = v := ⟨_, rfl⟩
      have tv1525 := congrArg Int32.toInt hv1525
      obtain ⟨v1527, hv1527⟩ : ∃ v, gI g0 1 4 = v := ⟨_, rfl⟩
      have rv1527 := RgF.at hI0.2.1 (p := 1) (b := 4) rfl
      rw [hv1527] at rv1527
      dsimp only at rv1527
      have tv1527 := congrArg Int32.toInt hv1527
      obtain ⟨v1529, hv1529⟩ : ∃ v, gI g0 1 6 = v := ⟨_, rfl⟩
      have rv1529 := RgF.at hI0.2.1 (p := 1) (b := 6) rfl
      rw [hv1529] at rv1529
      dsimp only at rv1529
      have tv1529 := congrArg Int32.toInt hv1529
      obtain ⟨v1531, hv1531⟩ : ∃ v, gI g0 1 9 = v := ⟨_, rfl⟩
      have tv1531 := congrArg Int32.toInt hv1531
      obtain ⟨v1533, hv1533⟩ : ∃ v, gI g0 59 0 = v := ⟨_, rfl⟩
      have rv1533 := RgF.at hI0.2.1 (p := 59) (b := 0) rfl
      rw [hv1533] at rv1533
      dsimp only at rv1533
      have tv1533 := congrArg Int32.toInt hv1533
      obtain ⟨v1535, hv1535⟩ : ∃ v, gI g0 59 12 = v := ⟨_, rfl⟩
      have rv1535 := RgF.at hI0.2.1 (p := 59) (b := 12) rfl
      rw [hv1535] at rv1535
      dsimp only at rv1535
      have tv1535 := congrArg Int32.toInt hv1535
      obtain ⟨v1537, hv1537⟩ : ∃ v, gI g0 59 10 = v := ⟨_, rfl⟩
      have tv1537 := congrArg Int32.toInt hv1537
      obtain ⟨v1539, hv1539⟩ : ∃ v, gI g0 59 11 = v := ⟨_, rfl⟩
      have tv1539 := congrArg Int32.toInt hv1539
      obtain ⟨v1541, hv1541⟩ : ∃ v, gI g0 59 4 = v := ⟨_, rfl⟩
      have rv1541 := RgF.at hI0.2.1 (p := 59) (b := 4) rfl
      rw [hv1541] at rv1541
      dsimp only at rv1541
      have tv1541 := congrArg Int32.toInt hv1541
      obtain ⟨v1543, hv1543⟩ : ∃ v, gI g0 59 6 = v := ⟨_, rfl⟩
      have rv1543 := RgF.at hI0.2.1 (p := 59) (b := 6) rfl
      rw [hv1543] at rv1543
      dsimp only at rv1543
      have tv1543 := congrArg Int32.toInt hv1543
      obtain ⟨v1545, hv1545⟩ : ∃ v, gI g0 59 9 = v := ⟨_, rfl⟩
      have tv1545 := congrArg Int32.toInt hv1545
      obtain ⟨v1547, hv1547⟩ : ∃ v, gI g0 116 0 = v := ⟨_, rfl⟩
      have rv1547 := RgF.at hI0.2.1 (p := 116) (b := 0) rfl
      rw [hv1547] at rv1547
      dsimp only at rv1547
      have tv1547 := congrArg Int32.toInt hv1547
      obtain ⟨v1549, hv1549⟩ : ∃ v, gI g0 116 12 = v := ⟨_, rfl⟩
      have rv1549 := RgF.at hI0.2.1 (p := 116) (b := 12) rfl
      rw [hv1549] at rv1549
      dsimp only at rv1549
      have tv1549 := congrArg Int32.toInt hv1549
      obtain ⟨v1551, hv1551⟩ : ∃ v, gI g0 116 10 = v := ⟨_, rfl⟩
      have tv1551 := congrArg Int32.toInt hv1551
      obtain ⟨v1553, hv1553⟩ : ∃ v, gI g0 116 11 = v := ⟨_, rfl⟩
      have tv1553 := congrArg Int32.toInt hv1553
      obtain ⟨v1555, hv1555⟩ : ∃ v, gI g0 116 4 = v := ⟨_, rfl⟩
      have rv1555 := RgF.at hI0.2.1 (p := 116) (b := 4) rfl
      rw [hv1555] at rv1555
      dsimp only at rv1555
      have tv1555 := congrArg Int32.toInt hv1555
      obtain ⟨v1557, hv1557⟩ : ∃ v, gI g0 116 6 = v := ⟨_, rfl⟩
      have rv1557 := RgF.at hI0.2.1 (p := 116) (b := 6) rfl
      rw [hv1557] at rv1557
      dsimp only at rv1557
      have tv1557 := congrArg Int32.toInt hv1557
      obtain ⟨v1559, hv1559⟩ : ∃ v, gI g0 116 9 = v := ⟨_, rfl⟩
      have tv1559 := congrArg Int32.toInt hv1559
      obtain ⟨v1561, hv1561⟩ : ∃ v, eA g0 173 0 = v := ⟨_, rfl⟩
      have tv1561 := congrArg Int32.toInt hv1561
      have x1562 := HI.eqA hI0 (p := 173) (j := 0) (hv1561)
      obtain ⟨v1563, hv1563⟩ : ∃ v, eA g0 173 1 = v := ⟨_, rfl⟩
      have tv1563 := congrArg Int32.toInt hv1563
      have x1564 := HI.eqA hI0 (p := 173) (j := 1) (hv1563)
      have x1565 := HI.eqI hI1513 (p := 59) (b := 0) (((hF1514.1 59 0 mf_X10_refused_0_59_0).trans hv1533))
      have x1566 := HI.eqI hI1513 (p := 59) (b := 12) (((hF1514.1 59 12 mf_X10_refused_0_59_12).trans hv1535))
      have x1567 := HI.eqI hI1513 (p := 59) (b := 10) (((hF1514.1 59 10 mf_X10_refused_0_59_10).trans hv1537))
      have x1568 := HI.eqI hI1513 (p := 59) (b := 11) (((hF1514.1 59 11 mf_X10_refused_0_59_11).trans hv1539))
      have x1569 := HI.eqI hI1513 (p := 59) (b := 4) (((hF1514.1 59 4 mf_X10_refused_0_59_4).trans hv1541))
      have x1570 := HI.eqI hI1513 (p := 59) (b := 6) (((hF1514.1 59 6 mf_X10_refused_0_59_6).trans hv1543))
      have x1571 := HI.eqI hI1513 (p := 59) (b := 9) (((hF1514.1 59 9 mf_X10_refused_0_59_9).trans hv1545))
      have x1572 := HI.eqI hI1513 (p := 116) (b := 0) (((hF1514.1 116 0 mf_X10_refused_0_116_0).trans hv1547))
      have x1573 := HI.eqI hI1513 (p := 116) (b := 12) (((hF1514.1 116 12 mf_X10_refused_0_116_12).trans hv1549))
      have x1574 := HI.eqI hI1513 (p := 116) (b := 10) (((hF1514.1 116 10 mf_X10_refused_0_116_10).trans hv1551))
      have x1575 := HI.eqI hI1513 (p := 116) (b := 11) (((hF1514.1 116 11 mf_X10_refused_0_116_11).trans hv1553))
      have x1576 := HI.eqI hI1513 (p := 116) (b := 4) (((hF1514.1 116 4 mf_X10_refused_0_116_4).trans hv1555))
      have x1577 := HI.eqI hI1513 (p := 116) (b := 6) (((hF1514.1 116 6 mf_X10_refused_0_116_6).trans hv1557))
      have x1578 := HI.eqI hI1513 (p := 116) (b := 9) (((hF1514.1 116 9 mf_X10_refused_0_116_9).trans hv1559))
      have x1579 := HI.eqA hI1513 (p := 173) (j := 0) (((eA_c (hF1514.2.1 173 ma_X10_refused_0_173)).trans hv1561))
      have x1580 := HI.eqA hI1513 (p := 173) (j := 1) (((eA_c (hF1514.2.1 173 ma_X10_refused_0_173)).trans hv1563))
      have kn112_ : ¬ (a1.toInt = 0) := by omega
      have kn113_ : ¬ (a1.toInt = 1) := by omega
      obtain ⟨v1581, hv1581⟩ : ∃ v, gI g1512 0 17 = v := ⟨_, rfl⟩
      have tv1581 := congrArg Int32.toInt hv1581
      exact ⟨_, rfl, hI1513, hF1517, _, rfl, by omega, ⟨⟨⟨by omega, by omega, by omega, by omega, by omega⟩, (by intro i i0 i1; refine Eq.trans ?_ (if_neg kn112_).symm; refine (eA_ti ((hF1514.2.1 60 ma_X10_refused_0_60))).trans ?_; (first | with_reducible rfl | omega | exact eA_ix (by omega) | rfl)), (by intro i i0 i1; refine Eq.trans ?_ (if_neg kn112_).symm; refine (eA_ti ((hF1514.2.1 61 ma_X10_refused_0_61))).trans ?_; (first | with_reducible rfl | omega | exact eA_ix (by omega) | rfl)), (by intro i i0 i1; refine Eq.trans ?_ (if_neg kn112_).symm; refine (eA_ti ((hF1514.2.1 62 ma_X10_refused_0_62))).trans ?_; (first | with_reducible rfl | omega | exact eA_ix (by omega) | rfl)), (by intro i i0 i1; refine Eq.trans ?_ (if_neg kn112_).symm; refine (eA_ti ((hF1514.2.1 72 ma_X10_refused_0_72))).trans ?_; (first | with_reducible rfl | omega | exact eA_ix (by omega) | rfl)), (by intro i i0 i1; refine Eq.trans ?_ (if_neg kn112_).symm; refine (eA_ti ((hF1514.2.1 73 ma_X10_refused_0_73))).trans ?_; (first | with_reducible rfl | omega | exact eA_ix (by omega) | rfl)), (by intro i i0 i1; refine Eq.trans ?_ (if_neg kn113_).symm; refine (eA_ti ((hF1514.2.1 117 ma_X10_refused_0_117))).trans ?_; (first | with_reducible rfl | omega | exact eA_ix (by omega) | rfl)), (by intro i i0 i1; refine Eq.trans ?_ (if_neg kn113_).symm; refine (eA_ti ((hF1514.2.1 118 ma_X10_refused_0_118))).trans ?_; (first | with_reducible rfl | omega | exact eA_ix (by omega) | rfl)), (by intro i i0 i1; refine Eq.trans ?_ (if_neg kn113_).symm; refine (eA_ti ((hF1514.2.1 119 ma_X10_refused_0_119))).trans ?_; (first | with_reducible rfl | omega | exact eA_ix (by omega) | rfl)), (by intro i i0 i1; refine Eq.trans ?_ (if_neg kn113_).symm; refine (eA_ti ((hF1514.2.1 129 ma_X10_refused_0_129))).trans ?_; (first | with_reducible rfl | omega | exact eA_ix (by omega) | rfl)), (by intro i i0 i1; refine Eq.trans ?_ (if_neg kn113_).symm; refine (eA_ti ((hF1514.2.1 130 ma_X10_refused_0_130))).trans ?_; (first | with_reducible rfl | omega | exact eA_ix (by omega) | rfl)), (by intro i i0 i1; refine Eq.trans ?_ (if_neg kn112_).symm; refine (eA_ti ((hF1514.2.1 63 ma_X10_refused_0_63))).trans ?_; (first | with_reducible rfl | omega | exact eA_ix (by omega) | rfl)), (by intro i i0 i1; refine Eq.trans ?_ (if_neg kn113_).symm; refine (eA_ti ((hF1514.2.1 120 ma_X10_refused_0_120))).trans ?_; (first | with_reducible rfl | omega | exact eA_ix (by omega) | rfl))⟩, (SU.mk (by omega))⟩⟩
    · have c1511_ : a1.toInt ≤ 1 := en_i_gt_f c1511
      refine At.enter rfl ?_
      refine r_iconst 1 rfl ?_
      refine r_goto ?_
      refine At.enter rfl ?_
      refine q_iretz (by decide) ?_
      refine At.enter rfl ?_
      refine r_iff 9 rfl (by decide) ?_
      refine At.enter rfl ?_
      refine r_aload_n rfl ?_
      refine q_getR (Sh.ref hI0.1 kx_0 rfl) ?_
      refine r_iload_n rfl ?_
      by_cases c1583_0 : a1.toInt = 0
      · refine q_aald (Sh.rar hI0.1 ka_58) (by decide) 0 (by omega) (by decide) (some 59) rfl ?_
        refine r_goto ?_
        refine At.enter rfl ?_
        refine q_aret ?_
        refine At.enter rfl ?_
        refine r_astore_n ([(2, .ref 59), (0, .ref 0), (1, .int a1)]) rfl ?_
        refine r_aload_n rfl ?_
        refine r_nnr ?_
        refine At.enter rfl ?_
        refine r_aload_n rfl ?_
        refine r_aload_n rfl ?_
        refine q_getR (Sh.ref hI0.1 kx_0 rfl) ?_
        refine q_inlV 24 rfl [.ref 59, .ref 1] [] (Nat.le_of_ble_eq_true rfl) rfl ?_
        refine Ev.mk rfl rfl ⟨Nat.le_of_ble_eq_true rfl, Or.inr (q_rc hI0.1 kx_59 rfl)⟩ ?_
        show At _ none _ _ (0, [(0, .ref 59), (1, .ref 1)], [], (_, _)) _
        refine At.enter rfl ?_
        refine r_aload_n rfl ?_
        refine r_aload_n rfl ?_
        obtain ⟨v1584, hv1584⟩ : ∃ v, gI g0 1 0 = v := ⟨_, rfl⟩
        have rv1584 := RgF.at hI0.2.1 (p := 1) (b := 0) rfl
        rw [hv1584] at rv1584
        dsimp only at rv1584
        refine q_getI (Sh.int hI0.1 kx_1 rfl) v1584 hv1584 ?_
        refine q_putI (Sh.int hI0.1 kx_59 rfl) rfl ?_
        have hI1585 := HI.wI1 hI0 kx_59 rfl (p := 59) (b := 0) (v := v1584) rfl (by dsimp only; omega)
        have hF1586 := Fr.wI (p := 59) (b := 0) (v := v1584) hF0 rfl
        refine r_aload_n rfl ?_
        refine q_getR (Sh.ref hI1585.1 kx_1 rfl) ?_
        refine r_iconst 0 rfl ?_
        refine r_aload_n rfl ?_
        refine q_getR (Sh.ref hI1585.1 kx_59 rfl) ?_
        refine r_iconst 0 rfl ?_
        refine r_bipush 12 rfl ?_
        have zv1587 : (0 : Int32).toInt = 0 := rfl
        have zv1588 : (0 : Int32).toInt = 0 := rfl
        have zv1589 : (12 : Int32).toInt = 12 := rfl
        refine q_cpy rfl (Nat.le_of_ble_eq_true rfl) (Sh.arr hI1585.1 ka_2) (Sh.arr hI1585.1 ka_60) ⟨by omega, by omega, by omega, by omega, by omega⟩ ?_
        have hI1590 := HI.cpy0 hI1585 ka_2 ka_60 rfl rfl ((0 : Int32).toInt.toNat) ((0 : Int32).toInt.toNat) ((12 : Int32).toInt.toNat) (by omega) (by omega)
        have hF1591 := Fr.cpy (p0 := 2) (p1 := 60) hF1586 rfl ((0 : Int32).toInt.toNat) ((0 : Int32).toInt.toNat) ((12 : Int32).toInt.toNat)
        refine r_aload_n rfl ?_
        refine q_getR (Sh.ref hI1590.1 kx_1 rfl) ?_
        refine r_iconst 0 rfl ?_
        refine r_aload_n rfl ?_
        refine q_getR (Sh.ref hI1590.1 kx_59 rfl) ?_
        refine r_iconst 0 rfl ?_
        refine r_bipush 12 rfl ?_
        have zv1592 : (0 : Int32).toInt = 0 := rfl
        have zv1593 : (0 : Int32).toInt = 0 := rfl
        have zv1594 : (12 : Int32).toInt = 12 := rfl
        refine q_cpy rfl (Nat.le_of_ble_eq_true rfl) (Sh.arr hI1590.1 ka_3) (Sh.arr hI1590.1 ka_61) ⟨by omega, by omega, by omega, by omega, by omega⟩ ?_
        have hI1595 := HI.cpy0 hI1590 ka_3 ka_61 rfl rfl ((0 : Int32).toInt.toNat) ((0 : Int32).toInt.toNat) ((12 : Int32).toInt.toNat) (by omega) (by omega)
        have hF1596 := Fr.cpy (p0 := 3) (p1 := 61) hF1591 rfl ((0 : Int32).toInt.toNat) ((0 : Int32).toInt.toNat) ((12 : Int32).toInt.toNat)
        refine r_aload_n rfl ?_
        refine q_getR (Sh.ref hI1595.1 kx_1 rfl) ?_
        refine r_iconst 0 rfl ?_
        refine r_aload_n rfl ?_
        refine q_getR (Sh.ref hI1595.1 kx_59 rfl) ?_
        refine r_iconst 0 rfl ?_
        refine r_bipush 12 rfl ?_
        have zv1597 : (0 : Int32).toInt = 0 := rfl
        have zv1598 : (0 : Int32).toInt = 0 := rfl
        have zv1599 : (12 : Int32).toInt = 12 := rfl
        refine q_cpy rfl (Nat.le_of_ble_eq_true rfl) (Sh.arr hI1595.1 ka_4) (Sh.arr hI1595.1 ka_62) ⟨by omega, by omega, by omega, by omega, by omega⟩ ?_
        have hI1600 := HI.cpy0 hI1595 ka_4 ka_62 rfl rfl ((0 : Int32).toInt.toNat) ((0 : Int32).toInt.toNat) ((12 : Int32).toInt.toNat) (by omega) (by omega)
        have hF1601 := Fr.cpy (p0 := 4) (p1 := 62) hF1596 rfl ((0 : Int32).toInt.toNat) ((0 : Int32).toInt.toNat) ((12 : Int32).toInt.toNat)
        refine r_aload_n rfl ?_
        refine r_aload_n rfl ?_
        obtain ⟨v1602, hv1602⟩ : ∃ v, gI g0 1 4 = v := ⟨_, rfl⟩
        have rv1602 := RgF.at hI0.2.1 (p := 1) (b := 4) rfl
        rw [hv1602] at rv1602
        dsimp only at rv1602
        refine q_getI (Sh.int hI1600.1 kx_1 rfl) v1602 (((gI_sW).trans ((gI_sW).trans ((gI_sW).trans (gI_sI_ne (by decide))))).trans hv1602) ?_
        refine q_putI (Sh.int hI1600.1 kx_59 rfl) rfl ?_
        have hI1603 := HI.wI1 hI1600 kx_59 rfl (p := 59) (b := 4) (v := v1602) rfl (by dsimp only; omega)
        have hF1604 := Fr.wI (p := 59) (b := 4) (v := v1602) hF1601 rfl
        refine r_aload_n rfl ?_
        refine q_getR (Sh.ref hI1603.1 kx_1 rfl) ?_
        refine r_iconst 0 rfl ?_
        refine r_aload_n rfl ?_
        refine q_getR (Sh.ref hI1603.1 kx_59 rfl) ?_
        refine r_iconst 0 rfl ?_
        refine r_bipush 48 rfl ?_
        have zv1605 : (0 : Int32).toInt = 0 := rfl
        have zv1606 : (0 : Int32).toInt = 0 := rfl
        have zv1607 : (48 : Int32).toInt = 48 := rfl
        refine q_cpy rfl (Nat.le_of_ble_eq_true rfl) (Sh.arr hI1603.1 ka_5) (Sh.arr hI1603.1 ka_63) ⟨by omega, by omega, by omega, by omega, by omega⟩ ?_
        have hI1608 := HI.cpy0 hI1603 ka_5 ka_63 rfl rfl ((0 : Int32).toInt.toNat) ((0 : Int32).toInt.toNat) ((48 : Int32).toInt.toNat) (by omega) (by omega)
        have hF1609 := Fr.cpy (p0 := 5) (p1 := 63) hF1604 rfl ((0 : Int32).toInt.toNat) ((0 : Int32).toInt.toNat) ((48 : Int32).toInt.toNat)
        refine r_aload_n rfl ?_
        refine r_aload_n rfl ?_
        obtain ⟨v1610, hv1610⟩ : ∃ v, gI g0 1 6 = v := ⟨_, rfl⟩
        have rv1610 := RgF.at hI0.2.1 (p := 1) (b := 6) rfl
        rw [hv1610] at rv1610
        dsimp only at rv1610
        refine q_getI (Sh.int hI1608.1 kx_1 rfl) v1610 (((gI_sW).trans ((gI_sI_ne (by decide)).trans ((gI_sW).trans ((gI_sW).trans ((gI_sW).trans (gI_sI_ne (by decide))))))).trans hv1610) ?_
        refine q_putI (Sh.int hI1608.1 kx_59 rfl) rfl ?_
        have hI1611 := HI.wI1 hI1608 kx_59 rfl (p := 59) (b := 6) (v := v1610) rfl (by dsimp only; omega)
        have hF1612 := Fr.wI (p := 59) (b := 6) (v := v1610) hF1609 rfl
        refine r_iconst 0 rfl ?_
        refine r_istore_n ([(2, .int 0), (0, .ref 59), (1, .ref 1)]) rfl ?_
        refine Ar.fall 86 rfl ?_
        obtain ⟨v1613, hv1613⟩ : ∃ v, gI g0 59 10 = v := ⟨_, rfl⟩
        have tv1613 := congrArg Int32.toInt hv1613
        obtain ⟨v1614, hv1614⟩ : ∃ v, gI g0 59 11 = v := ⟨_, rfl⟩
        have tv1614 := congrArg Int32.toInt hv1614
        obtain ⟨v1615, hv1615⟩ : ∃ v, gI g0 59 12 = v := ⟨_, rfl⟩
        have rv1615 := RgF.at hI0.2.1 (p := 59) (b := 12) rfl
        rw [hv1615] at rv1615
        dsimp only at rv1615
        have tv1615 := congrArg Int32.toInt hv1615
        obtain ⟨v1616, hv1616⟩ : ∃ v, gI g0 59 9 = v := ⟨_, rfl⟩
        have tv1616 := congrArg Int32.toInt hv1616
        obtain ⟨v1617, hv1617⟩ : ∃ v, gI g0 116 0 = v := ⟨_, rfl⟩
        have rv1617 := RgF.at hI0.2.1 (p := 116) (b := 0) rfl
        rw [hv1617] at rv1617
        dsimp only at rv1617
        have tv1617 := congrArg Int32.toInt hv1617
        obtain ⟨v1618, hv1618⟩ : ∃ v, gI g0 116 10 = v := ⟨_, rfl⟩
        have tv1618 := congrArg Int32.toInt hv1618
        obtain ⟨v1619, hv1619⟩ : ∃ v, gI g0 116 11 = v := ⟨_, rfl⟩
        have tv1619 := congrArg Int32.toInt hv1619
        obtain ⟨v1620, hv1620⟩ : ∃ v, gI g0 116 12 = v := ⟨_, rfl⟩
        have rv1620 := RgF.at hI0.2.1 (p := 116) (b := 12) rfl
        rw [hv1620] at rv1620
        dsimp only at rv1620
        have tv1620 := congrArg Int32.toInt hv1620
        obtain ⟨v1621, hv1621⟩ : ∃ v, gI g0 116 4 = v := ⟨_, rfl⟩
        have rv1621 := RgF.at hI0.2.1 (p := 116) (b := 4) rfl
        rw [hv1621] at rv1621
        dsimp only at rv1621
        have tv1621 := congrArg Int32.toInt hv1621
        obtain ⟨v1622, hv1622⟩ : ∃ v, gI g0 116 6 = v := ⟨_, rfl⟩
        have rv1622 := RgF.at hI0.2.1 (p := 116) (b := 6) rfl
        rw [hv1622] at rv1622
        dsimp only at rv1622
        have tv1622 := congrArg Int32.toInt hv1622
        obtain ⟨v1623, hv1623⟩ : ∃ v, gI g0 116 9 = v := ⟨_, rfl⟩
        have tv1623 := congrArg Int32.toInt hv1623
        obtain ⟨v1624, hv1624⟩ : ∃ v, eA g0 173 0 = v := ⟨_, rfl⟩
        have tv1624 := congrArg Int32.toInt hv1624
        obtain ⟨v1625, hv1625⟩ : ∃ v, eA g0 173 1 = v := ⟨_, rfl⟩
        have tv1625 := congrArg Int32.toInt hv1625
        have z_1871 : (0 : Int32).toInt = 0 := rfl
        refine w_loopI (fun n_ l_ g_ => ∃ x1832 : Int32, n_ = 6 - x1832.toInt ∧ HI g_ ∧ Fr F_X10_image_0 A_X10_image_0 g0 g_ ∧ gI g_ 59 0 = v1584 ∧ gI g_ 59 10 = v1613 ∧ gI g_ 59 11 = v1614 ∧ gI g_ 59 12 = v1615 ∧ gI g_ 59 4 = v1602 ∧ gI g_ 59 6 = v1610 ∧ gI g_ 59 9 = v1616 ∧ gI g_ 116 0 = v1617 ∧ gI g_ 116 10 = v1618 ∧ gI g_ 116 11 = v1619 ∧ gI g_ 116 12 = v1620 ∧ gI g_ 116 4 = v1621 ∧ gI g_ 116 6 = v1622 ∧ gI g_ 116 9 = v1623 ∧ eA g_ 173 0 = v1624 ∧ eA g_ 173 1 = v1625 ∧ en_get 0 l_ = some (.ref 59) ∧ en_get 1 l_ = some (.ref 1) ∧ en_get 2 l_ = some (.int x1832) ∧ (0 ≤ x1832.toInt ∧ x1832.toInt ≤ 6) ∧ (∀ i : Int, 0 ≤ i → i < 12 → (eA g_ 60 (i)).toInt = (eA g0 2 (i)).toInt) ∧ (∀ i : Int, 0 ≤ i → i < 12 → (eA g_ 61 (i)).toInt = (eA g0 3 (i)).toInt) ∧ (∀ i : Int, 0 ≤ i → i < 12 → (eA g_ 62 (i)).toInt = (eA g0 4 (i)).toInt) ∧ (∀ i : Int, 0 ≤ i → i < 8 → (eA g_ 72 (i)).toInt = (eA g0 72 (i)).toInt) ∧ (∀ i : Int, 0 ≤ i → i < 8 → (eA g_ 73 (i)).toInt = (eA g0 73 (i)).toInt) ∧ (∀ i : Int, 0 ≤ i → i < 12 → (eA g_ 117 (i)).toInt = (eA g0 117 (i)).toInt) ∧ (∀ i : Int, 0 ≤ i → i < 12 → (eA g_ 118 (i)).toInt = (eA g0 118 (i)).toInt) ∧ (∀ i : Int, 0 ≤ i → i < 12 → (eA g_ 119 (i)).toInt = (eA g0 119 (i)).toInt) ∧ (∀ i : Int, 0 ≤ i → i < 8 → (eA g_ 129 (i)).toInt = (eA g0 129 (i)).toInt) ∧ (∀ i : Int, 0 ≤ i → i < 8 → (eA g_ 130 (i)).toInt = (eA g0 130 (i)).toInt) ∧ (∀ i : Int, 0 ≤ i → i < 48 → (eA g_ 63 (i)).toInt = (eA g0 5 (i)).toInt) ∧ (∀ i : Int, 0 ≤ i → i < 48 → (eA g_ 120 (i)).toInt = (eA g0 120 (i)).toInt)) ?_ (6 - 0) ⟨0, by first | rfl | omega, hI1611, hF1612, ((gI_sI_ne (by decide)).trans ((gI_sW).trans ((gI_sI_ne (by decide)).trans ((gI_sW).trans ((gI_sW).trans ((gI_sW).trans (gI_sI_eq hI0.1 kx_59 rfl _))))))), (((gI_sI_ne (by decide)).trans ((gI_sW).trans ((gI_sI_ne (by decide)).trans ((gI_sW).trans ((gI_sW).trans ((gI_sW).trans (gI_sI_ne (by decide)))))))).trans hv1613), (((gI_sI_ne (by decide)).trans ((gI_sW).trans ((gI_sI_ne (by decide)).trans ((gI_sW).trans ((gI_sW).trans ((gI_sW).trans (gI_sI_ne (by decide)))))))).trans hv1614), (((gI_sI_ne (by decide)).trans ((gI_sW).trans ((gI_sI_ne (by decide)).trans ((gI_sW).trans ((gI_sW).trans ((gI_sW).trans (gI_sI_ne (by decide)))))))).trans hv1615), ((gI_sI_ne (by decide)).trans ((gI_sW).trans (gI_sI_eq hI1600.1 kx_59 rfl _))), (gI_sI_eq hI1608.1 kx_59 rfl _), (((gI_sI_ne (by decide)).trans ((gI_sW).trans ((gI_sI_ne (by decide)).trans ((gI_sW).trans ((gI_sW).trans ((gI_sW).trans (gI_sI_ne (by decide)))))))).trans hv1616), (((gI_sI_ne (by decide)).trans ((gI_sW).trans ((gI_sI_ne (by decide)).trans ((gI_sW).trans ((gI_sW).trans ((gI_sW).trans (gI_sI_ne (by decide)))))))).trans hv1617), (((gI_sI_ne (by decide)).trans ((gI_sW).trans ((gI_sI_ne (by decide)).trans ((gI_sW).trans ((gI_sW).trans ((gI_sW).trans (gI_sI_ne (by decide)))))))).trans hv1618), (((gI_sI_ne (by decide)).trans ((gI_sW).trans ((gI_sI_ne (by decide)).trans ((gI_sW).trans ((gI_sW).trans ((gI_sW).trans (gI_sI_ne (by decide)))))))).trans hv1619), (((gI_sI_ne (by decide)).trans ((gI_sW).trans ((gI_sI_ne (by decide)).trans ((gI_sW).trans ((gI_sW).trans ((gI_sW).trans (gI_sI_ne (by decide)))))))).trans hv1620), (((gI_sI_ne (by decide)).trans ((gI_sW).trans ((gI_sI_ne (by decide)).trans ((gI_sW).trans ((gI_sW).trans ((gI_sW).trans (gI_sI_ne (by decide)))))))).trans hv1621), (((gI_sI_ne (by decide)).trans ((gI_sW).trans ((gI_sI_ne (by decide)).trans ((gI_sW).trans ((gI_sW).trans ((gI_sW).trans (gI_sI_ne (by decide)))))))).trans hv1622), (((gI_sI_ne (by decide)).trans ((gI_sW).trans ((gI_sI_ne (by decide)).trans ((gI_sW).trans ((gI_sW).trans ((gI_sW).trans (gI_sI_ne (by decide)))))))).trans hv1623), (((eA_c gA_sI).trans ((eA_c (gA_sW_ne (by decide))).trans ((eA_c gA_sI).trans ((eA_c (gA_sW_ne (by decide))).trans ((eA_c (gA_sW_ne (by decide))).trans ((eA_c (gA_sW_ne (by decide))).trans (eA_c gA_sI))))))).trans hv1624), (((eA_c gA_sI).trans ((eA_c (gA_sW_ne (by decide))).trans ((eA_c gA_sI).trans ((eA_c (gA_sW_ne (by decide))).trans ((eA_c (gA_sW_ne (by decide))).trans ((eA_c (gA_sW_ne (by decide))).trans (eA_c gA_sI))))))).trans hv1625), rfl, rfl, rfl, by decide, (by intro i i0 i1; refine (eA_tq (((gA_sI).trans ((gA_sW_ne (by decide)).trans ((gA_sI).trans ((gA_sW_ne (by decide)).trans ((gA_sW_ne (by decide)).trans ((gA_cpF hI1585.1 ka_2 ka_60 (by decide) (by decide) (by decide)).trans (gA_sI))))))))).trans ?_; (first | with_reducible rfl | omega | exact eA_ix (by omega) | rfl)), (by intro i i0 i1; refine (eA_tq (((gA_sI).trans ((gA_sW_ne (by decide)).trans ((gA_sI).trans ((gA_sW_ne (by decide)).trans ((gA_cpF hI1590.1 ka_3 ka_61 (by decide) (by decide) (by decide)).trans ((gA_sW_ne (by decide)).trans (gA_sI))))))))).trans ?_; (first | with_reducible rfl | omega | exact eA_ix (by omega) | rfl)), (by intro i i0 i1; refine (eA_tq (((gA_sI).trans ((gA_sW_ne (by decide)).trans ((gA_sI).trans ((gA_cpF hI1595.1 ka_4 ka_62 (by decide) (by decide) (by decide)).trans ((gA_sW_ne (by decide)).trans ((gA_sW_ne (by decide)).trans (gA_sI))))))))).trans ?_; (first | with_reducible rfl | omega | exact eA_ix (by omega) | rfl)), (by intro i i0 i1; refine (eA_ti (((gA_sI).trans ((gA_sW_ne (by decide)).trans ((gA_sI).trans ((gA_sW_ne (by decide)).trans ((gA_sW_ne (by decide)).trans ((gA_sW_ne (by decide)).trans (gA_sI))))))))).trans ?_; (first | with_reducible rfl | omega | exact eA_ix (by omega) | rfl)), (by intro i i0 i1; refine (eA_ti (((gA_sI).trans ((gA_sW_ne (by decide)).trans ((gA_sI).trans ((gA_sW_ne (by decide)).trans ((gA_sW_ne (by decide)).trans ((gA_sW_ne (by decide)).trans (gA_sI))))))))).trans ?_; (first | with_reducible rfl | omega | exact eA_ix (by omega) | rfl)), (by intro i i0 i1; refine (eA_ti (((gA_sI).trans ((gA_sW_ne (by decide)).trans ((gA_sI).trans ((gA_sW_ne (by decide)).trans ((gA_sW_ne (by decide)).trans ((gA_sW_ne (by decide)).trans (gA_sI))))))))).trans ?_; (first | with_reducible rfl | omega | exact eA_ix (by omega) | rfl)), (by intro i i0 i1; refine (eA_ti (((gA_sI).trans ((gA_sW_ne (by decide)).trans ((gA_sI).trans ((gA_sW_ne (by decide)).trans ((gA_sW_ne (by decide)).trans ((gA_sW_ne (by decide)).trans (gA_sI))))))))).trans ?_; (first | with_reducible rfl | omega | exact eA_ix (by omega) | rfl)), (by intro i i0 i1; refine (eA_ti (((gA_sI).trans ((gA_sW_ne (by decide)).trans ((gA_sI).trans ((gA_sW_ne (by decide)).trans ((gA_sW_ne (by decide)).trans ((gA_sW_ne (by decide)).trans (gA_sI))))))))).trans ?_; (first | with_reducible rfl | omega | exact eA_ix (by omega) | rfl)), (by intro i i0 i1; refine (eA_ti (((gA_sI).trans ((gA_sW_ne (by decide)).trans ((gA_sI).trans ((gA_sW_ne (by decide)).trans ((gA_sW_ne (by decide)).trans ((gA_sW_ne (by decide)).trans (gA_sI))))))))).trans ?_; (first | with_reducible rfl | omega | exact eA_ix (by omega) | rfl)), (by intro i i0 i1; refine (eA_ti (((gA_sI).trans ((gA_sW_ne (by decide)).trans ((gA_sI).trans ((gA_sW_ne (by decide)).trans ((gA_sW_ne (by decide)).trans ((gA_sW_ne (by decide)).trans (gA_sI))))))))).trans ?_; (first | with_reducible rfl | omega | exact eA_ix (by omega) | rfl)), (by intro i i0 i1; refine (eA_tq (((gA_sI).trans ((gA_cpF hI1603.1 ka_5 ka_63 (by decide) (by decide) (by decide)).trans ((gA_sI).trans ((gA_sW_ne (by decide)).trans ((gA_sW_ne (by decide)).trans ((gA_sW_ne (by decide)).trans (gA_sI))))))))).trans ?_; (first | with_reducible rfl | omega | exact eA_ix (by omega) | rfl)), (by intro i i0 i1; refine (eA_ti (((gA_sI).trans ((gA_sW_ne (by decide)).trans ((gA_sI).trans ((gA_sW_ne (by decide)).trans ((gA_sW_ne (by decide)).trans ((gA_sW_ne (by decide)).trans (gA_sI))))))))).trans ?_; (first | with_reducible rfl | omega | exact eA_ix (by omega) | rfl))⟩
        rintro n1837 l1836 g1833 ⟨x1832, hm1872, hI1834, hF1835, e1839, e1840, e1841, e1842, e1843, e1844, e1845, e1846, e1847, e1848, e1849, e1850, e1851, e1852, e1853, e1854, e1855, e1856, e1857, r1858, q1859, q1860, q1861, q1862, q1863, q1864, q1865, q1866, q1867, q1868, q1869, q1870⟩ ih1838
        have tv1873 := congrArg Int32.toInt e1853
        have tv1874 := congrArg Int32.toInt e1854
        have tv1875 := congrArg Int32.toInt e1839
        have tv1876 := congrArg Int32.toInt e1840
        have tv1877 := congrArg Int32.toInt e1841
        have tv1878 := congrArg Int32.toInt e1842
        have tv1879 := congrArg Int32.toInt e1843
        have tv1880 := congrArg Int32.toInt e1844
        have tv1881 := congrArg Int32.toInt e1845
        have tv1882 := congrArg Int32.toInt e1846
        have tv1883 := congrArg Int32.toInt e1847
        have tv1884 := congrArg Int32.toInt e1848
        have tv1885 := congrArg Int32.toInt e1849
        have tv1886 := congrArg Int32.toInt e1850
        have tv1887 := congrArg Int32.toInt e1851
        have tv1888 := congrArg Int32.toInt e1852
        refine At.enter rfl ?_
        refine r_iload_n e1857 ?_
        refine r_bipush 6 rfl ?_
        refine r_ics 92 rfl (fun c1889 => ?_) (fun c1889 => ?_)
        · have c1889_ : x1832.toInt ≥ 6 := en_i_ge_t c1889
          refine At.enter rfl ?_
          refine r_aload_n e1855 ?_
          refine r_aload_n e1856 ?_
          obtain ⟨v1890, hv1890⟩ : ∃ v, gI g0 1 9 = v := ⟨_, rfl⟩
          refine q_getI (Sh.int hI1834.1 kx_1 rfl) v1890 ((hF1835.1 1 9 (by decide)).trans hv1890) ?_
          refine q_putI (Sh.int hI1834.1 kx_59 rfl) rfl ?_
          have hI1891 := HI.wI0 hI1834 kx_59 rfl (p := 59) (b := 9) (v := v1890) rfl
          have hF1892 := Fr.wI (p := 59) (b := 9) (v := v1890) hF1835 rfl
          refine r_aload_n e1855 ?_
          refine r_aload_n e1856 ?_
          obtain ⟨v1893, hv1893⟩ : ∃ v, gI g0 1 10 = v := ⟨_, rfl⟩
          refine q_getI (Sh.int hI1891.1 kx_1 rfl) v1893 (((gI_sI_ne (by decide)).trans (hF1835.1 1 10 (by decide))).trans hv1893) ?_
          refine q_putI (Sh.int hI1891.1 kx_59 rfl) rfl ?_
          have hI1894 := HI.wI0 hI1891 kx_59 rfl (p := 59) (b := 10) (v := v1893) rfl
          have hF1895 := Fr.wI (p := 59) (b := 10) (v := v1893) hF1892 rfl
          refine r_aload_n e1855 ?_
          refine r_aload_n e1856 ?_
          obtain ⟨v1896, hv1896⟩ : ∃ v, gI g0 1 11 = v := ⟨_, rfl⟩
          refine q_getI (Sh.int hI1894.1 kx_1 rfl) v1896 (((gI_sI_ne (by decide)).trans ((gI_sI_ne (by decide)).trans (hF1835.1 1 11 (by decide)))).trans hv1896) ?_
          refine q_putI (Sh.int hI1894.1 kx_59 rfl) rfl ?_
          have hI1897 := HI.wI0 hI1894 kx_59 rfl (p := 59) (b := 11) (v := v1896) rfl
          have hF1898 := Fr.wI (p := 59) (b := 11) (v := v1896) hF1895 rfl
          refine r_aload_n e1855 ?_
          refine r_aload_n e1856 ?_
          obtain ⟨v1899, hv1899⟩ : ∃ v, gI g0 1 12 = v := ⟨_, rfl⟩
          have rv1899 := RgF.at hI0.2.1 (p := 1) (b := 12) rfl
          rw [hv1899] at rv1899
          dsimp only at rv1899
          refine q_getI (Sh.int hI1897.1 kx_1 rfl) v1899 (((gI_sI_ne (by decide)).trans ((gI_sI_ne (by decide)).trans ((gI_sI_ne (by decide)).trans (hF1835.1 1 12 (by decide))))).trans hv1899) ?_
          refine q_putI (Sh.int hI1897.1 kx_59 rfl) rfl ?_
          have hI1900 := HI.wI1 hI1897 kx_59 rfl (p := 59) (b := 12) (v := v1899) rfl (by dsimp only; omega)
          have hF1901 := Fr.wI (p := 59) (b := 12) (v := v1899) hF1898 rfl
          refine r_aload_n e1856 ?_
          refine q_getR (Sh.ref hI1900.1 kx_1 rfl) ?_
          refine r_iconst 0 rfl ?_
          refine r_aload_n e1855 ?_
          refine q_getR (Sh.ref hI1900.1 kx_59 rfl) ?_
          refine r_iconst 0 rfl ?_
          refine r_bipush 8 rfl ?_
          have zv1902 : (0 : Int32).toInt = 0 := rfl
          have zv1903 : (0 : Int32).toInt = 0 := rfl
          have zv1904 : (8 : Int32).toInt = 8 := rfl
          refine q_cpy rfl (Nat.le_of_ble_eq_true rfl) (Sh.arr hI1900.1 ka_14) (Sh.arr hI1900.1 ka_72) ⟨by omega, by omega, by omega, by omega, by omega⟩ ?_
          have hI1905 := HI.cpy0 hI1900 ka_14 ka_72 rfl rfl ((0 : Int32).toInt.toNat) ((0 : Int32).toInt.toNat) ((8 : Int32).toInt.toNat) (by omega) (by omega)
          have hF1906 := Fr.cpy (p0 := 14) (p1 := 72) hF1901 rfl ((0 : Int32).toInt.toNat) ((0 : Int32).toInt.toNat) ((8 : Int32).toInt.toNat)
          refine r_aload_n e1856 ?_
          refine q_getR (Sh.ref hI1905.1 kx_1 rfl) ?_
          refine r_iconst 0 rfl ?_
          refine r_aload_n e1855 ?_
          refine q_getR (Sh.ref hI1905.1 kx_59 rfl) ?_
          refine r_iconst 0 rfl ?_
          refine r_bipush 8 rfl ?_
          have zv1907 : (0 : Int32).toInt = 0 := rfl
          have zv1908 : (0 : Int32).toInt = 0 := rfl
          have zv1909 : (8 : Int32).toInt = 8 := rfl
          refine q_cpy rfl (Nat.le_of_ble_eq_true rfl) (Sh.arr hI1905.1 ka_15) (Sh.arr hI1905.1 ka_73) ⟨by omega, by omega, by omega, by omega, by omega⟩ ?_
          have hI1910 := HI.cpy0 hI1905 ka_15 ka_73 rfl rfl ((0 : Int32).toInt.toNat) ((0 : Int32).toInt.toNat) ((8 : Int32).toInt.toNat) (by omega) (by omega)
          have hF1911 := Fr.cpy (p0 := 15) (p1 := 73) hF1906 rfl ((0 : Int32).toInt.toNat) ((0 : Int32).toInt.toNat) ((8 : Int32).toInt.toNat)
          refine q_vret ?_
          refine At.enter rfl ?_
          refine r_aload_n rfl ?_
          refine q_getR (Sh.ref hI1910.1 kx_0 rfl) ?_
          refine r_iload_n rfl ?_
          refine r_iconst 1 rfl ?_
          refine q_bast (Sh.arr hI1910.1 ka_173) (a1.toInt) rfl (by omega) rfl ?_
          have hI1912 := HI.wA0 hI1910 ka_173 (p := 173) rfl rfl (a1.toInt) (1)
          have hF1913 := Fr.wA (p := 173) (j := a1.toInt) (v := 1) hF1911 rfl
          refine r_aload_n rfl ?_
          refine r_iconst 0 rfl ?_
          refine q_inlV 36 rfl [.ref 0, .int 0] [] (Nat.le_of_ble_eq_true rfl) rfl ?_
          refine Ev.mk rfl rfl ⟨Nat.le_of_ble_eq_true rfl, Or.inr (q_rc hI1912.1 kx_0 rfl)⟩ ?_
          show At _ none _ _ (0, [(0, .ref 0), (1, .int 0)], [], (_, _)) _
          refine At.enter rfl ?_
          refine r_aload_n rfl ?_
          refine r_iconst 0 rfl ?_
          refine q_putI (Sh.int hI1912.1 kx_0 rfl) rfl ?_
          have hI1914 := HI.wI0 hI1912 kx_0 rfl (p := 0) (b := 17) (v := 0) rfl
          have hF1915 := Fr.wI (p := 0) (b := 17) (v := 0) hF1913 rfl
          refine r_iload_n rfl ?_
          refine q_ireti ?_
          refine At.enter rfl ?_
          refine r_ireti ?_
          have zv1916 : (0 : Int32).toInt = 0 := rfl
          have e : a1.toInt = 0 := by omega
          have zv1917 : (0 : Int32).toInt = 0 := rfl
          have x1918 := HI.eqI hI1914 (p := 0) (b := 17) ((gI_sI_eq hI1912.1 kx_0 rfl _))
          have zv1919 : (0 : Int32).toInt = 0 := rfl
          exact ⟨_, rfl, hI1914, hF1915, _, rfl, by decide, ⟨⟨⟨(fun _ => ⟨(HI.eqA hI1914 (p := 173) (j := 0) (((eA_c gA_sI).trans (eA_sA_eq hI1910.1 ka_173 (by omega) (by first | decide | omega) (by first | decide | omega))))).trans rfl, (by first | rfl | decide), (HI.eqI hI1914 (p := 59) (b := 0) ((((gI_sI_ne (by decide)).trans ((gI_sW).trans ((gI_sW).trans ((gI_sW).trans ((gI_sI_ne (by decide)).trans ((gI_sI_ne (by decide)).trans ((gI_sI_ne (by decide)).trans (gI_sI_ne (by decide))))))))).trans e1839))).trans (HI.eqI hI0 (p := 1) (b := 0) (hv1584)).symm, (HI.eqI hI1914 (p := 59) (b := 12) (((gI_sI_ne (by decide)).trans ((gI_sW).trans ((gI_sW).trans ((gI_sW).trans (gI_sI_eq hI1897.1 kx_59 rfl _))))))).trans (HI.eqI hI0 (p := 1) (b := 12) (hv1899)).symm, (HI.eqI hI1914 (p := 59) (b := 10) (((gI_sI_ne (by decide)).trans ((gI_sW).trans ((gI_sW).trans ((gI_sW).trans ((gI_sI_ne (by decide)).trans ((gI_sI_ne (by decide)).trans (gI_sI_eq hI1891.1 kx_59 rfl _))))))))).trans (HI.eqI hI0 (p := 1) (b := 10) (hv1893)).symm, (HI.eqI hI1914 (p := 59) (b := 11) (((gI_sI_ne (by decide)).trans ((gI_sW).trans ((gI_sW).trans ((gI_sW).trans ((gI_sI_ne (by decide)).trans (gI_sI_eq hI1894.1 kx_59 rfl _)))))))).trans (HI.eqI hI0 (p := 1) (b := 11) (hv1896)).symm, (HI.eqI hI1914 (p := 59) (b := 4) ((((gI_sI_ne (by decide)).trans ((gI_sW).trans ((gI_sW).trans ((gI_sW).trans ((gI_sI_ne (by decide)).trans ((gI_sI_ne (by decide)).trans ((gI_sI_ne (by decide)).trans (gI_sI_ne (by decide))))))))).trans e1843))).trans (HI.eqI hI0 (p := 1) (b := 4) (hv1602)).symm, (HI.eqI hI1914 (p := 59) (b := 6) ((((gI_sI_ne (by decide)).trans ((gI_sW).trans ((gI_sW).trans ((gI_sW).trans ((gI_sI_ne (by decide)).trans ((gI_sI_ne (by decide)).trans ((gI_sI_ne (by decide)).trans (gI_sI_ne (by decide))))))))).trans e1844))).trans (HI.eqI hI0 (p := 1) (b := 6) (hv1610)).symm, (HI.eqI hI1914 (p := 59) (b := 9) (((gI_sI_ne (by decide)).trans ((gI_sW).trans ((gI_sW).trans ((gI_sW).trans ((gI_sI_ne (by decide)).trans ((gI_sI_ne (by decide)).trans ((gI_sI_ne (by decide)).trans (gI_sI_eq hI1834.1 kx_59 rfl _)))))))))).trans (HI.eqI hI0 (p := 1) (b := 9) (hv1890)).symm⟩), (fun h => absurd e h), (fun h => absurd (e.symm.trans h) (by decide)), (fun _ => ⟨(HI.eqA hI1914 (p := 173) (j := 1) ((((eA_c gA_sI).trans ((eA_sA_ne hI1910.1 ka_173 (by first | decide | omega) (by first | decide | omega) (by first | decide | omega)).trans ((eA_c (gA_sW_ne (by decide))).trans ((eA_c (gA_sW_ne (by decide))).trans ((eA_c gA_sI).trans ((eA_c gA_sI).trans ((eA_c gA_sI).trans (eA_c gA_sI)))))))).trans e1854))).trans (HI.eqA hI0 (p := 173) (j := 1) (hv1625)).symm, (HI.eqI hI1914 (p := 116) (b := 0) ((((gI_sI_ne (by decide)).trans ((gI_sW).trans ((gI_sW).trans ((gI_sW).trans ((gI_sI_ne (by decide)).trans ((gI_sI_ne (by decide)).trans ((gI_sI_ne (by decide)).trans (gI_sI_ne (by decide))))))))).trans e1846))).trans (HI.eqI hI0 (p := 116) (b := 0) (hv1617)).symm, (HI.eqI hI1914 (p := 116) (b := 12) ((((gI_sI_ne (by decide)).trans ((gI_sW).trans ((gI_sW).trans ((gI_sW).trans ((gI_sI_ne (by decide)).trans ((gI_sI_ne (by decide)).trans ((gI_sI_ne (by decide)).trans (gI_sI_ne (by decide))))))))).trans e1849))).trans (HI.eqI hI0 (p := 116) (b := 12) (hv1620)).symm, (HI.eqI hI1914 (p := 116) (b := 10) ((((gI_sI_ne (by decide)).trans ((gI_sW).trans ((gI_sW).trans ((gI_sW).trans ((gI_sI_ne (by decide)).trans ((gI_sI_ne (by decide)).trans ((gI_sI_ne (by decide)).trans (gI_sI_ne (by decide))))))))).trans e1847))).trans (HI.eqI hI0 (p := 116) (b := 10) (hv1618)).symm, (HI.eqI hI1914 (p := 116) (b := 11) ((((gI_sI_ne (by decide)).trans ((gI_sW).trans ((gI_sW).trans ((gI_sW).trans ((gI_sI_ne (by decide)).trans ((gI_sI_ne (by decide)).trans ((gI_sI_ne (by decide)).trans (gI_sI_ne (by decide))))))))).trans e1848))).trans (HI.eqI hI0 (p := 116) (b := 11) (hv1619)).symm, (HI.eqI hI1914 (p := 116) (b := 4) ((((gI_sI_ne (by decide)).trans ((gI_sW).trans ((gI_sW).trans ((gI_sW).trans ((gI_sI_ne (by decide)).trans ((gI_sI_ne (by decide)).trans ((gI_sI_ne (by decide)).trans (gI_sI_ne (by decide))))))))).trans e1850))).trans (HI.eqI hI0 (p := 116) (b := 4) (hv1621)).symm, (HI.eqI hI1914 (p := 116) (b := 6) ((((gI_sI_ne (by decide)).trans ((gI_sW).trans ((gI_sW).trans ((gI_sW).trans ((gI_sI_ne (by decide)).trans ((gI_sI_ne (by decide)).trans ((gI_sI_ne (by decide)).trans (gI_sI_ne (by decide))))))))).trans e1851))).trans (HI.eqI hI0 (p := 116) (b := 6) (hv1622)).symm, (HI.eqI hI1914 (p := 116) (b := 9) ((((gI_sI_ne (by decide)).trans ((gI_sW).trans ((gI_sW).trans ((gI_sW).trans ((gI_sI_ne (by decide)).trans ((gI_sI_ne (by decide)).trans ((gI_sI_ne (by decide)).trans (gI_sI_ne (by decide))))))))).trans e1852))).trans (HI.eqI hI0 (p := 116) (b := 9) (hv1623)).symm⟩), (fun h => False.elim (by omega))⟩, (by intro i i0 i1; refine Eq.trans ?_ (if_pos (show a1.toInt = 0 from (by first | exact e | omega))).symm; refine (eA_ti (((gA_sI).trans ((gA_sA_ne (by decide)).trans ((gA_sW_ne (by decide)).trans ((gA_sW_ne (by decide)).trans ((gA_sI).trans ((gA_sI).trans ((gA_sI).trans (gA_sI)))))))))).trans ?_; refine ((q1859 (i) (by first | exact i0 | omega) (by first | exact i1 | omega))).trans ?_; (first | with_reducible rfl | omega | exact eA_ix (by omega) | rfl)), (by intro i i0 i1; refine Eq.trans ?_ (if_pos (show a1.toInt = 0 from (by first | exact e | omega))).symm; refine (eA_ti (((gA_sI).trans ((gA_sA_ne (by decide)).trans ((gA_sW_ne (by decide)).trans ((gA_sW_ne (by decide)).trans ((gA_sI).trans ((gA_sI).trans ((gA_sI).trans (gA_sI)))))))))).trans ?_; refine ((q1860 (i) (by first | exact i0 | omega) (by first | exact i1 | omega))).trans ?_; (first | with_reducible rfl | omega | exact eA_ix (by omega) | rfl)), (by intro i i0 i1; refine Eq.trans ?_ (if_pos (show a1.toInt = 0 from (by first | exact e | omega))).symm; refine (eA_ti (((gA_sI).trans ((gA_sA_ne (by decide)).trans ((gA_sW_ne (by decide)).trans ((gA_sW_ne (by decide)).trans ((gA_sI).trans ((gA_sI).trans ((gA_sI).trans (gA_sI)))))))))).trans ?_; refine ((q1861 (i) (by first | exact i0 | omega) (by first | exact i1 | omega))).trans ?_; (first | with_reducible rfl | omega | exact eA_ix (by omega) | rfl)), (by intro i i0 i1; refine Eq.trans ?_ (if_pos (show a1.toInt = 0 from (by first | exact e | omega))).symm; refine (eA_tq (((gA_sI).trans ((gA_sA_ne (by decide)).trans ((gA_sW_ne (by decide)).trans ((gA_cpF hI1900.1 ka_14 ka_72 (by decide) (by decide) (by decide)).trans ((gA_sI).trans ((gA_sI).trans ((gA_sI).trans ((gA_sI).trans (hF1835.2.1 14 (by decide)))))))))))).trans ?_; (first | with_reducible rfl | omega | exact eA_ix (by omega) | rfl)), (by intro i i0 i1; refine Eq.trans ?_ (if_pos (show a1.toInt = 0 from (by first | exact e | omega))).symm; refine (eA_tq (((gA_sI).trans ((gA_sA_ne (by decide)).trans ((gA_cpF hI1905.1 ka_15 ka_73 (by decide) (by decide) (by decide)).trans ((gA_sW_ne (by decide)).trans ((gA_sI).trans ((gA_sI).trans ((gA_sI).trans ((gA_sI).trans (hF1835.2.1 15 (by decide)))))))))))).trans ?_; (first | with_reducible rfl | omega | exact eA_ix (by omega) | rfl)), (by intro i i0 i1; refine Eq.trans ?_ (if_neg (show ¬ (a1.toInt = 1) from (by first | exact (fun h => absurd (e.symm.trans h) (by decide)) | omega))).symm; refine (eA_ti (((gA_sI).trans ((gA_sA_ne (by decide)).trans ((gA_sW_ne (by decide)).trans ((gA_sW_ne (by decide)).trans ((gA_sI).trans ((gA_sI).trans ((gA_sI).trans (gA_sI)))))))))).trans ?_; refine ((q1864 (i) (by first | exact i0 | omega) (by first | exact i1 | omega))).trans ?_; (first | with_reducible rfl | omega | exact eA_ix (by omega) | rfl)), (by intro i i0 i1; refine Eq.trans ?_ (if_neg (show ¬ (a1.toInt = 1) from (by first | exact (fun h => absurd (e.symm.trans h) (by decide)) | omega))).symm; refine (eA_ti (((gA_sI).trans ((gA_sA_ne (by decide)).trans ((gA_sW_ne (by decide)).trans ((gA_sW_ne (by decide)).trans ((gA_sI).trans ((gA_sI).trans ((gA_sI).trans (gA_sI)))))))))).trans ?_; refine ((q1865 (i) (by first | exact i0 | omega) (by first | exact i1 | omega))).trans ?_; (first | with_reducible rfl | omega | exact eA_ix (by omega) | rfl)), (by intro i i0 i1; refine Eq.trans ?_ (if_neg (show ¬ (a1.toInt = 1) from (by first | exact (fun h => absurd (e.symm.trans h) (by decide)) | omega))).symm; refine (eA_ti (((gA_sI).trans ((gA_sA_ne (by decide)).trans ((gA_sW_ne (by decide)).trans ((gA_sW_ne (by decide)).trans ((gA_sI).trans ((gA_sI).trans ((gA_sI).trans (gA_sI)))))))))).trans ?_; refine ((q1866 (i) (by first | exact i0 | omega) (by first | exact i1 | omega))).trans ?_; (first | with_reducible rfl | omega | exact eA_ix (by omega) | rfl)), (by intro i i0 i1; refine Eq.trans ?_ (if_neg (show ¬ (a1.toInt = 1) from (by first | exact (fun h => absurd (e.symm.trans h) (by decide)) | omega))).symm; refine (eA_ti (((gA_sI).trans ((gA_sA_ne (by decide)).trans ((gA_sW_ne (by decide)).trans ((gA_sW_ne (by decide)).trans ((gA_sI).trans ((gA_sI).trans ((gA_sI).trans (gA_sI)))))))))).trans ?_; refine ((q1867 (i) (by first | exact i0 | omega) (by first | exact i1 | omega))).trans ?_; (first | with_reducible rfl | omega | exact eA_ix (by omega) | rfl)), (by intro i i0 i1; refine Eq.trans ?_ (if_neg (show ¬ (a1.toInt = 1) from (by first | exact (fun h => absurd (e.symm.trans h) (by decide)) | omega))).symm; refine (eA_ti (((gA_sI).trans ((gA_sA_ne (by decide)).trans ((gA_sW_ne (by decide)).trans ((gA_sW_ne (by decide)).trans ((gA_sI).trans ((gA_sI).trans ((gA_sI).trans (gA_sI)))))))))).trans ?_; refine ((q1868 (i) (by first | exact i0 | omega) (by first | exact i1 | omega))).trans ?_; (first | with_reducible rfl | omega | exact eA_ix (by omega) | rfl)), (by intro i i0 i1; refine Eq.trans ?_ (if_pos (show a1.toInt = 0 from (by first | exact e | omega))).symm; refine (eA_ti (((gA_sI).trans ((gA_sA_ne (by decide)).trans ((gA_sW_ne (by decide)).trans ((gA_sW_ne (by decide)).trans ((gA_sI).trans ((gA_sI).trans ((gA_sI).trans (gA_sI)))))))))).trans ?_; refine ((q1869 (i) (by first | exact i0 | omega) (by first | exact i1 | omega))).trans ?_; (first | with_reducible rfl | omega | exact eA_ix (by omega) | rfl)), (by intro i i0 i1; refine Eq.trans ?_ (if_neg (show ¬ (a1.toInt = 1) from (by first | exact (fun h => absurd (e.symm.trans h) (by decide)) | omega))).symm; refine (eA_ti (((gA_sI).trans ((gA_sA_ne (by decide)).trans ((gA_sW_ne (by decide)).trans ((gA_sW_ne (by decide)).trans ((gA_sI).trans ((gA_sI).trans ((gA_sI).trans (gA_sI)))))))))).trans ?_; refine ((q1870 (i) (by first | exact i0 | omega) (by first | exact i1 | omega))).trans ?_; (first | with_reducible rfl | omega | exact eA_ix (by omega) | rfl))⟩, (SU.mk (by omega))⟩⟩
        · have c1889_ : x1832.toInt < 6 := en_i_ge_f c1889
          refine At.enter rfl ?_
          refine r_aload_n e1855 ?_
          refine r_iload_n e1857 ?_
          refine r_callV 97 rfl [.ref 59, .int x1832] [] (Nat.le_of_ble_eq_true rfl) rfl (T_X0_lawAt_59 _ hI1834 x1832) ?_
          rintro _ _ ⟨g1920, rfl, hI1921, hF1922, v1923, rfl, hr1924⟩
          refine At.str ?_
          have hF1925 := Fr.tr hF1835 hF1922 rfl rfl
          refine At.enter rfl ?_
          refine r_aload_n e1856 ?_
          refine r_iload_n e1857 ?_
          refine r_callV 102 rfl [.ref 1, .int x1832] [.ref (v1923)] (Nat.le_of_ble_eq_true rfl) rfl (T_X0_lawAt_1 _ hI1921 x1832) ?_
          rintro _ _ ⟨g1926, rfl, hI1927, hF1928, v1929, rfl, hr1930⟩
          refine At.str ?_
          have hF1931 := Fr.tr hF1925 hF1928 rfl rfl
          refine At.enter rfl ?_
          refine r_callV 105 rfl [.ref (v1923), .ref (v1929)] [] (Nat.le_of_ble_eq_true rfl) rfl (T_X4_become_law _ hI1927 (v1923) hr1924 (v1929) hr1930) ?_
          rintro _ _ ⟨g1932, rfl, hI1933, hF1934, rfl⟩
          refine At.stn ?_
          have hF1937 := Fr.tr hF1931 hF1934 rfl rfl
          refine At.enter rfl ?_
          refine q_iinc e1857 (x1832.toInt + 1) rfl (by omega) (fun v1938 hv1938 => ?_)
          refine r_goto ?_
          exact ih1838 (6 - v1938.toInt) _ _ ⟨v1938, by first | rfl | omega, hI1933, hF1937, (((hF1934.1 59 0 mf_X4_become_law_59_0).trans ((hF1928.1 59 0 mf_X0_lawAt_1_59_0).trans (hF1922.1 59 0 mf_X0_lawAt_59_59_0))).trans e1839), (((hF1934.1 59 10 mf_X4_become_law_59_10).trans ((hF1928.1 59 10 mf_X0_lawAt_1_59_10).trans (hF1922.1 59 10 mf_X0_lawAt_59_59_10))).trans e1840), (((hF1934.1 59 11 mf_X4_become_law_59_11).trans ((hF1928.1 59 11 mf_X0_lawAt_1_59_11).trans (hF1922.1 59 11 mf_X0_lawAt_59_59_11))).trans e1841), (((hF1934.1 59 12 mf_X4_become_law_59_12).trans ((hF1928.1 59 12 mf_X0_lawAt_1_59_12).trans (hF1922.1 59 12 mf_X0_lawAt_59_59_12))).trans e1842), (((hF1934.1 59 4 mf_X4_become_law_59_4).trans ((hF1928.1 59 4 mf_X0_lawAt_1_59_4).trans (hF1922.1 59 4 mf_X0_lawAt_59_59_4))).trans e1843), (((hF1934.1 59 6 mf_X4_become_law_59_6).trans ((hF1928.1 59 6 mf_X0_lawAt_1_59_6).trans (hF1922.1 59 6 mf_X0_lawAt_59_59_6))).trans e1844), (((hF1934.1 59 9 mf_X4_become_law_59_9).trans ((hF1928.1 59 9 mf_X0_lawAt_1_59_9).trans (hF1922.1 59 9 mf_X0_lawAt_59_59_9))).trans e1845), (((hF1934.1 116 0 mf_X4_become_law_116_0).trans ((hF1928.1 116 0 mf_X0_lawAt_1_116_0).trans (hF1922.1 116 0 mf_X0_lawAt_59_116_0))).trans e1846), (((hF1934.1 116 10 mf_X4_become_law_116_10).trans ((hF1928.1 116 10 mf_X0_lawAt_1_116_10).trans (hF1922.1 116 10 mf_X0_lawAt_59_116_10))).trans e1847), (((hF1934.1 116 11 mf_X4_become_law_116_11).trans ((hF1928.1 116 11 mf_X0_lawAt_1_116_11).trans (hF1922.1 116 11 mf_X0_lawAt_59_116_11))).trans e1848), (((hF1934.1 116 12 mf_X4_become_law_116_12).trans ((hF1928.1 116 12 mf_X0_lawAt_1_116_12).trans (hF1922.1 116 12 mf_X0_lawAt_59_116_12))).trans e1849), (((hF1934.1 116 4 mf_X4_become_law_116_4).trans ((hF1928.1 116 4 mf_X0_lawAt_1_116_4).trans (hF1922.1 116 4 mf_X0_lawAt_59_116_4))).trans e1850), (((hF1934.1 116 6 mf_X4_become_law_116_6).trans ((hF1928.1 116 6 mf_X0_lawAt_1_116_6).trans (hF1922.1 116 6 mf_X0_lawAt_59_116_6))).trans e1851), (((hF1934.1 116 9 mf_X4_become_law_116_9).trans ((hF1928.1 116 9 mf_X0_lawAt_1_116_9).trans (hF1922.1 116 9 mf_X0_lawAt_59_116_9))).trans e1852), (((eA_c (hF1934.2.1 173 ma_X4_become_law_173)).trans ((eA_c (hF1928.2.1 173 ma_X0_lawAt_1_173)).trans (eA_c (hF1922.2.1 173 ma_X0_lawAt_59_173)))).trans e1853), (((eA_c (hF1934.2.1 173 ma_X4_become_law_173)).trans ((eA_c (hF1928.2.1 173 ma_X0_lawAt_1_173)).trans (eA_c (hF1922.2.1 173 ma_X0_lawAt_59_173)))).trans e1854), (w_p1 (by decide) (Or.inr rfl) e1855), (w_p1 (by decide) (Or.inr rfl) e1856), (w_e1 _ _ _), by omega, (by intro i i0 i1; refine (eA_ti (((hF1934.2.1 60 ma_X4_become_law_60).trans ((hF1928.2.1 60 ma_X0_lawAt_1_60).trans (hF1922.2.1 60 ma_X0_lawAt_59_60))))).trans ?_; refine ((q1859 (i) (by first | exact i0 | omega) (by first | exact i1 | omega))).trans ?_; (first | with_reducible rfl | omega | exact eA_ix (by omega) | rfl)), (by intro i i0 i1; refine (eA_ti (((hF1934.2.1 61 ma_X4_become_law_61).trans ((hF1928.2.1 61 ma_X0_lawAt_1_61).trans (hF1922.2.1 61 ma_X0_lawAt_59_61))))).trans ?_; refine ((q1860 (i) (by first | exact i0 | omega) (by first | exact i1 | omega))).trans ?_; (first | with_reducible rfl | omega | exact eA_ix (by omega) | rfl)), (by intro i i0 i1; refine (eA_ti (((hF1934.2.1 62 ma_X4_become_law_62).trans ((hF1928.2.1 62 ma_X0_lawAt_1_62).trans (hF1922.2.1 62 ma_X0_lawAt_59_62))))).trans ?_; refine ((q1861 (i) (by first | exact i0 | omega) (by first | exact i1 | omega))).trans ?_; (first | with_reducible rfl | omega | exact eA_ix (by omega) | rfl)), (by intro i i0 i1; refine (eA_ti (((hF1934.2.1 72 ma_X4_become_law_72).trans ((hF1928.2.1 72 ma_X0_lawAt_1_72).trans (hF1922.2.1 72 ma_X0_lawAt_59_72))))).trans ?_; refine ((q1862 (i) (by first | exact i0 | omega) (by first | exact i1 | omega))).trans ?_; (first | with_reducible rfl | omega | exact eA_ix (by omega) | rfl)), (by intro i i0 i1; refine (eA_ti (((hF1934.2.1 73 ma_X4_become_law_73).trans ((hF1928.2.1 73 ma_X0_lawAt_1_73).trans (hF1922.2.1 73 ma_X0_lawAt_59_73))))).trans ?_; refine ((q1863 (i) (by first | exact i0 | omega) (by first | exact i1 | omega))).trans ?_; (first | with_reducible rfl | omega | exact eA_ix (by omega) | rfl)), (by intro i i0 i1; refine (eA_ti (((hF1934.2.1 117 ma_X4_become_law_117).trans ((hF1928.2.1 117 ma_X0_lawAt_1_117).trans (hF1922.2.1 117 ma_X0_lawAt_59_117))))).trans ?_; refine ((q1864 (i) (by first | exact i0 | omega) (by first | exact i1 | omega))).trans ?_; (first | with_reducible rfl | omega | exact eA_ix (by omega) | rfl)), (by intro i i0 i1; refine (eA_ti (((hF1934.2.1 118 ma_X4_become_law_118).trans ((hF1928.2.1 118 ma_X0_lawAt_1_118).trans (hF1922.2.1 118 ma_X0_lawAt_59_118))))).trans ?_; refine ((q1865 (i) (by first | exact i0 | omega) (by first | exact i1 | omega))).trans ?_; (first | with_reducible rfl | omega | exact eA_ix (by omega) | rfl)), (by intro i i0 i1; refine (eA_ti (((hF1934.2.1 119 ma_X4_become_law_119).trans ((hF1928.2.1 119 ma_X0_lawAt_1_119).trans (hF1922.2.1 119 ma_X0_lawAt_59_119))))).trans ?_; refine ((q1866 (i) (by first | exact i0 | omega) (by first | exact i1 | omega))).trans ?_; (first | with_reducible rfl | omega | exact eA_ix (by omega) | rfl)), (by intro i i0 i1; refine (eA_ti (((hF1934.2.1 129 ma_X4_become_law_129).trans ((hF1928.2.1 129 ma_X0_lawAt_1_129).trans (hF1922.2.1 129 ma_X0_lawAt_59_129))))).trans ?_; refine ((q1867 (i) (by first | exact i0 | omega) (by first | exact i1 | omega))).trans ?_; (first | with_reducible rfl | omega | exact eA_ix (by omega) | rfl)), (by intro i i0 i1; refine (eA_ti (((hF1934.2.1 130 ma_X4_become_law_130).trans ((hF1928.2.1 130 ma_X0_lawAt_1_130).trans (hF1922.2.1 130 ma_X0_lawAt_59_130))))).trans ?_; refine ((q1868 (i) (by first | exact i0 | omega) (by first | exact i1 | omega))).trans ?_; (first | with_reducible rfl | omega | exact eA_ix (by omega) | rfl)), (by intro i i0 i1; refine (eA_ti (((hF1934.2.1 63 ma_X4_become_law_63).trans ((hF1928.2.1 63 ma_X0_lawAt_1_63).trans (hF1922.2.1 63 ma_X0_lawAt_59_63))))).trans ?_; refine ((q1869 (i) (by first | exact i0 | omega) (by first | exact i1 | omega))).trans ?_; (first | with_reducible rfl | omega | exact eA_ix (by omega) | rfl)), (by intro i i0 i1; refine (eA_ti (((hF1934.2.1 120 ma_X4_become_law_120).trans ((hF1928.2.1 120 ma_X0_lawAt_1_120).trans (hF1922.2.1 120 ma_X0_lawAt_59_120))))).trans ?_; refine ((q1870 (i) (by first | exact i0 | omega) (by first | exact i1 | omega))).trans ?_; (first | with_reducible rfl | omega | exact eA_ix (by omega) | rfl))⟩ ⟨by omega, by omega⟩
      have c1583_1 : a1.toInt = 1 := by omega
      refine q_aald (Sh.rar hI0.1 ka_58) (by decide) 1 (by omega) (by decide) (some 116) rfl ?_
      refine r_goto ?_
      refine At.enter rfl ?_
      refine q_aret ?_
      refine At.enter rfl ?_
      refine r_astore_n ([(2, .ref 116), (0, .ref 0), (1, .int a1)]) rfl ?_
      refine r_aload_n rfl ?_
      refine r_nnr ?_
      refine At.enter rfl ?_
      refine r_aload_n rfl ?_
      refine r_aload_n rfl ?_
      refine q_getR (Sh.ref hI0.1 kx_0 rfl) ?_
      refine q_inlV 24 rfl [.ref 116, .ref 1] [] (Nat.le_of_ble_eq_true rfl) rfl ?_
      refine Ev.mk rfl rfl ⟨Nat.le_of_ble_eq_true rfl, Or.inr (q_rc hI0.1 kx_116 rfl)⟩ ?_
      show At _ none _ _ (0, [(0, .ref 116), (1, .ref 1)], [], (_, _)) _
      refine At.enter rfl ?_
      refine r_aload_n rfl ?_
      refine r_aload_n rfl ?_
      obtain ⟨v1939, hv1939⟩ : ∃ v, gI g0 1 0 = v := ⟨_, rfl⟩
      have rv1939 := RgF.at hI0.2.1 (p := 1) (b := 0) rfl
      rw [hv1939] at rv1939
      dsimp only at rv1939
      refine q_getI (Sh.int hI0.1 kx_1 rfl) v1939 hv1939 ?_
      refine q_putI (Sh.int hI0.1 kx_116 rfl) rfl ?_
      have hI1940 := HI.wI1 hI0 kx_116 rfl (p := 116) (b := 0) (v := v1939) rfl (by dsimp only; omega)
      have hF1941 := Fr.wI (p := 116) (b := 0) (v := v1939) hF0 rfl
      refine r_aload_n rfl ?_
      refine q_getR (Sh.ref hI1940.1 kx_1 rfl) ?_
      refine r_iconst 0 rfl ?_
      refine r_aload_n rfl ?_
      refine q_getR (Sh.ref hI1940.1 kx_116 rfl) ?_
      refine r_iconst 0 rfl ?_
      refine r_bipush 12 rfl ?_
      have zv1942 : (0 : Int32).toInt = 0 := rfl
      have zv1943 : (0 : Int32).toInt = 0 := rfl
      have zv1944 : (12 : Int32).toInt = 12 := rfl
      refine q_cpy rfl (Nat.le_of_ble_eq_true rfl) (Sh.arr hI1940.1 ka_2) (Sh.arr hI1940.1 ka_117) ⟨by omega, by omega, by omega, by omega, by omega⟩ ?_
      have hI1945 := HI.cpy0 hI1940 ka_2 ka_117 rfl rfl ((0 : Int32).toInt.toNat) ((0 : Int32).toInt.toNat) ((12 : Int32).toInt.toNat) (by omega) (by omega)
      have hF1946 := Fr.cpy (p0 := 2) (p1 := 117) hF1941 rfl ((0 : Int32).toInt.toNat) ((0 : Int32).toInt.toNat) ((12 : Int32).toInt.toNat)
      refine r_aload_n rfl ?_
      refine q_getR (Sh.ref hI1945.1 kx_1 rfl) ?_
      refine r_iconst 0 rfl ?_
      refine r_aload_n rfl ?_
      refine q_getR (Sh.ref hI1945.1 kx_116 rfl) ?_
      refine r_iconst 0 rfl ?_
      refine r_bipush 12 rfl ?_
      have zv1947 : (0 : Int32).toInt = 0 := rfl
      have zv1948 : (0 : Int32).toInt = 0 := rfl
      have zv1949 : (12 : Int32).toInt = 12 := rfl
      refine q_cpy rfl (Nat.le_of_ble_eq_true rfl) (Sh.arr hI1945.1 ka_3) (Sh.arr hI1945.1 ka_118) ⟨by omega, by omega, by omega, by omega, by omega⟩ ?_
      have hI1950 := HI.cpy0 hI1945 ka_3 ka_118 rfl rfl ((0 : Int32).toInt.toNat) ((0 : Int32).toInt.toNat) ((12 : Int32).toInt.toNat) (by omega) (by omega)
      have hF1951 := Fr.cpy (p0 := 3) (p1 := 118) hF1946 rfl ((0 : Int32).toInt.toNat) ((0 : Int32).toInt.toNat) ((12 : Int32).toInt.toNat)
      refine r_aload_n rfl ?_
      refine q_getR (Sh.ref hI1950.1 kx_1 rfl) ?_
      refine r_iconst 0 rfl ?_
      refine r_aload_n rfl ?_
      refine q_getR (Sh.ref hI1950.1 kx_116 rfl) ?_
      refine r_iconst 0 rfl ?_
      refine r_bipush 12 rfl ?_
      have zv1952 : (0 : Int32).toInt = 0 := rfl
      have zv1953 : (0 : Int32).toInt = 0 := rfl
      have zv1954 : (12 : Int32).toInt = 12 := rfl
      refine q_cpy rfl (Nat.le_of_ble_eq_true rfl) (Sh.arr hI1950.1 ka_4) (Sh.arr hI1950.1 ka_119) ⟨by omega, by omega, by omega, by omega, by omega⟩ ?_
      have hI1955 := HI.cpy0 hI1950 ka_4 ka_119 rfl rfl ((0 : Int32).toInt.toNat) ((0 : Int32).toInt.toNat) ((12 : Int32).toInt.toNat) (by omega) (by omega)
      have hF1956 := Fr.cpy (p0 := 4) (p1 := 119) hF1951 rfl ((0 : Int32).toInt.toNat) ((0 : Int32).toInt.toNat) ((12 : Int32).toInt.toNat)
      refine r_aload_n rfl ?_
      refine r_aload_n rfl ?_
      obtain ⟨v1957, hv1957⟩ : ∃ v, gI g0 1 4 = v := ⟨_, rfl⟩
      have rv1957 := RgF.at hI0.2.1 (p := 1) (b := 4) rfl
      rw [hv1957] at rv1957
      dsimp only at rv1957
      refine q_getI (Sh.int hI1955.1 kx_1 rfl) v1957 (((gI_sW).trans ((gI_sW).trans ((gI_sW).trans (gI_sI_ne (by decide))))).trans hv1957) ?_
      refine q_putI (Sh.int hI1955.1 kx_116 rfl) rfl ?_
      have hI1958 := HI.wI1 hI1955 kx_116 rfl (p := 116) (b := 4) (v := v1957) rfl (by dsimp only; omega)
      have hF1959 := Fr.wI (p := 116) (b := 4) (v := v1957) hF1956 rfl
      refine r_aload_n rfl ?_
      refine q_getR (Sh.ref hI1958.1 kx_1 rfl) ?_
      refine r_iconst 0 rfl ?_
      refine r_aload_n rfl ?_
      refine q_getR (Sh.ref hI1958.1 kx_116 rfl) ?_
      refine r_iconst 0 rfl ?_
      refine r_bipush 48 rfl ?_
      have zv1960 : (0 : Int32).toInt = 0 := rfl
      have zv1961 : (0 : Int32).toInt = 0 := rfl
      have zv1962 : (48 : Int32).toInt = 48 := rfl
      refine q_cpy rfl (Nat.le_of_ble_eq_true rfl) (Sh.arr hI1958.1 ka_5) (Sh.arr hI1958.1 ka_120) ⟨by omega, by omega, by omega, by omega, by omega⟩ ?_
      have hI1963 := HI.cpy0 hI1958 ka_5 ka_120 rfl rfl ((0 : Int32).toInt.toNat) ((0 : Int32).toInt.toNat) ((48 : Int32).toInt.toNat) (by omega) (by omega)
      have hF1964 := Fr.cpy (p0 := 5) (p1 := 120) hF1959 rfl ((0 : Int32).toInt.toNat) ((0 : Int32).toInt.toNat) ((48 : Int32).toInt.toNat)
      refine r_aload_n rfl ?_
      refine r_aload_n rfl ?_
      obtain ⟨v1965, hv1965⟩ : ∃ v, gI g0 1 6 = v := ⟨_, rfl⟩
      have rv1965 := RgF.at hI0.2.1 (p := 1) (b := 6) rfl
      rw [hv1965] at rv1965
      dsimp only at rv1965
      refine q_getI (Sh.int hI1963.1 kx_1 rfl) v1965 (((gI_sW).trans ((gI_sI_ne (by decide)).trans ((gI_sW).trans ((gI_sW).trans ((gI_sW).trans (gI_sI_ne (by decide))))))).trans hv1965) ?_
      refine q_putI (Sh.int hI1963.1 kx_116 rfl) rfl ?_
      have hI1966 := HI.wI1 hI1963 kx_116 rfl (p := 116) (b := 6) (v := v1965) rfl (by dsimp only; omega)
      have hF1967 := Fr.wI (p := 116) (b := 6) (v := v1965) hF1964 rfl
      refine r_iconst 0 rfl ?_
      refine r_istore_n ([(2, .int 0), (0, .ref 116), (1, .ref 1)]) rfl ?_
      refine Ar.fall 86 rfl ?_
      obtain ⟨v1968, hv1968⟩ : ∃ v, gI g0 59 0 = v := ⟨_, rfl⟩
      have rv1968 := RgF.at hI0.2.1 (p := 59) (b := 0) rfl
      rw [hv1968] at rv1968
      dsimp only at rv1968
      have tv1968 := congrArg Int32.toInt hv1968
      obtain ⟨v1969, hv1969⟩ : ∃ v, gI g0 59 10 = v := ⟨_, rfl⟩
      have tv1969 := congrArg Int32.toInt hv1969
      obtain ⟨v1970, hv1970⟩ : ∃ v, gI g0 59 11 = v := ⟨_, rfl⟩
      have tv1970 := congrArg Int32.toInt hv1970
      obtain ⟨v1971, hv1971⟩ : ∃ v, gI g0 59 12 = v := ⟨_, rfl⟩
      have rv1971 := RgF.at hI0.2.1 (p := 59) (b := 12) rfl
      rw [hv1971] at rv1971
      dsimp only at rv1971
      have tv1971 := congrArg Int32.toInt hv1971
      obtain ⟨v1972, hv1972⟩ : ∃ v, gI g0 59 4 = v := ⟨_, rfl⟩
      have rv1972 := RgF.at hI0.2.1 (p := 59) (b := 4) rfl
      rw [hv1972] at rv1972
      dsimp only at rv1972
      have tv1972 := congrArg Int32.toInt hv1972
      obtain ⟨v1973, hv1973⟩ : ∃ v, gI g0 59 6 = v := ⟨_, rfl⟩
      have rv1973 := RgF.at hI0.2.1 (p := 59) (b := 6) rfl
      rw [hv1973] at rv1973
      dsimp only at rv1973
      have tv1973 := congrArg Int32.toInt hv1973
      obtain ⟨v1974, hv1974⟩ : ∃ v, gI g0 59 9 = v := ⟨_, rfl⟩
      have tv1974 := congrArg Int32.toInt hv1974
      obtain ⟨v1975, hv1975⟩ : ∃ v, gI g0 116 10 = v := ⟨_, rfl⟩
      have tv1975 := congrArg Int32.toInt hv1975
      obtain ⟨v1976, hv1976⟩ : ∃ v, gI g0 116 11 = v := ⟨_, rfl⟩
      have tv1976 := congrArg Int32.toInt hv1976
      obtain ⟨v1977, hv1977⟩ : ∃ v, gI g0 116 12 = v := ⟨_, rfl⟩
      have rv1977 := RgF.at hI0.2.1 (p := 116) (b := 12) rfl
      rw [hv1977] at rv1977
      dsimp only at rv1977
      have tv1977 := congrArg Int32.toInt hv1977
      obtain ⟨v1978, hv1978⟩ : ∃ v, gI g0 116 9 = v := ⟨_, rfl⟩
      have tv1978 := congrArg Int32.toInt hv1978
      obtain ⟨v1979, hv1979⟩ : ∃ v, eA g0 173 0 = v := ⟨_, rfl⟩
      have tv1979 := congrArg Int32.toInt hv1979
      obtain ⟨v1980, hv1980⟩ : ∃ v, eA g0 173 1 = v := ⟨_, rfl⟩
      have tv1980 := congrArg Int32.toInt hv1980
      have z_2226 : (0 : Int32).toInt = 0 := rfl
      refine w_loopI (fun n_ l_ g_ => ∃ x2187 : Int32, n_ = 6 - x2187.toInt ∧ HI g_ ∧ Fr F_X10_image_0 A_X10_image_0 g0 g_ ∧ gI g_ 59 0 = v1968 ∧ gI g_ 59 10 = v1969 ∧ gI g_ 59 11 = v1970 ∧ gI g_ 59 12 = v1971 ∧ gI g_ 59 4 = v1972 ∧ gI g_ 59 6 = v1973 ∧ gI g_ 59 9 = v1974 ∧ gI g_ 116 0 = v1939 ∧ gI g_ 116 10 = v1975 ∧ gI g_ 116 11 = v1976 ∧ gI g_ 116 12 = v1977 ∧ gI g_ 116 4 = v1957 ∧ gI g_ 116 6 = v1965 ∧ gI g_ 116 9 = v1978 ∧ eA g_ 173 0 = v1979 ∧ eA g_ 173 1 = v1980 ∧ en_get 0 l_ = some (.ref 116) ∧ en_get 1 l_ = some (.ref 1) ∧ en_get 2 l_ = some (.int x2187) ∧ (0 ≤ x2187.toInt ∧ x2187.toInt ≤ 6) ∧ (∀ i : Int, 0 ≤ i → i < 12 → (eA g_ 60 (i)).toInt = (eA g0 60 (i)).toInt) ∧ (∀ i : Int, 0 ≤ i → i < 12 → (eA g_ 61 (i)).toInt = (eA g0 61 (i)).toInt) ∧ (∀ i : Int, 0 ≤ i → i < 12 → (eA g_ 62 (i)).toInt = (eA g0 62 (i)).toInt) ∧ (∀ i : Int, 0 ≤ i → i < 8 → (eA g_ 72 (i)).toInt = (eA g0 72 (i)).toInt) ∧ (∀ i : Int, 0 ≤ i → i < 8 → (eA g_ 73 (i)).toInt = (eA g0 73 (i)).toInt) ∧ (∀ i : Int, 0 ≤ i → i < 12 → (eA g_ 117 (i)).toInt = (eA g0 2 (i)).toInt) ∧ (∀ i : Int, 0 ≤ i → i < 12 → (eA g_ 118 (i)).toInt = (eA g0 3 (i)).toInt) ∧ (∀ i : Int, 0 ≤ i → i < 12 → (eA g_ 119 (i)).toInt = (eA g0 4 (i)).toInt) ∧ (∀ i : Int, 0 ≤ i → i < 8 → (eA g_ 129 (i)).toInt = (eA g0 129 (i)).toInt) ∧ (∀ i : Int, 0 ≤ i → i < 8 → (eA g_ 130 (i)).toInt = (eA g0 130 (i)).toInt) ∧ (∀ i : Int, 0 ≤ i → i < 48 → (eA g_ 63 (i)).toInt = (eA g0 63 (i)).toInt) ∧ (∀ i : Int, 0 ≤ i → i < 48 → (eA g_ 120 (i)).toInt = (eA g0 5 (i)).toInt)) ?_ (6 - 0) ⟨0, by first | rfl | omega, hI1966, hF1967, (((gI_sI_ne (by decide)).trans ((gI_sW).trans ((gI_sI_ne (by decide)).trans ((gI_sW).trans ((gI_sW).trans ((gI_sW).trans (gI_sI_ne (by decide)))))))).trans hv1968), (((gI_sI_ne (by decide)).trans ((gI_sW).trans ((gI_sI_ne (by decide)).trans ((gI_sW).trans ((gI_sW).trans ((gI_sW).trans (gI_sI_ne (by decide)))))))).trans hv1969), (((gI_sI_ne (by decide)).trans ((gI_sW).trans ((gI_sI_ne (by decide)).trans ((gI_sW).trans ((gI_sW).trans ((gI_sW).trans (gI_sI_ne (by decide)))))))).trans hv1970), (((gI_sI_ne (by decide)).trans ((gI_sW).trans ((gI_sI_ne (by decide)).trans ((gI_sW).trans ((gI_sW).trans ((gI_sW).trans (gI_sI_ne (by decide)))))))).trans hv1971), (((gI_sI_ne (by decide)).trans ((gI_sW).trans ((gI_sI_ne (by decide)).trans ((gI_sW).trans ((gI_sW).trans ((gI_sW).trans (gI_sI_ne (by decide)))))))).trans hv1972), (((gI_sI_ne (by decide)).trans ((gI_sW).trans ((gI_sI_ne (by decide)).trans ((gI_sW).trans ((gI_sW).trans ((gI_sW).trans (gI_sI_ne (by decide)))))))).trans hv1973), (((gI_sI_ne (by decide)).trans ((gI_sW).trans ((gI_sI_ne (by decide)).trans ((gI_sW).trans ((gI_sW).trans ((gI_sW).trans (gI_sI_ne (by decide)))))))).trans hv1974), ((gI_sI_ne (by decide)).trans ((gI_sW).trans ((gI_sI_ne (by decide)).trans ((gI_sW).trans ((gI_sW).trans ((gI_sW).trans (gI_sI_eq hI0.1 kx_116 rfl _))))))), (((gI_sI_ne (by decide)).trans ((gI_sW).trans ((gI_sI_ne (by decide)).trans ((gI_sW).trans ((gI_sW).trans ((gI_sW).trans (gI_sI_ne (by decide)))))))).trans hv1975), (((gI_sI_ne (by decide)).trans ((gI_sW).trans ((gI_sI_ne (by decide)).trans ((gI_sW).trans ((gI_sW).trans ((gI_sW).trans (gI_sI_ne (by decide)))))))).trans hv1976), (((gI_sI_ne (by decide)).trans ((gI_sW).trans ((gI_sI_ne (by decide)).trans ((gI_sW).trans ((gI_sW).trans ((gI_sW).trans (gI_sI_ne (by decide)))))))).trans hv1977), ((gI_sI_ne (by decide)).trans ((gI_sW).trans (gI_sI_eq hI1955.1 kx_116 rfl _))), (gI_sI_eq hI1963.1 kx_116 rfl _), (((gI_sI_ne (by decide)).trans ((gI_sW).trans ((gI_sI_ne (by decide)).trans ((gI_sW).trans ((gI_sW).trans ((gI_sW).trans (gI_sI_ne (by decide)))))))).trans hv1978), (((eA_c gA_sI).trans ((eA_c (gA_sW_ne (by decide))).trans ((eA_c gA_sI).trans ((eA_c (gA_sW_ne (by decide))).trans ((eA_c (gA_sW_ne (by decide))).trans ((eA_c (gA_sW_ne (by decide))).trans (eA_c gA_sI))))))).trans hv1979), (((eA_c gA_sI).trans ((eA_c (gA_sW_ne (by decide))).trans ((eA_c gA_sI).trans ((eA_c (gA_sW_ne (by decide))).trans ((eA_c (gA_sW_ne (by decide))).trans ((eA_c (gA_sW_ne (by decide))).trans (eA_c gA_sI))))))).trans hv1980), rfl, rfl, rfl, by decide, (by intro i i0 i1; refine (eA_ti (((gA_sI).trans ((gA_sW_ne (by decide)).trans ((gA_sI).trans ((gA_sW_ne (by decide)).trans ((gA_sW_ne (by decide)).trans ((gA_sW_ne (by decide)).trans (gA_sI))))))))).trans ?_; (first | with_reducible rfl | omega | exact eA_ix (by omega) | rfl)), (by intro i i0 i1; refine (eA_ti (((gA_sI).trans ((gA_sW_ne (by decide)).trans ((gA_sI).trans ((gA_sW_ne (by decide)).trans ((gA_sW_ne (by decide)).trans ((gA_sW_ne (by decide)).trans (gA_sI))))))))).trans ?_; (first | with_reducible rfl | omega | exact eA_ix (by omega) | rfl)), (by intro i i0 i1; refine (eA_ti (((gA_sI).trans ((gA_sW_ne (by decide)).trans ((gA_sI).trans ((gA_sW_ne (by decide)).trans ((gA_sW_ne (by decide)).trans ((gA_sW_ne (by decide)).trans (gA_sI))))))))).trans ?_; (first | with_reducible rfl | omega | exact eA_ix (by omega) | rfl)), (by intro i i0 i1; refine (eA_ti (((gA_sI).trans ((gA_sW_ne (by decide)).trans ((gA_sI).trans ((gA_sW_ne (by decide)).trans ((gA_sW_ne (by decide)).trans ((gA_sW_ne (by decide)).trans (gA_sI))))))))).trans ?_; (first | with_reducible rfl | omega | exact eA_ix (by omega) | rfl)), (by intro i i0 i1; refine (eA_ti (((gA_sI).trans ((gA_sW_ne (by decide)).trans ((gA_sI).trans ((gA_sW_ne (by decide)).trans ((gA_sW_ne (by decide)).trans ((gA_sW_ne (by decide)).trans (gA_sI))))))))).trans ?_; (first | with_reducible rfl | omega | exact eA_ix (by omega) | rfl)), (by intro i i0 i1; refine (eA_tq (((gA_sI).trans ((gA_sW_ne (by decide)).trans ((gA_sI).trans ((gA_sW_ne (by decide)).trans ((gA_sW_ne (by decide)).trans ((gA_cpF hI1940.1 ka_2 ka_117 (by decide) (by decide) (by decide)).trans (gA_sI))))))))).trans ?_; (first | with_reducible rfl | omega | exact eA_ix (by omega) | rfl)), (by intro i i0 i1; refine (eA_tq (((gA_sI).trans ((gA_sW_ne (by decide)).trans ((gA_sI).trans ((gA_sW_ne (by decide)).trans ((gA_cpF hI1945.1 ka_3 ka_118 (by decide) (by decide) (by decide)).trans ((gA_sW_ne (by decide)).trans (gA_sI))))))))).trans ?_; (first | with_reducible rfl | omega | exact eA_ix (by omega) | rfl)), (by intro i i0 i1; refine (eA_tq (((gA_sI).trans ((gA_sW_ne (by decide)).trans ((gA_sI).trans ((gA_cpF hI1950.1 ka_4 ka_119 (by decide) (by decide) (by decide)).trans ((gA_sW_ne (by decide)).trans ((gA_sW_ne (by decide)).trans (gA_sI))))))))).trans ?_; (first | with_reducible rfl | omega | exact eA_ix (by omega) | rfl)), (by intro i i0 i1; refine (eA_ti (((gA_sI).trans ((gA_sW_ne (by decide)).trans ((gA_sI).trans ((gA_sW_ne (by decide)).trans ((gA_sW_ne (by decide)).trans ((gA_sW_ne (by decide)).trans (gA_sI))))))))).trans ?_; (first | with_reducible rfl | omega | exact eA_ix (by omega) | rfl)), (by intro i i0 i1; refine (eA_ti (((gA_sI).trans ((gA_sW_ne (by decide)).trans ((gA_sI).trans ((gA_sW_ne (by decide)).trans ((gA_sW_ne (by decide)).trans ((gA_sW_ne (by decide)).trans (gA_sI))))))))).trans ?_; (first | with_reducible rfl | omega | exact eA_ix (by omega) | rfl)), (by intro i i0 i1; refine (eA_ti (((gA_sI).trans ((gA_sW_ne (by decide)).trans ((gA_sI).trans ((gA_sW_ne (by decide)).trans ((gA_sW_ne (by decide)).trans ((gA_sW_ne (by decide)).trans (gA_sI))))))))).trans ?_; (first | with_reducible rfl | omega | exact eA_ix (by omega) | rfl)), (by intro i i0 i1; refine (eA_tq (((gA_sI).trans ((gA_cpF hI1958.1 ka_5 ka_120 (by decide) (by decide) (by decide)).trans ((gA_sI).trans ((gA_sW_ne (by decide)).trans ((gA_sW_ne (by decide)).trans ((gA_sW_ne (by decide)).trans (gA_sI))))))))).trans ?_; (first | with_reducible rfl | omega | exact eA_ix (by omega) | rfl))⟩
      rintro n2192 l2191 g2188 ⟨x2187, hm2227, hI2189, hF2190, e2194, e2195, e2196, e2197, e2198, e2199, e2200, e2201, e2202, e2203, e2204, e2205, e2206, e2207, e2208, e2209, e2210, e2211, e2212, r2213, q2214, q2215, q2216, q2217, q2218, q2219, q2220, q2221, q2222, q2223, q2224, q2225⟩ ih2193
      have tv2228 := congrArg Int32.toInt e2208
      have tv2229 := congrArg Int32.toInt e2209
      have tv2230 := congrArg Int32.toInt e2194
      have tv2231 := congrArg Int32.toInt e2195
      have tv2232 := congrArg Int32.toInt e2196
      have tv2233 := congrArg Int32.toInt e2197
      have tv2234 := congrArg Int32.toInt e2198
      have tv2235 := congrArg Int32.toInt e2199
      have tv2236 := congrArg Int32.toInt e2200
      have tv2237 := congrArg Int32.toInt e2201
      have tv2238 := congrArg Int32.toInt e2202
      have tv2239 := congrArg Int32.toInt e2203
      have tv2240 := congrArg Int32.toInt e2204
      have tv2241 := congrArg Int32.toInt e2205
      have tv2242 := congrArg Int32.toInt e2206
      have tv2243 := congrArg Int32.toInt e2207
      refine At.enter rfl ?_
      refine r_iload_n e2212 ?_
      refine r_bipush 6 rfl ?_
      refine r_ics 92 rfl (fun c2244 => ?_) (fun c2244 => ?_)
      · have c2244_ : x2187.toInt ≥ 6 := en_i_ge_t c2244
        refine At.enter rfl ?_
        refine r_aload_n e2210 ?_
        refine r_aload_n e2211 ?_
        obtain ⟨v2245, hv2245⟩ : ∃ v, gI g0 1 9 = v := ⟨_, rfl⟩
        refine q_getI (Sh.int hI2189.1 kx_1 rfl) v2245 ((hF2190.1 1 9 (by decide)).trans hv2245) ?_
        refine q_putI (Sh.int hI2189.1 kx_116 rfl) rfl ?_
        have hI2246 := HI.wI0 hI2189 kx_116 rfl (p := 116) (b := 9) (v := v2245) rfl
        have hF2247 := Fr.wI (p := 116) (b := 9) (v := v2245) hF2190 rfl
        refine r_aload_n e2210 ?_
        refine r_aload_n e2211 ?_
        obtain ⟨v2248, hv2248⟩ : ∃ v, gI g0 1 10 = v := ⟨_, rfl⟩
        refine q_getI (Sh.int hI2246.1 kx_1 rfl) v2248 (((gI_sI_ne (by decide)).trans (hF2190.1 1 10 (by decide))).trans hv2248) ?_
        refine q_putI (Sh.int hI2246.1 kx_116 rfl) rfl ?_
        have hI2249 := HI.wI0 hI2246 kx_116 rfl (p := 116) (b := 10) (v := v2248) rfl
        have hF2250 := Fr.wI (p := 116) (b := 10) (v := v2248) hF2247 rfl
        refine r_aload_n e2210 ?_
        refine r_aload_n e2211 ?_
        obtain ⟨v2251, hv2251⟩ : ∃ v, gI g0 1 11 = v := ⟨_, rfl⟩
        refine q_getI (Sh.int hI2249.1 kx_1 rfl) v2251 (((gI_sI_ne (by decide)).trans ((gI_sI_ne (by decide)).trans (hF2190.1 1 11 (by decide)))).trans hv2251) ?_
        refine q_putI (Sh.int hI2249.1 kx_116 rfl) rfl ?_
        have hI2252 := HI.wI0 hI2249 kx_116 rfl (p := 116) (b := 11) (v := v2251) rfl
        have hF2253 := Fr.wI (p := 116) (b := 11) (v := v2251) hF2250 rfl
        refine r_aload_n e2210 ?_
        refine r_aload_n e2211 ?_
        obtain ⟨v2254, hv2254⟩ : ∃ v, gI g0 1 12 = v := ⟨_, rfl⟩
        have rv2254 := RgF.at hI0.2.1 (p := 1) (b := 12) rfl
        rw [hv2254] at rv2254
        dsimp only at rv2254
        refine q_getI (Sh.int hI2252.1 kx_1 rfl) v2254 (((gI_sI_ne (by decide)).trans ((gI_sI_ne (by decide)).trans ((gI_sI_ne (by decide)).trans (hF2190.1 1 12 (by decide))))).trans hv2254) ?_
        refine q_putI (Sh.int hI2252.1 kx_116 rfl) rfl ?_
        have hI2255 := HI.wI1 hI2252 kx_116 rfl (p := 116) (b := 12) (v := v2254) rfl (by dsimp only; omega)
        have hF2256 := Fr.wI (p := 116) (b := 12) (v := v2254) hF2253 rfl
        refine r_aload_n e2211 ?_
        refine q_getR (Sh.ref hI2255.1 kx_1 rfl) ?_
        refine r_iconst 0 rfl ?_
        refine r_aload_n e2210 ?_
        refine q_getR (Sh.ref hI2255.1 kx_116 rfl) ?_
        refine r_iconst 0 rfl ?_
        refine r_bipush 8 rfl ?_
        have zv2257 : (0 : Int32).toInt = 0 := rfl
        have zv2258 : (0 : Int32).toInt = 0 := rfl
        have zv2259 : (8 : Int32).toInt = 8 := rfl
        refine q_cpy rfl (Nat.le_of_ble_eq_true rfl) (Sh.arr hI2255.1 ka_14) (Sh.arr hI2255.1 ka_129) ⟨by omega, by omega, by omega, by omega, by omega⟩ ?_
        have hI2260 := HI.cpy0 hI2255 ka_14 ka_129 rfl rfl ((0 : Int32).toInt.toNat) ((0 : Int32).toInt.toNat) ((8 : Int32).toInt.toNat) (by omega) (by omega)
        have hF2261 := Fr.cpy (p0 := 14) (p1 := 129) hF2256 rfl ((0 : Int32).toInt.toNat) ((0 : Int32).toInt.toNat) ((8 : Int32).toInt.toNat)
        refine r_aload_n e2211 ?_
        refine q_getR (Sh.ref hI2260.1 kx_1 rfl) ?_
        refine r_iconst 0 rfl ?_
        refine r_aload_n e2210 ?_
        refine q_getR (Sh.ref hI2260.1 kx_116 rfl) ?_
        refine r_iconst 0 rfl ?_
        refine r_bipush 8 rfl ?_
        have zv2262 : (0 : Int32).toInt = 0 := rfl
        have zv2263 : (0 : Int32).toInt = 0 := rfl
        have zv2264 : (8 : Int32).toInt = 8 := rfl
        refine q_cpy rfl (Nat.le_of_ble_eq_true rfl) (Sh.arr hI2260.1 ka_15) (Sh.arr hI2260.1 ka_130) ⟨by omega, by omega, by omega, by omega, by omega⟩ ?_
        have hI2265 := HI.cpy0 hI2260 ka_15 ka_130 rfl rfl ((0 : Int32).toInt.toNat) ((0 : Int32).toInt.toNat) ((8 : Int32).toInt.toNat) (by omega) (by omega)
        have hF2266 := Fr.cpy (p0 := 15) (p1 := 130) hF2261 rfl ((0 : Int32).toInt.toNat) ((0 : Int32).toInt.toNat) ((8 : Int32).toInt.toNat)
        refine q_vret ?_
        refine At.enter rfl ?_
        refine r_aload_n rfl ?_
        refine q_getR (Sh.ref hI2265.1 kx_0 rfl) ?_
        refine r_iload_n rfl ?_
        refine r_iconst 1 rfl ?_
        refine q_bast (Sh.arr hI2265.1 ka_173) (a1.toInt) rfl (by omega) rfl ?_
        have hI2267 := HI.wA0 hI2265 ka_173 (p := 173) rfl rfl (a1.toInt) (1)
        have hF2268 := Fr.wA (p := 173) (j := a1.toInt) (v := 1) hF2266 rfl
        refine r_aload_n rfl ?_
        refine r_iconst 0 rfl ?_
        refine q_inlV 36 rfl [.ref 0, .int 0] [] (Nat.le_of_ble_eq_true rfl) rfl ?_
        refine Ev.mk rfl rfl ⟨Nat.le_of_ble_eq_true rfl, Or.inr (q_rc hI2267.1 kx_0 rfl)⟩ ?_
        show At _ none _ _ (0, [(0, .ref 0), (1, .int 0)], [], (_, _)) _
        refine At.enter rfl ?_
        refine r_aload_n rfl ?_
        refine r_iconst 0 rfl ?_
        refine q_putI (Sh.int hI2267.1 kx_0 rfl) rfl ?_
        have hI2269 := HI.wI0 hI2267 kx_0 rfl (p := 0) (b := 17) (v := 0) rfl
        have hF2270 := Fr.wI (p := 0) (b := 17) (v := 0) hF2268 rfl
        refine r_iload_n rfl ?_
        refine q_ireti ?_
        refine At.enter rfl ?_
        refine r_ireti ?_
        have zv2271 : (0 : Int32).toInt = 0 := rfl
        have e : a1.toInt = 1 := by omega
        have zv2272 : (0 : Int32).toInt = 0 := rfl
        have x2273 := HI.eqI hI2269 (p := 0) (b := 17) ((gI_sI_eq hI2267.1 kx_0 rfl _))
        have zv2274 : (0 : Int32).toInt = 0 := rfl
        exact ⟨_, rfl, hI2269, hF2270, _, rfl, by decide, ⟨⟨⟨(fun h => absurd (e.symm.trans h) (by decide)), (fun _ => ⟨(HI.eqA hI2269 (p := 173) (j := 0) ((((eA_c gA_sI).trans ((eA_sA_ne hI2265.1 ka_173 (by first | decide | omega) (by first | decide | omega) (by first | decide | omega)).trans ((eA_c (gA_sW_ne (by decide))).trans ((eA_c (gA_sW_ne (by decide))).trans ((eA_c gA_sI).trans ((eA_c gA_sI).trans ((eA_c gA_sI).trans (eA_c gA_sI)))))))).trans e2208))).trans (HI.eqA hI0 (p := 173) (j := 0) (hv1979)).symm, (HI.eqI hI2269 (p := 59) (b := 0) ((((gI_sI_ne (by decide)).trans ((gI_sW).trans ((gI_sW).trans ((gI_sW).trans ((gI_sI_ne (by decide)).trans ((gI_sI_ne (by decide)).trans ((gI_sI_ne (by decide)).trans (gI_sI_ne (by decide))))))))).trans e2194))).trans (HI.eqI hI0 (p := 59) (b := 0) (hv1968)).symm, (HI.eqI hI2269 (p := 59) (b := 12) ((((gI_sI_ne (by decide)).trans ((gI_sW).trans ((gI_sW).trans ((gI_sW).trans ((gI_sI_ne (by decide)).trans ((gI_sI_ne (by decide)).trans ((gI_sI_ne (by decide)).trans (gI_sI_ne (by decide))))))))).trans e2197))).trans (HI.eqI hI0 (p := 59) (b := 12) (hv1971)).symm, (HI.eqI hI2269 (p := 59) (b := 10) ((((gI_sI_ne (by decide)).trans ((gI_sW).trans ((gI_sW).trans ((gI_sW).trans ((gI_sI_ne (by decide)).trans ((gI_sI_ne (by decide)).trans ((gI_sI_ne (by decide)).trans (gI_sI_ne (by decide))))))))).trans e2195))).trans (HI.eqI hI0 (p := 59) (b := 10) (hv1969)).symm, (HI.eqI hI2269 (p := 59) (b := 11) ((((gI_sI_ne (by decide)).trans ((gI_sW).trans ((gI_sW).trans ((gI_sW).trans ((gI_sI_ne (by decide)).trans ((gI_sI_ne (by decide)).trans ((gI_sI_ne (by decide)).trans (gI_sI_ne (by decide))))))))).trans e2196))).trans (HI.eqI hI0 (p := 59) (b := 11) (hv1970)).symm, (HI.eqI hI2269 (p := 59) (b := 4) ((((gI_sI_ne (by decide)).trans ((gI_sW).trans ((gI_sW).trans ((gI_sW).trans ((gI_sI_ne (by decide)).trans ((gI_sI_ne (by decide)).trans ((gI_sI_ne (by decide)).trans (gI_sI_ne (by decide))))))))).trans e2198))).trans (HI.eqI hI0 (p := 59) (b := 4) (hv1972)).symm, (HI.eqI hI2269 (p := 59) (b := 6) ((((gI_sI_ne (by decide)).trans ((gI_sW).trans ((gI_sW).trans ((gI_sW).trans ((gI_sI_ne (by decide)).trans ((gI_sI_ne (by decide)).trans ((gI_sI_ne (by decide)).trans (gI_sI_ne (by decide))))))))).trans e2199))).trans (HI.eqI hI0 (p := 59) (b := 6) (hv1973)).symm, (HI.eqI hI2269 (p := 59) (b := 9) ((((gI_sI_ne (by decide)).trans ((gI_sW).trans ((gI_sW).trans ((gI_sW).trans ((gI_sI_ne (by decide)).trans ((gI_sI_ne (by decide)).trans ((gI_sI_ne (by decide)).trans (gI_sI_ne (by decide))))))))).trans e2200))).trans (HI.eqI hI0 (p := 59) (b := 9) (hv1974)).symm⟩), (fun _ => ⟨(HI.eqA hI2269 (p := 173) (j := 1) (((eA_c gA_sI).trans (eA_sA_eq hI2265.1 ka_173 (by omega) (by first | decide | omega) (by first | decide | omega))))).trans rfl, (by first | rfl | decide), (HI.eqI hI2269 (p := 116) (b := 0) ((((gI_sI_ne (by decide)).trans ((gI_sW).trans ((gI_sW).trans ((gI_sW).trans ((gI_sI_ne (by decide)).trans ((gI_sI_ne (by decide)).trans ((gI_sI_ne (by decide)).trans (gI_sI_ne (by decide))))))))).trans e2201))).trans (HI.eqI hI0 (p := 1) (b := 0) (hv1939)).symm, (HI.eqI hI2269 (p := 116) (b := 12) (((gI_sI_ne (by decide)).trans ((gI_sW).trans ((gI_sW).trans ((gI_sW).trans (gI_sI_eq hI2252.1 kx_116 rfl _))))))).trans (HI.eqI hI0 (p := 1) (b := 12) (hv2254)).symm, (HI.eqI hI2269 (p := 116) (b := 10) (((gI_sI_ne (by decide)).trans ((gI_sW).trans ((gI_sW).trans ((gI_sW).trans ((gI_sI_ne (by decide)).trans ((gI_sI_ne (by decide)).trans (gI_sI_eq hI2246.1 kx_116 rfl _))))))))).trans (HI.eqI hI0 (p := 1) (b := 10) (hv2248)).symm, (HI.eqI hI2269 (p := 116) (b := 11) (((gI_sI_ne (by decide)).trans ((gI_sW).trans ((gI_sW).trans ((gI_sW).trans ((gI_sI_ne (by decide)).trans (gI_sI_eq hI2249.1 kx_116 rfl _)))))))).trans (HI.eqI hI0 (p := 1) (b := 11) (hv2251)).symm, (HI.eqI hI2269 (p := 116) (b := 4) ((((gI_sI_ne (by decide)).trans ((gI_sW).trans ((gI_sW).trans ((gI_sW).trans ((gI_sI_ne (by decide)).trans ((gI_sI_ne (by decide)).trans ((gI_sI_ne (by decide)).trans (gI_sI_ne (by decide))))))))).trans e2205))).trans (HI.eqI hI0 (p := 1) (b := 4) (hv1957)).symm, (HI.eqI hI2269 (p := 116) (b := 6) ((((gI_sI_ne (by decide)).trans ((gI_sW).trans ((gI_sW).trans ((gI_sW).trans ((gI_sI_ne (by decide)).trans ((gI_sI_ne (by decide)).trans ((gI_sI_ne (by decide)).trans (gI_sI_ne (by decide))))))))).trans e2206))).trans (HI.eqI hI0 (p := 1) (b := 6) (hv1965)).symm, (HI.eqI hI2269 (p := 116) (b := 9) (((gI_sI_ne (by decide)).trans ((gI_sW).trans ((gI_sW).trans ((gI_sW).trans ((gI_sI_ne (by decide)).trans ((gI_sI_ne (by decide)).trans ((gI_sI_ne (by decide)).trans (gI_sI_eq hI2189.1 kx_116 rfl _)))))))))).trans (HI.eqI hI0 (p := 1) (b := 9) (hv2245)).symm⟩), (fun h => absurd e h), (fun h => False.elim (by omega))⟩, (by intro i i0 i1; refine Eq.trans ?_ (if_neg (show ¬ (a1.toInt = 0) from (by first | exact (fun h => absurd (e.symm.trans h) (by decide)) | omega))).symm; refine (eA_ti (((gA_sI).trans ((gA_sA_ne (by decide)).trans ((gA_sW_ne (by decide)).trans ((gA_sW_ne (by decide)).trans ((gA_sI).trans ((gA_sI).trans ((gA_sI).trans (gA_sI)))))))))).trans ?_; refine ((q2214 (i) (by first | exact i0 | omega) (by first | exact i1 | omega))).trans ?_; (first | with_reducible rfl | omega | exact eA_ix (by omega) | rfl)), (by intro i i0 i1; refine Eq.trans ?_ (if_neg (show ¬ (a1.toInt = 0) from (by first | exact (fun h => absurd (e.symm.trans h) (by decide)) | omega))).symm; refine (eA_ti (((gA_sI).trans ((gA_sA_ne (by decide)).trans ((gA_sW_ne (by decide)).trans ((gA_sW_ne (by decide)).trans ((gA_sI).trans ((gA_sI).trans ((gA_sI).trans (gA_sI)))))))))).trans ?_; refine ((q2215 (i) (by first | exact i0 | omega) (by first | exact i1 | omega))).trans ?_; (first | with_reducible rfl | omega | exact eA_ix (by omega) | rfl)), (by intro i i0 i1; refine Eq.trans ?_ (if_neg (show ¬ (a1.toInt = 0) from (by first | exact (fun h => absurd (e.symm.trans h) (by decide)) | omega))).symm; refine (eA_ti (((gA_sI).trans ((gA_sA_ne (by decide)).trans ((gA_sW_ne (by decide)).trans ((gA_sW_ne (by decide)).trans ((gA_sI).trans ((gA_sI).trans ((gA_sI).trans (gA_sI)))))))))).trans ?_; refine ((q2216 (i) (by first | exact i0 | omega) (by first | exact i1 | omega))).trans ?_; (first | with_reducible rfl | omega | exact eA_ix (by omega) | rfl)), (by intro i i0 i1; refine Eq.trans ?_ (if_neg (show ¬ (a1.toInt = 0) from (by first | exact (fun h => absurd (e.symm.trans h) (by decide)) | omega))).symm; refine (eA_ti (((gA_sI).trans ((gA_sA_ne (by decide)).trans ((gA_sW_ne (by decide)).trans ((gA_sW_ne (by decide)).trans ((gA_sI).trans ((gA_sI).trans ((gA_sI).trans (gA_sI)))))))))).trans ?_; refine ((q2217 (i) (by first | exact i0 | omega) (by first | exact i1 | omega))).trans ?_; (first | with_reducible rfl | omega | exact eA_ix (by omega) | rfl)), (by intro i i0 i1; refine Eq.trans ?_ (if_neg (show ¬ (a1.toInt = 0) from (by first | exact (fun h => absurd (e.symm.trans h) (by decide)) | omega))).symm; refine (eA_ti (((gA_sI).trans ((gA_sA_ne (by decide)).trans ((gA_sW_ne (by decide)).trans ((gA_sW_ne (by decide)).trans ((gA_sI).trans ((gA_sI).trans ((gA_sI).trans (gA_sI)))))))))).trans ?_; refine ((q2218 (i) (by first | exact i0 | omega) (by first | exact i1 | omega))).trans ?_; (first | with_reducible rfl | omega | exact eA_ix (by omega) | rfl)), (by intro i i0 i1; refine Eq.trans ?_ (if_pos (show a1.toInt = 1 from (by first | exact e | omega))).symm; refine (eA_ti (((gA_sI).trans ((gA_sA_ne (by decide)).trans ((gA_sW_ne (by decide)).trans ((gA_sW_ne (by decide)).trans ((gA_sI).trans ((gA_sI).trans ((gA_sI).trans (gA_sI)))))))))).trans ?_; refine ((q2219 (i) (by first | exact i0 | omega) (by first | exact i1 | omega))).trans ?_; (first | with_reducible rfl | omega | exact eA_ix (by omega) | rfl)), (by intro i i0 i1; refine Eq.trans ?_ (if_pos (show a1.toInt = 1 from (by first | exact e | omega))).symm; refine (eA_ti (((gA_sI).trans ((gA_sA_ne (by decide)).trans ((gA_sW_ne (by decide)).trans ((gA_sW_ne (by decide)).trans ((gA_sI).trans ((gA_sI).trans ((gA_sI).trans (gA_sI)))))))))).trans ?_; refine ((q2220 (i) (by first | exact i0 | omega) (by first | exact i1 | omega))).trans ?_; (first | with_reducible rfl | omega | exact eA_ix (by omega) | rfl)), (by intro i i0 i1; refine Eq.trans ?_ (if_pos (show a1.toInt = 1 from (by first | exact e | omega))).symm; refine (eA_ti (((gA_sI).trans ((gA_sA_ne (by decide)).trans ((gA_sW_ne (by decide)).trans ((gA_sW_ne (by decide)).trans ((gA_sI).trans ((gA_sI).trans ((gA_sI).trans (gA_sI)))))))))).trans ?_; refine ((q2221 (i) (by first | exact i0 | omega) (by first | exact i1 | omega))).trans ?_; (first | with_reducible rfl | omega | exact eA_ix (by omega) | rfl)), (by intro i i0 i1; refine Eq.trans ?_ (if_pos (show a1.toInt = 1 from (by first | exact e | omega))).symm; refine (eA_tq (((gA_sI).trans ((gA_sA_ne (by decide)).trans ((gA_sW_ne (by decide)).trans ((gA_cpF hI2255.1 ka_14 ka_129 (by decide) (by decide) (by decide)).trans ((gA_sI).trans ((gA_sI).trans ((gA_sI).trans ((gA_sI).trans (hF2190.2.1 14 (by decide)))))))))))).trans ?_; (first | with_reducible rfl | omega | exact eA_ix (by omega) | rfl)), (by intro i i0 i1; refine Eq.trans ?_ (if_pos (show a1.toInt = 1 from (by first | exact e | omega))).symm; refine (eA_tq (((gA_sI).trans ((gA_sA_ne (by decide)).trans ((gA_cpF hI2260.1 ka_15 ka_130 (by decide) (by decide) (by decide)).trans ((gA_sW_ne (by decide)).trans ((gA_sI).trans ((gA_sI).trans ((gA_sI).trans ((gA_sI).trans (hF2190.2.1 15 (by decide)))))))))))).trans ?_; (first | with_reducible rfl | omega | exact eA_ix (by omega) | rfl)), (by intro i i0 i1; refine Eq.trans ?_ (if_neg (show ¬ (a1.toInt = 0) from (by first | exact (fun h => absurd (e.symm.trans h) (by decide)) | omega))).symm; refine (eA_ti (((gA_sI).trans ((gA_sA_ne (by decide)).trans ((gA_sW_ne (by decide)).trans ((gA_sW_ne (by decide)).trans ((gA_sI).trans ((gA_sI).trans ((gA_sI).trans (gA_sI)))))))))).trans ?_; refine ((q2224 (i) (by first | exact i0 | omega) (by first | exact i1 | omega))).trans ?_; (first | with_reducible rfl | omega | exact eA_ix (by omega) | rfl)), (by intro i i0 i1; refine Eq.trans ?_ (if_pos (show a1.toInt = 1 from (by first | exact e | omega))).symm; refine (eA_ti (((gA_sI).trans ((gA_sA_ne (by decide)).trans ((gA_sW_ne (by decide)).trans ((gA_sW_ne (by decide)).trans ((gA_sI).trans ((gA_sI).trans ((gA_sI).trans (gA_sI)))))))))).trans ?_; refine ((q2225 (i) (by first | exact i0 | omega) (by first | exact i1 | omega))).trans ?_; (first | with_reducible rfl | omega | exact eA_ix (by omega) | rfl))⟩, (SU.mk (by omega))⟩⟩
      · have c2244_ : x2187.toInt < 6 := en_i_ge_f c2244
        refine At.enter rfl ?_
        refine r_aload_n e2210 ?_
        refine r_iload_n e2212 ?_
        refine r_callV 97 rfl [.ref 116, .int x2187] [] (Nat.le_of_ble_eq_true rfl) rfl (T_X0_lawAt_116 _ hI2189 x2187) ?_
        rintro _ _ ⟨g2275, rfl, hI2276, hF2277, v2278, rfl, hr2279⟩
        refine At.str ?_
        have hF2280 := Fr.tr hF2190 hF2277 rfl rfl
        refine At.enter rfl ?_
        refine r_aload_n e2211 ?_
        refine r_iload_n e2212 ?_
        refine r_callV 102 rfl [.ref 1, .int x2187] [.ref (v2278)] (Nat.le_of_ble_eq_true rfl) rfl (T_X0_lawAt_1 _ hI2276 x2187) ?_
        rintro _ _ ⟨g2281, rfl, hI2282, hF2283, v2284, rfl, hr2285⟩
        refine At.str ?_
        have hF2286 := Fr.tr hF2280 hF2283 rfl rfl
        refine At.enter rfl ?_
        refine r_callV 105 rfl [.ref (v2278), .ref (v2284)] [] (Nat.le_of_ble_eq_true rfl) rfl (T_X4_become_law _ hI2282 (v2278) hr2279 (v2284) hr2285) ?_
        rintro _ _ ⟨g2287, rfl, hI2288, hF2289, rfl⟩
        refine At.stn ?_
        have hF2292 := Fr.tr hF2286 hF2289 rfl rfl
        refine At.enter rfl ?_
        refine q_iinc e2212 (x2187.toInt + 1) rfl (by omega) (fun v2293 hv2293 => ?_)
        refine r_goto ?_
        exact ih2193 (6 - v2293.toInt) _ _ ⟨v2293, by first | rfl | omega, hI2288, hF2292, (((hF2289.1 59 0 mf_X4_become_law_59_0).trans ((hF2283.1 59 0 mf_X0_lawAt_1_59_0).trans (hF2277.1 59 0 mf_X0_lawAt_116_59_0))).trans e2194), (((hF2289.1 59 10 mf_X4_become_law_59_10).trans ((hF2283.1 59 10 mf_X0_lawAt_1_59_10).trans (hF2277.1 59 10 mf_X0_lawAt_116_59_10))).trans e2195), (((hF2289.1 59 11 mf_X4_become_law_59_11).trans ((hF2283.1 59 11 mf_X0_lawAt_1_59_11).trans (hF2277.1 59 11 mf_X0_lawAt_116_59_11))).trans e2196), (((hF2289.1 59 12 mf_X4_become_law_59_12).trans ((hF2283.1 59 12 mf_X0_lawAt_1_59_12).trans (hF2277.1 59 12 mf_X0_lawAt_116_59_12))).trans e2197), (((hF2289.1 59 4 mf_X4_become_law_59_4).trans ((hF2283.1 59 4 mf_X0_lawAt_1_59_4).trans (hF2277.1 59 4 mf_X0_lawAt_116_59_4))).trans e2198), (((hF2289.1 59 6 mf_X4_become_law_59_6).trans ((hF2283.1 59 6 mf_X0_lawAt_1_59_6).trans (hF2277.1 59 6 mf_X0_lawAt_116_59_6))).trans e2199), (((hF2289.1 59 9 mf_X4_become_law_59_9).trans ((hF2283.1 59 9 mf_X0_lawAt_1_59_9).trans (hF2277.1 59 9 mf_X0_lawAt_116_59_9))).trans e2200), (((hF2289.1 116 0 mf_X4_become_law_116_0).trans ((hF2283.1 116 0 mf_X0_lawAt_1_116_0).trans (hF2277.1 116 0 mf_X0_lawAt_116_116_0))).trans e2201), (((hF2289.1 116 10 mf_X4_become_law_116_10).trans ((hF2283.1 116 10 mf_X0_lawAt_1_116_10).trans (hF2277.1 116 10 mf_X0_lawAt_116_116_10))).trans e2202), (((hF2289.1 116 11 mf_X4_become_law_116_11).trans ((hF2283.1 116 11 mf_X0_lawAt_1_116_11).trans (hF2277.1 116 11 mf_X0_lawAt_116_116_11))).trans e2203), (((hF2289.1 116 12 mf_X4_become_law_116_12).trans ((hF2283.1 116 12 mf_X0_lawAt_1_116_12).trans (hF2277.1 116 12 mf_X0_lawAt_116_116_12))).trans e2204), (((hF2289.1 116 4 mf_X4_become_law_116_4).trans ((hF2283.1 116 4 mf_X0_lawAt_1_116_4).trans (hF2277.1 116 4 mf_X0_lawAt_116_116_4))).trans e2205), (((hF2289.1 116 6 mf_X4_become_law_116_6).trans ((hF2283.1 116 6 mf_X0_lawAt_1_116_6).trans (hF2277.1 116 6 mf_X0_lawAt_116_116_6))).trans e2206), (((hF2289.1 116 9 mf_X4_become_law_116_9).trans ((hF2283.1 116 9 mf_X0_lawAt_1_116_9).trans (hF2277.1 116 9 mf_X0_lawAt_116_116_9))).trans e2207), (((eA_c (hF2289.2.1 173 ma_X4_become_law_173)).trans ((eA_c (hF2283.2.1 173 ma_X0_lawAt_1_173)).trans (eA_c (hF2277.2.1 173 ma_X0_lawAt_116_173)))).trans e2208), (((eA_c (hF2289.2.1 173 ma_X4_become_law_173)).trans ((eA_c (hF2283.2.1 173 ma_X0_lawAt_1_173)).trans (eA_c (hF2277.2.1 173 ma_X0_lawAt_116_173)))).trans e2209), (w_p1 (by decide) (Or.inr rfl) e2210), (w_p1 (by decide) (Or.inr rfl) e2211), (w_e1 _ _ _), by omega, (by intro i i0 i1; refine (eA_ti (((hF2289.2.1 60 ma_X4_become_law_60).trans ((hF2283.2.1 60 ma_X0_lawAt_1_60).trans (hF2277.2.1 60 ma_X0_lawAt_116_60))))).trans ?_; refine ((q2214 (i) (by first | exact i0 | omega) (by first | exact i1 | omega))).trans ?_; (first | with_reducible rfl | omega | exact eA_ix (by omega) | rfl)), (by intro i i0 i1; refine (eA_ti (((hF2289.2.1 61 ma_X4_become_law_61).trans ((hF2283.2.1 61 ma_X0_lawAt_1_61).trans (hF2277.2.1 61 ma_X0_lawAt_116_61))))).trans ?_; refine ((q2215 (i) (by first | exact i0 | omega) (by first | exact i1 | omega))).trans ?_; (first | with_reducible rfl | omega | exact eA_ix (by omega) | rfl)), (by intro i i0 i1; refine (eA_ti (((hF2289.2.1 62 ma_X4_become_law_62).trans ((hF2283.2.1 62 ma_X0_lawAt_1_62).trans (hF2277.2.1 62 ma_X0_lawAt_116_62))))).trans ?_; refine ((q2216 (i) (by first | exact i0 | omega) (by first | exact i1 | omega))).trans ?_; (first | with_reducible rfl | omega | exact eA_ix (by omega) | rfl)), (by intro i i0 i1; refine (eA_ti (((hF2289.2.1 72 ma_X4_become_law_72).trans ((hF2283.2.1 72 ma_X0_lawAt_1_72).trans (hF2277.2.1 72 ma_X0_lawAt_116_72))))).trans ?_; refine ((q2217 (i) (by first | exact i0 | omega) (by first | exact i1 | omega))).trans ?_; (first | with_reducible rfl | omega | exact eA_ix (by omega) | rfl)), (by intro i i0 i1; refine (eA_ti (((hF2289.2.1 73 ma_X4_become_law_73).trans ((hF2283.2.1 73 ma_X0_lawAt_1_73).trans (hF2277.2.1 73 ma_X0_lawAt_116_73))))).trans ?_; refine ((q2218 (i) (by first | exact i0 | omega) (by first | exact i1 | omega))).trans ?_; (first | with_reducible rfl | omega | exact eA_ix (by omega) | rfl)), (by intro i i0 i1; refine (eA_ti (((hF2289.2.1 117 ma_X4_become_law_117).trans ((hF2283.2.1 117 ma_X0_lawAt_1_117).trans (hF2277.2.1 117 ma_X0_lawAt_116_117))))).trans ?_; refine ((q2219 (i) (by first | exact i0 | omega) (by first | exact i1 | omega))).trans ?_; (first | with_reducible rfl | omega | exact eA_ix (by omega) | rfl)), (by intro i i0 i1; refine (eA_ti (((hF2289.2.1 118 ma_X4_become_law_118).trans ((hF2283.2.1 118 ma_X0_lawAt_1_118).trans (hF2277.2.1 118 ma_X0_lawAt_116_118))))).trans ?_; refine ((q2220 (i) (by first | exact i0 | omega) (by first | exact i1 | omega))).trans ?_; (first | with_reducible rfl | omega | exact eA_ix (by omega) | rfl)), (by intro i i0 i1; refine (eA_ti (((hF2289.2.1 119 ma_X4_become_law_119).trans ((hF2283.2.1 119 ma_X0_lawAt_1_119).trans (hF2277.2.1 119 ma_X0_lawAt_116_119))))).trans ?_; refine ((q2221 (i) (by first | exact i0 | omega) (by first | exact i1 | omega))).trans ?_; (first | with_reducible rfl | omega | exact eA_ix (by omega) | rfl)), (by intro i i0 i1; refine (eA_ti (((hF2289.2.1 129 ma_X4_become_law_129).trans ((hF2283.2.1 129 ma_X0_lawAt_1_129).trans (hF2277.2.1 129 ma_X0_lawAt_116_129))))).trans ?_; refine ((q2222 (i) (by first | exact i0 | omega) (by first | exact i1 | omega))).trans ?_; (first | with_reducible rfl | omega | exact eA_ix (by omega) | rfl)), (by intro i i0 i1; refine (eA_ti (((hF2289.2.1 130 ma_X4_become_law_130).trans ((hF2283.2.1 130 ma_X0_lawAt_1_130).trans (hF2277.2.1 130 ma_X0_lawAt_116_130))))).trans ?_; refine ((q2223 (i) (by first | exact i0 | omega) (by first | exact i1 | omega))).trans ?_; (first | with_reducible rfl | omega | exact eA_ix (by omega) | rfl)), (by intro i i0 i1; refine (eA_ti (((hF2289.2.1 63 ma_X4_become_law_63).trans ((hF2283.2.1 63 ma_X0_lawAt_1_63).trans (hF2277.2.1 63 ma_X0_lawAt_116_63))))).trans ?_; refine ((q2224 (i) (by first | exact i0 | omega) (by first | exact i1 | omega))).trans ?_; (first | with_reducible rfl | omega | exact eA_ix (by omega) | rfl)), (by intro i i0 i1; refine (eA_ti (((hF2289.2.1 120 ma_X4_become_law_120).trans ((hF2283.2.1 120 ma_X0_lawAt_1_120).trans (hF2277.2.1 120 ma_X0_lawAt_116_120))))).trans ?_; refine ((q2225 (i) (by first | exact i0 | omega) (by first | exact i1 | omega))).trans ?_; (first | with_reducible rfl | omega | exact eA_ix (by omega) | rfl))⟩ ⟨by omega, by omega⟩
