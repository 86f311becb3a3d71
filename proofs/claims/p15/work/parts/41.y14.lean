def F_X10_drawn_0 : List (Nat × Nat) := []
def A_X10_drawn_0 : List Nat := []
set_option maxRecDepth 100000 in
set_option maxHeartbeats 4000000 in
theorem T_X10_drawn_0 (d : Nat) {N : Nat} {g0 : List en_E} (hI0 : HI g0) (a1 : Int32) (a2 : Int32) : Ev (d + 2) 139 [.ref 0, .int a1, .int a2] (g0, N) (fun w h' => ∃ g', h' = (g', N) ∧ HI g' ∧ Fr F_X10_drawn_0 A_X10_drawn_0 g0 g' ∧ ∃ r : Int32, w = some (.int r) ∧ True) := by
  have hF0 : Fr F_X10_drawn_0 A_X10_drawn_0 g0 g0 := Fr.rf
  refine Ev.mk rfl rfl ⟨Nat.le_of_ble_eq_true rfl, Or.inr (q_rc hI0.1 kx_0 rfl)⟩ ?_
  show At _ none _ _ (0, [(0, .ref 0), (1, .int a1), (2, .int a2)], [], (_, _)) _
  refine At.enter rfl ?_
  refine r_iload_n rfl ?_
  refine r_iconst 0 rfl ?_
  refine r_aload_n rfl ?_
  obtain ⟨v23, hv23⟩ : ∃ v, gI g0 0 15 = v := ⟨_, rfl⟩
  have rv23 := RgF.at hI0.2.1 (p := 0) (b := 15) rfl
  rw [hv23] at rv23
  dsimp only at rv23
  refine q_getI (Sh.int hI0.1 kx_0 rfl) v23 hv23 ?_
  refine r_iconst 1 rfl ?_
  refine q_isub (v23.toInt - 1) rfl (by omega) (fun v24 hv24 => ?_)
  refine q_inlS 11 rfl [.int a1, .int 0, .int v24] [] (Nat.le_of_ble_eq_true rfl) rfl ?_
  refine Ev.mk rfl rfl ⟨Nat.le_of_ble_eq_true rfl, Or.inl rfl⟩ ?_
  show At _ none _ _ (0, [(0, .int a1), (1, .int 0), (2, .int v24)], [], (_, _)) _
  refine At.enter rfl ?_
  refine r_iload_n rfl ?_
  refine r_iload_n rfl ?_
  refine r_ics 5 rfl (fun c25 => ?_) (fun c25 => ?_)
  · have c25_ : a1.toInt < 0 := en_i_lt_t c25
    refine At.enter rfl ?_
    refine r_iconst 0 rfl ?_
    refine Ar.fall 15 rfl ?_
    refine At.enter rfl ?_
    refine q_iretz (by decide) ?_
    refine At.enter rfl ?_
    refine r_ift (by decide) ?_
    refine At.enter rfl ?_
    refine r_iconst (-1) rfl ?_
    refine r_ireti ?_
    exact ⟨_, rfl, hI0, hF0, _, rfl, trivial⟩
  · have c25_ : a1.toInt ≥ 0 := en_i_lt_f c25
    refine At.enter rfl ?_
    refine r_iload_n rfl ?_
    refine r_iload_n rfl ?_
    have bv27 := q_bnd a1
    have bv28 := q_bnd v24
    refine r_ics 10 rfl (fun c26 => ?_) (fun c26 => ?_)
    · have c26_ : a1.toInt > v24.toInt := en_i_gt_t c26
      refine At.enter rfl ?_
      refine r_iconst 0 rfl ?_
      refine Ar.fall 15 rfl ?_
      refine At.enter rfl ?_
      refine q_iretz (by decide) ?_
      refine At.enter rfl ?_
      refine r_ift (by decide) ?_
      refine At.enter rfl ?_
      refine r_iconst (-1) rfl ?_
      refine r_ireti ?_
      exact ⟨_, rfl, hI0, hF0, _, rfl, trivial⟩
    · have c26_ : a1.toInt ≤ v24.toInt := en_i_gt_f c26
      refine At.enter rfl ?_
      refine r_iconst 1 rfl ?_
      refine r_goto ?_
      refine At.enter rfl ?_
      refine q_iretz (by decide) ?_
      refine At.enter rfl ?_
      refine r_iff 14 rfl (by decide) ?_
      refine At.enter rfl ?_
      refine r_iload_n rfl ?_
      refine r_iconst 0 rfl ?_
      refine r_iconst 1 rfl ?_
      refine q_inlS 20 rfl [.int a2, .int 0, .int 1] [] (Nat.le_of_ble_eq_true rfl) rfl ?_
      refine Ev.mk rfl rfl ⟨Nat.le_of_ble_eq_true rfl, Or.inl rfl⟩ ?_
      show At _ none _ _ (0, [(0, .int a2), (1, .int 0), (2, .int 1)], [], (_, _)) _
      refine At.enter rfl ?_
      refine r_iload_n rfl ?_
      refine r_iload_n rfl ?_
      refine r_ics 5 rfl (fun c29 => ?_) (fun c29 => ?_)
      · have c29_ : a2.toInt < 0 := en_i_lt_t c29
        refine At.enter rfl ?_
        refine r_iconst 0 rfl ?_
        refine Ar.fall 15 rfl ?_
        refine At.enter rfl ?_
        refine q_iretz (by decide) ?_
        refine At.enter rfl ?_
        refine r_iff 23 rfl (by decide) ?_
        refine At.enter rfl ?_
        refine r_iconst (-1) rfl ?_
        refine r_ireti ?_
        exact ⟨_, rfl, hI0, hF0, _, rfl, trivial⟩
      · have c29_ : a2.toInt ≥ 0 := en_i_lt_f c29
        refine At.enter rfl ?_
        refine r_iload_n rfl ?_
        refine r_iload_n rfl ?_
        refine r_ics 10 rfl (fun c30 => ?_) (fun c30 => ?_)
        · have c30_ : a2.toInt > 1 := en_i_gt_t c30
          refine At.enter rfl ?_
          refine r_iconst 0 rfl ?_
          refine Ar.fall 15 rfl ?_
          refine At.enter rfl ?_
          refine q_iretz (by decide) ?_
          refine At.enter rfl ?_
          refine r_iff 23 rfl (by decide) ?_
          refine At.enter rfl ?_
          refine r_iconst (-1) rfl ?_
          refine r_ireti ?_
          exact ⟨_, rfl, hI0, hF0, _, rfl, trivial⟩
        · have c30_ : a2.toInt ≤ 1 := en_i_gt_f c30
          refine At.enter rfl ?_
          refine r_iconst 1 rfl ?_
          refine r_goto ?_
          refine At.enter rfl ?_
          refine q_iretz (by decide) ?_
          refine At.enter rfl ?_
          refine r_ift (by decide) ?_
          refine At.enter rfl ?_
          refine r_iload_n rfl ?_
          refine r_ifs 29 rfl (fun c31 => ?_) (fun c31 => ?_)
          · have c31_ : a2.toInt ≠ 0 := en_k_ne_t c31
            refine At.enter rfl ?_
            refine r_aload_n rfl ?_
            refine q_getR (Sh.ref hI0.1 kx_0 rfl) ?_
            refine r_iload_n rfl ?_
            obtain ⟨v32, hv32⟩ : ∃ v, eA g0 229 a1.toInt = v := ⟨_, rfl⟩
            refine q_iald (Sh.arr hI0.1 ka_229) a1.toInt rfl (by omega) v32 hv32 ?_
            refine Ar.fall 44 rfl ?_
            refine At.enter rfl ?_
            refine r_ireti ?_
            exact ⟨_, rfl, hI0, hF0, _, rfl, trivial⟩
          · have c31_ : a2.toInt = 0 := en_k_ne_f c31
            refine At.enter rfl ?_
            refine r_aload_n rfl ?_
            refine q_getR (Sh.ref hI0.1 kx_0 rfl) ?_
            refine r_iload_n rfl ?_
            obtain ⟨v33, hv33⟩ : ∃ v, eA g0 228 a1.toInt = v := ⟨_, rfl⟩
            refine q_iald (Sh.arr hI0.1 ka_228) a1.toInt rfl (by omega) v33 hv33 ?_
            refine r_goto ?_
            refine At.enter rfl ?_
            refine r_ireti ?_
            exact ⟨_, rfl, hI0, hF0, _, rfl, trivial⟩

def F_X10_image_0 : List (Nat × Nat) := [(0, 17), (7, 0), (7, 3), (7, 4), (16, 0), (16, 3), (16, 4), (23, 0), (23, 3), (23, 4), (30, 0), (30, 3), (30, 4), (37, 0), (37, 3), (37, 4), (44, 0), (44, 3), (44, 4), (51, 0), (51, 3), (51, 4), (59, 0), (59, 4), (59, 6), (59, 9), (59, 10), (59, 11), (59, 12), (65, 0), (65, 3), (65, 4), (74, 0), (74, 3), (74, 4), (81, 0), (81, 3), (81, 4), (88, 0), (88, 3), (88, 4), (95, 0), (95, 3), (95, 4), (102, 0), (102, 3), (102, 4), (109, 0), (109, 3), (109, 4), (116, 0), (116, 4), (116, 6), (116, 9), (116, 10), (116, 11), (116, 12), (122, 0), (122, 3), (122, 4), (131, 0), (131, 3), (131, 4), (138, 0), (138, 3), (138, 4), (145, 0), (145, 3), (145, 4), (152, 0), (152, 3), (152, 4), (159, 0), (159, 3), (159, 4), (166, 0), (166, 3), (166, 4), (177, 0), (177, 3), (177, 4)]
def A_X10_image_0 : List Nat := [8, 9, 10, 11, 12, 13, 17, 18, 19, 20, 21, 22, 24, 25, 26, 27, 28, 29, 31, 32, 33, 34, 35, 36, 38, 39, 40, 41, 42, 43, 45, 46, 47, 48, 49, 50, 52, 53, 54, 55, 56, 57, 60, 61, 62, 63, 66, 67, 68, 69, 70, 71, 72, 73, 75, 76, 77, 78, 79, 80, 82, 83, 84, 85, 86, 87, 89, 90, 91, 92, 93, 94, 96, 97, 98, 99, 100, 101, 103, 104, 105, 106, 107, 108, 110, 111, 112, 113, 114, 115, 117, 118, 119, 120, 123, 124, 125, 126, 127, 128, 129, 130, 132, 133, 134, 135, 136, 137, 139, 140, 141, 142, 143, 144, 146, 147, 148, 149, 150, 151, 153, 154, 155, 156, 157, 158, 160, 161, 162, 163, 164, 165, 167, 168, 169, 170, 171, 172, 173, 178, 179, 180, 181, 182, 183, 230]
theorem mf_X10_refused_0_59_0 : memF F_X10_refused_0 59 0 = false := by decide
theorem mf_X10_refused_0_59_12 : memF F_X10_refused_0 59 12 = false := by decide
theorem mf_X10_refused_0_59_10 : memF F_X10_refused_0 59 10 = false := by decide
theorem mf_X10_refused_0_59_11 : memF F_X10_refused_0 59 11 = false := by decide
theorem mf_X10_refused_0_59_6 : memF F_X10_refused_0 59 6 = false := by decide
theorem mf_X10_refused_0_59_9 : memF F_X10_refused_0 59 9 = false := by decide
theorem mf_X10_refused_0_116_0 : memF F_X10_refused_0 116 0 = false := by decide
theorem mf_X10_refused_0_116_12 : memF F_X10_refused_0 116 12 = false := by decide
theorem mf_X10_refused_0_116_10 : memF F_X10_refused_0 116 10 = false := by decide
theorem mf_X10_refused_0_116_11 : memF F_X10_refused_0 116 11 = false := by decide
theorem mf_X10_refused_0_116_6 : memF F_X10_refused_0 116 6 = false := by decide
theorem mf_X10_refused_0_116_9 : memF F_X10_refused_0 116 9 = false := by decide
theorem ma_X10_refused_0_173 : memA A_X10_refused_0 173 = false := by decide
theorem mf_X4_become_law_59_0 : memF F_X4_become_law 59 0 = false := by decide
theorem mf_X0_lawAt_1_59_0 : memF F_X0_lawAt_1 59 0 = false := by decide
theorem mf_X0_lawAt_59_59_0 : memF F_X0_lawAt_59 59 0 = false := by decide
theorem mf_X4_become_law_59_10 : memF F_X4_become_law 59 10 = false := by decide
theorem mf_X0_lawAt_1_59_10 : memF F_X0_lawAt_1 59 10 = false := by decide
theorem mf_X0_lawAt_59_59_10 : memF F_X0_lawAt_59 59 10 = false := by decide
theorem mf_X4_become_law_59_11 : memF F_X4_become_law 59 11 = false := by decide
theorem mf_X0_lawAt_1_59_11 : memF F_X0_lawAt_1 59 11 = false := by decide
theorem mf_X0_lawAt_59_59_11 : memF F_X0_lawAt_59 59 11 = false := by decide
theorem mf_X4_become_law_59_12 : memF F_X4_become_law 59 12 = false := by decide
theorem mf_X0_lawAt_1_59_12 : memF F_X0_lawAt_1 59 12 = false := by decide
theorem mf_X0_lawAt_59_59_12 : memF F_X0_lawAt_59 59 12 = false := by decide
theorem mf_X4_become_law_59_6 : memF F_X4_become_law 59 6 = false := by decide
theorem mf_X0_lawAt_1_59_6 : memF F_X0_lawAt_1 59 6 = false := by decide
theorem mf_X0_lawAt_59_59_6 : memF F_X0_lawAt_59 59 6 = false := by decide
theorem mf_X4_become_law_59_9 : memF F_X4_become_law 59 9 = false := by decide
theorem mf_X0_lawAt_1_59_9 : memF F_X0_lawAt_1 59 9 = false := by decide
theorem mf_X0_lawAt_59_59_9 : memF F_X0_lawAt_59 59 9 = false := by decide
theorem mf_X4_become_law_116_0 : memF F_X4_become_law 116 0 = false := by decide
theorem mf_X0_lawAt_1_116_0 : memF F_X0_lawAt_1 116 0 = false := by decide
theorem mf_X0_lawAt_59_116_0 : memF F_X0_lawAt_59 116 0 = false := by decide
theorem mf_X4_become_law_116_10 : memF F_X4_become_law 116 10 = false := by decide
theorem mf_X0_lawAt_1_116_10 : memF F_X0_lawAt_1 116 10 = false := by decide
theorem mf_X0_lawAt_59_116_10 : memF F_X0_lawAt_59 116 10 = false := by decide
theorem mf_X4_become_law_116_11 : memF F_X4_become_law 116 11 = false := by decide
theorem mf_X0_lawAt_1_116_11 : memF F_X0_lawAt_1 116 11 = false := by decide
theorem mf_X0_lawAt_59_116_11 : memF F_X0_lawAt_59 116 11 = false := by decide
theorem mf_X4_become_law_116_12 : memF F_X4_become_law 116 12 = false := by decide
theorem mf_X0_lawAt_1_116_12 : memF F_X0_lawAt_1 116 12 = false := by decide
theorem mf_X0_lawAt_59_116_12 : memF F_X0_lawAt_59 116 12 = false := by decide
theorem mf_X4_become_law_116_6 : memF F_X4_become_law 116 6 = false := by decide
theorem mf_X0_lawAt_1_116_6 : memF F_X0_lawAt_1 116 6 = false := by decide
theorem mf_X0_lawAt_59_116_6 : memF F_X0_lawAt_59 116 6 = false := by decide
theorem mf_X4_become_law_116_9 : memF F_X4_become_law 116 9 = false := by decide
theorem mf_X0_lawAt_1_116_9 : memF F_X0_lawAt_1 116 9 = false := by decide
theorem mf_X0_lawAt_59_116_9 : memF F_X0_lawAt_59 116 9 = false := by decide
theorem ma_X4_become_law_173 : memA A_X4_become_law 173 = false := by decide
theorem ma_X0_lawAt_1_173 : memA A_X0_lawAt_1 173 = false := by decide
theorem ma_X0_lawAt_59_173 : memA A_X0_lawAt_59 173 = false := by decide
theorem mf_X0_lawAt_116_59_0 : memF F_X0_lawAt_116 59 0 = false := by decide
theorem mf_X0_lawAt_116_59_10 : memF F_X0_lawAt_116 59 10 = false := by decide
theorem mf_X0_lawAt_116_59_11 : memF F_X0_lawAt_116 59 11 = false := by decide
theorem mf_X0_lawAt_116_59_12 : memF F_X0_lawAt_116 59 12 = false := by decide
theorem mf_X0_lawAt_116_59_6 : memF F_X0_lawAt_116 59 6 = false := by decide
theorem mf_X0_lawAt_116_59_9 : memF F_X0_lawAt_116 59 9 = false := by decide
theorem mf_X0_lawAt_116_116_0 : memF F_X0_lawAt_116 116 0 = false := by decide
theorem mf_X0_lawAt_116_116_10 : memF F_X0_lawAt_116 116 10 = false := by decide
theorem mf_X0_lawAt_116_116_11 : memF F_X0_lawAt_116 116 11 = false := by decide
theorem mf_X0_lawAt_116_116_12 : memF F_X0_lawAt_116 116 12 = false := by decide
theorem mf_X0_lawAt_116_116_6 : memF F_X0_lawAt_116 116 6 = false := by decide
theorem mf_X0_lawAt_116_116_9 : memF F_X0_lawAt_116 116 9 = false := by decide
theorem ma_X0_lawAt_116_173 : memA A_X0_lawAt_116 173 = false := by decide
set_option maxRecDepth 100000 in
set_option maxHeartbeats 4000000 in
theorem T_X10_image_0 (d : Nat) {N : Nat} {g0 : List en_E} (hI0 : HI g0) (a1 : Int32) : Ev (d + 3) 140 [.ref 0, .int a1] (g0, N) (fun w h' => ∃ g', h' = (g', N) ∧ HI g' ∧ Fr F_X10_image_0 A_X10_image_0 g0 g' ∧ ∃ r : Int32, w = some (.int r) ∧ ((-1) ≤ r.toInt ∧ r.toInt ≤ 0) ∧ ((a1.toInt = 0 → (eA g' 173 0).toInt = 1 ∧ r.toInt = 0 ∧ (gI g' 59 0).toInt = (gI g0 1 0).toInt ∧ (gI g' 59 12).toInt = (gI g0 1 12).toInt ∧ (gI g' 59 10).toInt = (gI g0 1 10).toInt ∧ (gI g' 59 11).toInt = (gI g0 1 11).toInt ∧ (gI g' 59 6).toInt = (gI g0 1 6).toInt ∧ (gI g' 59 9).toInt = (gI g0 1 9).toInt) ∧ (a1.toInt ≠ 0 → (eA g' 173 0).toInt = (eA g0 173 0).toInt ∧ (gI g' 59 0).toInt = (gI g0 59 0).toInt ∧ (gI g' 59 12).toInt = (gI g0 59 12).toInt ∧ (gI g' 59 10).toInt = (gI g0 59 10).toInt ∧ (gI g' 59 11).toInt = (gI g0 59 11).toInt ∧ (gI g' 59 6).toInt = (gI g0 59 6).toInt ∧ (gI g' 59 9).toInt = (gI g0 59 9).toInt) ∧ (a1.toInt = 1 → (eA g' 173 1).toInt = 1 ∧ r.toInt = 0 ∧ (gI g' 116 0).toInt = (gI g0 1 0).toInt ∧ (gI g' 116 12).toInt = (gI g0 1 12).toInt ∧ (gI g' 116 10).toInt = (gI g0 1 10).toInt ∧ (gI g' 116 11).toInt = (gI g0 1 11).toInt ∧ (gI g' 116 6).toInt = (gI g0 1 6).toInt ∧ (gI g' 116 9).toInt = (gI g0 1 9).toInt) ∧ (a1.toInt ≠ 1 → (eA g' 173 1).toInt = (eA g0 173 1).toInt ∧ (gI g' 116 0).toInt = (gI g0 116 0).toInt ∧ (gI g' 116 12).toInt = (gI g0 116 12).toInt ∧ (gI g' 116 10).toInt = (gI g0 116 10).toInt ∧ (gI g' 116 11).toInt = (gI g0 116 11).toInt ∧ (gI g' 116 6).toInt = (gI g0 116 6).toInt ∧ (gI g' 116 9).toInt = (gI g0 116 9).toInt) ∧ (a1.toInt < 0 ∨ 1 < a1.toInt → r.toInt = -1))) := by
  have hF0 : Fr F_X10_image_0 A_X10_image_0 g0 g0 := Fr.rf
  refine Ev.mk rfl rfl ⟨Nat.le_of_ble_eq_true rfl, Or.inr (q_rc hI0.1 kx_0 rfl)⟩ ?_
  show At _ none _ _ (0, [(0, .ref 0), (1, .int a1)], [], (_, _)) _
  refine At.enter rfl ?_
  refine r_aload_n rfl ?_
  refine r_iload_n rfl ?_
  refine q_inlV 5 rfl [.ref 0, .int a1] [] (Nat.le_of_ble_eq_true rfl) rfl ?_
  refine Ev.mk rfl rfl ⟨Nat.le_of_ble_eq_true rfl, Or.inr (q_rc hI0.1 kx_0 rfl)⟩ ?_
  show At _ none _ _ (0, [(0, .ref 0), (1, .int a1)], [], (_, _)) _
  refine At.enter rfl ?_
  refine r_iload_n rfl ?_
  refine r_iconst 0 rfl ?_
  refine r_iconst 1 rfl ?_
  refine q_inlS 6 rfl [.int a1, .int 0, .int 1] [] (Nat.le_of_ble_eq_true rfl) rfl ?_
  refine Ev.mk rfl rfl ⟨Nat.le_of_ble_eq_true rfl, Or.inl rfl⟩ ?_
  show At _ none _ _ (0, [(0, .int a1), (1, .int 0), (2, .int 1)], [], (_, _)) _
  refine At.enter rfl ?_
  refine r_iload_n rfl ?_
  refine r_iload_n rfl ?_
  refine r_ics 5 rfl (fun c1371 => ?_) (fun c1371 => ?_)
  · have c1371_ : a1.toInt < 0 := en_i_lt_t c1371
    refine At.enter rfl ?_
    refine r_iconst 0 rfl ?_
    refine Ar.fall 15 rfl ?_
    refine At.enter rfl ?_
    refine q_iretz (by decide) ?_
    refine At.enter rfl ?_
    refine r_ift (by decide) ?_
    refine At.enter rfl ?_
    refine r_null ?_
    refine Ar.fall 19 rfl ?_
    refine At.enter rfl ?_
    refine q_zret ?_
    refine At.enter rfl ?_
    refine r_zstore_n ([(2, .null), (0, .ref 0), (1, .int a1)]) rfl ?_
    refine r_zload_n rfl ?_
    refine r_nnz 10 rfl ?_
    refine At.enter rfl ?_
    refine r_aload_n rfl ?_
    refine r_iconst (-1) rfl ?_
    refine r_callV 15 rfl [.ref 0, .int (-1)] [] (Nat.le_of_ble_eq_true rfl) rfl (T_X10_refused_0 _ hI0 (-1) (by decide)) ?_
    rintro _ _ ⟨g1372, rfl, hI1373, hF1374, v1375, rfl, hr1376⟩
    refine At.sti ?_
    have hF1377 := Fr.tr hF0 hF1374 rfl rfl
    have zv1378 : ((-1) : Int32).toInt = (-1) := rfl
    refine At.enter rfl ?_
    refine r_ireti ?_
    obtain ⟨v1379, hv1379⟩ : ∃ v, gI g0 1 0 = v := ⟨_, rfl⟩
    have rv1379 := RgF.at hI0.2.1 (p := 1) (b := 0) rfl
    rw [hv1379] at rv1379
    dsimp only at rv1379
    have tv1379 := congrArg Int32.toInt hv1379
    obtain ⟨v1381, hv1381⟩ : ∃ v, gI g0 1 12 = v := ⟨_, rfl⟩
    have rv1381 := RgF.at hI0.2.1 (p := 1) (b := 12) rfl
    rw [hv1381] at rv1381
    dsimp only at rv1381
    have tv1381 := congrArg Int32.toInt hv1381
    obtain ⟨v1383, hv1383⟩ : ∃ v, gI g0 1 10 = v := ⟨_, rfl⟩
    have tv1383 := congrArg Int32.toInt hv1383
    obtain ⟨v1385, hv1385⟩ : ∃ v, gI g0 1 11 = v := ⟨_, rfl⟩
    have tv1385 := congrArg Int32.toInt hv1385
    obtain ⟨v1387, hv1387⟩ : ∃ v, gI g0 1 6 = v := ⟨_, rfl⟩
    have rv1387 := RgF.at hI0.2.1 (p := 1) (b := 6) rfl
    rw [hv1387] at rv1387
    dsimp only at rv1387
    have tv1387 := congrArg Int32.toInt hv1387
    obtain ⟨v1389, hv1389⟩ : ∃ v, gI g0 1 9 = v := ⟨_, rfl⟩
    have tv1389 := congrArg Int32.toInt hv1389
    obtain ⟨v1391, hv1391⟩ : ∃ v, gI g0 59 0 = v := ⟨_, rfl⟩
    have rv1391 := RgF.at hI0.2.1 (p := 59) (b := 0) rfl
    rw [hv1391] at rv1391
    dsimp only at rv1391
    have tv1391 := congrArg Int32.toInt hv1391
    obtain ⟨v1393, hv1393⟩ : ∃ v, gI g0 59 12 = v := ⟨_, rfl⟩
    have rv1393 := RgF.at hI0.2.1 (p := 59) (b := 12) rfl
    rw [hv1393] at rv1393
    dsimp only at rv1393
    have tv1393 := congrArg Int32.toInt hv1393
    obtain ⟨v1395, hv1395⟩ : ∃ v, gI g0 59 10 = v := ⟨_, rfl⟩
    have tv1395 := congrArg Int32.toInt hv1395
    obtain ⟨v1397, hv1397⟩ : ∃ v, gI g0 59 11 = v := ⟨_, rfl⟩
    have tv1397 := congrArg Int32.toInt hv1397
    obtain ⟨v1399, hv1399⟩ : ∃ v, gI g0 59 6 = v := ⟨_, rfl⟩
    have rv1399 := RgF.at hI0.2.1 (p := 59) (b := 6) rfl
    rw [hv1399] at rv1399
    dsimp only at rv1399
    have tv1399 := congrArg Int32.toInt hv1399
    obtain ⟨v1401, hv1401⟩ : ∃ v, gI g0 59 9 = v := ⟨_, rfl⟩
    have tv1401 := congrArg Int32.toInt hv1401
    obtain ⟨v1403, hv1403⟩ : ∃ v, gI g0 116 0 = v := ⟨_, rfl⟩
    have rv1403 := RgF.at hI0.2.1 (p := 116) (b := 0) rfl
    rw [hv1403] at rv1403
    dsimp only at rv1403
    have tv1403 := congrArg Int32.toInt hv1403
    obtain ⟨v1405, hv1405⟩ : ∃ v, gI g0 116 12 = v := ⟨_, rfl⟩
    have rv1405 := RgF.at hI0.2.1 (p := 116) (b := 12) rfl
    rw [hv1405] at rv1405
    dsimp only at rv1405
    have tv1405 := congrArg Int32.toInt hv1405
    obtain ⟨v1407, hv1407⟩ : ∃ v, gI g0 116 10 = v := ⟨_, rfl⟩
    have tv1407 := congrArg Int32.toInt hv1407
    obtain ⟨v1409, hv1409⟩ : ∃ v, gI g0 116 11 = v := ⟨_, rfl⟩
    have tv1409 := congrArg Int32.toInt hv1409
    obtain ⟨v1411, hv1411⟩ : ∃ v, gI g0 116 6 = v := ⟨_, rfl⟩
    have rv1411 := RgF.at hI0.2.1 (p := 116) (b := 6) rfl
    rw [hv1411] at rv1411
    dsimp only at rv1411
    have tv1411 := congrArg Int32.toInt hv1411
    obtain ⟨v1413, hv1413⟩ : ∃ v, gI g0 116 9 = v := ⟨_, rfl⟩
    have tv1413 := congrArg Int32.toInt hv1413
    obtain ⟨v1415, hv1415⟩ : ∃ v, eA g0 173 0 = v := ⟨_, rfl⟩
    have tv1415 := congrArg Int32.toInt hv1415
    have x1416 := HI.eqA hI0 (p := 173) (j := 0) (hv1415)
    obtain ⟨v1417, hv1417⟩ : ∃ v, eA g0 173 1 = v := ⟨_, rfl⟩
    have tv1417 := congrArg Int32.toInt hv1417
    have x1418 := HI.eqA hI0 (p := 173) (j := 1) (hv1417)
    have x1419 := HI.eqI hI1373 (p := 59) (b := 0) (((hF1374.1 59 0 mf_X10_refused_0_59_0).trans hv1391))
    have x1420 := HI.eqI hI1373 (p := 59) (b := 12) (((hF1374.1 59 12 mf_X10_refused_0_59_12).trans hv1393))
    have x1421 := HI.eqI hI1373 (p := 59) (b := 10) (((hF1374.1 59 10 mf_X10_refused_0_59_10).trans hv1395))
    have x1422 := HI.eqI hI1373 (p := 59) (b := 11) (((hF1374.1 59 11 mf_X10_refused_0_59_11).trans hv1397))
    have x1423 := HI.eqI hI1373 (p := 59) (b := 6) (((hF1374.1 59 6 mf_X10_refused_0_59_6).trans hv1399))
    have x1424 := HI.eqI hI1373 (p := 59) (b := 9) (((hF1374.1 59 9 mf_X10_refused_0_59_9).trans hv1401))
    have x1425 := HI.eqI hI1373 (p := 116) (b := 0) (((hF1374.1 116 0 mf_X10_refused_0_116_0).trans hv1403))
    have x1426 := HI.eqI hI1373 (p := 116) (b := 12) (((hF1374.1 116 12 mf_X10_refused_0_116_12).trans hv1405))
    have x1427 := HI.eqI hI1373 (p := 116) (b := 10) (((hF1374.1 116 10 mf_X10_refused_0_116_10).trans hv1407))
    have x1428 := HI.eqI hI1373 (p := 116) (b := 11) (((hF1374.1 116 11 mf_X10_refused_0_116_11).trans hv1409))
    have x1429 := HI.eqI hI1373 (p := 116) (b := 6) (((hF1374.1 116 6 mf_X10_refused_0_116_6).trans hv1411))
    have x1430 := HI.eqI hI1373 (p := 116) (b := 9) (((hF1374.1 116 9 mf_X10_refused_0_116_9).trans hv1413))
    have x1431 := HI.eqA hI1373 (p := 173) (j := 0) (((eA_c (hF1374.2.1 173 ma_X10_refused_0_173)).trans hv1415))
    have x1432 := HI.eqA hI1373 (p := 173) (j := 1) (((eA_c (hF1374.2.1 173 ma_X10_refused_0_173)).trans hv1417))
    exact ⟨_, rfl, hI1373, hF1377, _, rfl, by omega, ⟨by omega, by omega, by omega, by omega, by omega⟩⟩
  · have c1371_ : a1.toInt ≥ 0 := en_i_lt_f c1371
    refine At.enter rfl ?_
    refine r_iload_n rfl ?_
    refine r_iload_n rfl ?_
    refine r_ics 10 rfl (fun c1433 => ?_) (fun c1433 => ?_)
    · have c1433_ : a1.toInt > 1 := en_i_gt_t c1433
      refine At.enter rfl ?_
      refine r_iconst 0 rfl ?_
      refine Ar.fall 15 rfl ?_
      refine At.enter rfl ?_
      refine q_iretz (by decide) ?_
      refine At.enter rfl ?_
      refine r_ift (by decide) ?_
      refine At.enter rfl ?_
      refine r_null ?_
      refine Ar.fall 19 rfl ?_
      refine At.enter rfl ?_
      refine q_zret ?_
      refine At.enter rfl ?_
      refine r_zstore_n ([(2, .null), (0, .ref 0), (1, .int a1)]) rfl ?_
      refine r_zload_n rfl ?_
      refine r_nnz 10 rfl ?_
      refine At.enter rfl ?_
      refine r_aload_n rfl ?_
      refine r_iconst (-1) rfl ?_
      refine r_callV 15 rfl [.ref 0, .int (-1)] [] (Nat.le_of_ble_eq_true rfl) rfl (T_X10_refused_0 _ hI0 (-1) (by decide)) ?_
      rintro _ _ ⟨g1434, rfl, hI1435, hF1436, v1437, rfl, hr1438⟩
      refine At.sti ?_
      have hF1439 := Fr.tr hF0 hF1436 rfl rfl
      have zv1440 : ((-1) : Int32).toInt = (-1) := rfl
      refine At.enter rfl ?_
      refine r_ireti ?_
      obtain ⟨v1441, hv1441⟩ : ∃ v, gI g0 1 0 = v := ⟨_, rfl⟩
      have rv1441 := RgF.at hI0.2.1 (p := 1) (b := 0) rfl
      rw [hv1441] at rv1441
      dsimp only at rv1441
      have tv1441 := congrArg Int32.toInt hv1441
      obtain ⟨v1443, hv1443⟩ : ∃ v, gI g0 1 12 = v := ⟨_, rfl⟩
      have rv1443 := RgF.at hI0.2.1 (p := 1) (b := 12) rfl
      rw [hv1443] at rv1443
      dsimp only at rv1443
      have tv1443 := congrArg Int32.toInt hv1443
      obtain ⟨v1445, hv1445⟩ : ∃ v, gI g0 1 10 = v := ⟨_, rfl⟩
      have tv1445 := congrArg Int32.toInt hv1445
      obtain ⟨v1447, hv1447⟩ : ∃ v, gI g0 1 11 = v := ⟨_, rfl⟩
      have tv1447 := congrArg Int32.toInt hv1447
      obtain ⟨v1449, hv1449⟩ : ∃ v, gI g0 1 6 = v := ⟨_, rfl⟩
      have rv1449 := RgF.at hI0.2.1 (p := 1) (b := 6) rfl
      rw [hv1449] at rv1449
      dsimp only at rv1449
      have tv1449 := congrArg Int32.toInt hv1449
      obtain ⟨v1451, hv1451⟩ : ∃ v, gI g0 1 9 = v := ⟨_, rfl⟩
      have tv1451 := congrArg Int32.toInt hv1451
      obtain ⟨v1453, hv1453⟩ : ∃ v, gI g0 59 0 = v := ⟨_, rfl⟩
      have rv1453 := RgF.at hI0.2.1 (p := 59) (b := 0) rfl
      rw [hv1453] at rv1453
      dsimp only at rv1453
      have tv1453 := congrArg Int32.toInt hv1453
      obtain ⟨v1455, hv1455⟩ : ∃ v, gI g0 59 12 = v := ⟨_, rfl⟩
      have rv1455 := RgF.at hI0.2.1 (p := 59) (b := 12) rfl
      rw [hv1455] at rv1455
      dsimp only at rv1455
      have tv1455 := congrArg Int32.toInt hv1455
      obtain ⟨v1457, hv1457⟩ : ∃ v, gI g0 59 10 = v := ⟨_, rfl⟩
      have tv1457 := congrArg Int32.toInt hv1457
      obtain ⟨v1459, hv1459⟩ : ∃ v, gI g0 59 11 = v := ⟨_, rfl⟩
      have tv1459 := congrArg Int32.toInt hv1459
      obtain ⟨v1461, hv1461⟩ : ∃ v, gI g0 59 6 = v := ⟨_, rfl⟩
      have rv1461 := RgF.at hI0.2.1 (p := 59) (b := 6) rfl
      rw [hv1461] at rv1461
      dsimp only at rv1461
      have tv1461 := congrArg Int32.toInt hv1461
      obtain ⟨v1463, hv1463⟩ : ∃ v, gI g0 59 9 = v := ⟨_, rfl⟩
      have tv1463 := congrArg Int32.toInt hv1463
      obtain ⟨v1465, hv1465⟩ : ∃ v, gI g0 116 0 = v := ⟨_, rfl⟩
      have rv1465 := RgF.at hI0.2.1 (p := 116) (b := 0) rfl
      rw [hv1465] at rv1465
      dsimp only at rv1465
      have tv1465 := congrArg Int32.toInt hv1465
      obtain ⟨v1467, hv1467⟩ : ∃ v, gI g0 116 12 = v := ⟨_, rfl⟩
      have rv1467 := RgF.at hI0.2.1 (p := 116) (b := 12) rfl
      rw [hv1467] at rv1467
      dsimp only at rv1467
      have tv1467 := congrArg Int32.toInt hv1467
      obtain ⟨v1469, hv1469⟩ : ∃ v, gI g0 116 10 = v := ⟨_, rfl⟩
      have tv1469 := congrArg Int32.toInt hv1469
      obtain ⟨v1471, hv1471⟩ : ∃ v, gI g0 116 11 = v := ⟨_, rfl⟩
      have tv1471 := congrArg Int32.toInt hv1471
      obtain ⟨v1473, hv1473⟩ : ∃ v, gI g0 116 6 = v := ⟨_, rfl⟩
      have rv1473 := RgF.at hI0.2.1 (p := 116) (b := 6) rfl
      rw [hv1473] at rv1473
      dsimp only at rv1473
      have tv1473 := congrArg Int32.toInt hv1473
      obtain ⟨v1475, hv1475⟩ : ∃ v, gI g0 116 9 = v := ⟨_, rfl⟩
      have tv1475 := congrArg Int32.toInt hv1475
      obtain ⟨v1477, hv1477⟩ : ∃ v, eA g0 173 0 = v := ⟨_, rfl⟩
      have tv1477 := congrArg Int32.toInt hv1477
      have x1478 := HI.eqA hI0 (p := 173) (j := 0) (hv1477)
      obtain ⟨v1479, hv1479⟩ : ∃ v, eA g0 173 1 = v := ⟨_, rfl⟩
      have tv1479 := congrArg Int32.toInt hv1479
      have x1480 := HI.eqA hI0 (p := 173) (j := 1) (hv1479)
      have x1481 := HI.eqI hI1435 (p := 59) (b := 0) (((hF1436.1 59 0 mf_X10_refused_0_59_0).trans hv1453))
      have x1482 := HI.eqI hI1435 (p := 59) (b := 12) (((hF1436.1 59 12 mf_X10_refused_0_59_12).trans hv1455))
      have x1483 := HI.eqI hI1435 (p := 59) (b := 10) (((hF1436.1 59 10 mf_X10_refused_0_59_10).trans hv1457))
      have x1484 := HI.eqI hI1435 (p := 59) (b := 11) (((hF1436.1 59 11 mf_X10_refused_0_59_11).trans hv1459))
      have x1485 := HI.eqI hI1435 (p := 59) (b := 6) (((hF1436.1 59 6 mf_X10_refused_0_59_6).trans hv1461))
      have x1486 := HI.eqI hI1435 (p := 59) (b := 9) (((hF1436.1 59 9 mf_X10_refused_0_59_9).trans hv1463))
      have x1487 := HI.eqI hI1435 (p := 116) (b := 0) (((hF1436.1 116 0 mf_X10_refused_0_116_0).trans hv1465))
      have x1488 := HI.eqI hI1435 (p := 116) (b := 12) (((hF1436.1 116 12 mf_X10_refused_0_116_12).trans hv1467))
      have x1489 := HI.eqI hI1435 (p := 116) (b := 10) (((hF1436.1 116 10 mf_X10_refused_0_116_10).trans hv1469))
      have x1490 := HI.eqI hI1435 (p := 116) (b := 11) (((hF1436.1 116 11 mf_X10_refused_0_116_11).trans hv1471))
      have x1491 := HI.eqI hI1435 (p := 116) (b := 6) (((hF1436.1 116 6 mf_X10_refused_0_116_6).trans hv1473))
      have x1492 := HI.eqI hI1435 (p := 116) (b := 9) (((hF1436.1 116 9 mf_X10_refused_0_116_9).trans hv1475))
      have x1493 := HI.eqA hI1435 (p := 173) (j := 0) (((eA_c (hF1436.2.1 173 ma_X10_refused_0_173)).trans hv1477))
      have x1494 := HI.eqA hI1435 (p := 173) (j := 1) (((eA_c (hF1436.2.1 173 ma_X10_refused_0_173)).trans hv1479))
      exact ⟨_, rfl, hI1435, hF1439, _, rfl, by omega, ⟨by omega, by omega, by omega, by omega, by omega⟩⟩
    · have c1433_ : a1.toInt ≤ 1 := en_i_gt_f c1433
      refine At.enter rfl ?_
      refine r_iconst 1 rfl ?_
      refine r_goto ?_
      refine At.enter rfl ?_
      refine q_iretz (by decide) ?_
      refine At.enter rfl ?_
      refine r_iff 9 rfl (by decide) ?_
      refine At.enter rfl ?_
      refine r_aload_n rfl ?_
      refine q_getR (Sh.ref hI0.1 kx_0 rfl) ?_
      refine r_iload_n rfl ?_
      by_cases c1495_0 : a1.toInt = 0
      · refine q_aald (Sh.rar hI0.1 ka_58) (by decide) 0 (by omega) (by decide) (some 59) rfl ?_
        refine r_goto ?_
        refine At.enter rfl ?_
        refine q_aret ?_
        refine At.enter rfl ?_
        refine r_astore_n ([(2, .ref 59), (0, .ref 0), (1, .int a1)]) rfl ?_
        refine r_aload_n rfl ?_
        refine r_nnr ?_
        refine At.enter rfl ?_
        refine r_aload_n rfl ?_
        refine r_aload_n rfl ?_
        refine q_getR (Sh.ref hI0.1 kx_0 rfl) ?_
        refine q_inlV 24 rfl [.ref 59, .ref 1] [] (Nat.le_of_ble_eq_true rfl) rfl ?_
        refine Ev.mk rfl rfl ⟨Nat.le_of_ble_eq_true rfl, Or.inr (q_rc hI0.1 kx_59 rfl)⟩ ?_
        show At _ none _ _ (0, [(0, .ref 59), (1, .ref 1)], [], (_, _)) _
        refine At.enter rfl ?_
        refine r_aload_n rfl ?_
        refine r_aload_n rfl ?_
        obtain ⟨v1496, hv1496⟩ : ∃ v, gI g0 1 0 = v := ⟨_, rfl⟩
        have rv1496 := RgF.at hI0.2.1 (p := 1) (b := 0) rfl
        rw [hv1496] at rv1496
        dsimp only at rv1496
        refine q_getI (Sh.int hI0.1 kx_1 rfl) v1496 hv1496 ?_
        refine q_putI (Sh.int hI0.1 kx_59 rfl) rfl ?_
        have hI1497 := HI.wI1 hI0 kx_59 rfl (p := 59) (b := 0) (v := v1496) rfl (by dsimp only; omega)
        have hF1498 := Fr.wI (p := 59) (b := 0) (v := v1496) hF0 rfl
        refine r_aload_n rfl ?_
        refine q_getR (Sh.ref hI1497.1 kx_1 rfl) ?_
        refine r_iconst 0 rfl ?_
        refine r_aload_n rfl ?_
        refine q_getR (Sh.ref hI1497.1 kx_59 rfl) ?_
        refine r_iconst 0 rfl ?_
        refine r_bipush 12 rfl ?_
        have zv1499 : (0 : Int32).toInt = 0 := rfl
        have zv1500 : (0 : Int32).toInt = 0 := rfl
        have zv1501 : (12 : Int32).toInt = 12 := rfl
        refine q_cpy rfl (Nat.le_of_ble_eq_true rfl) (Sh.arr hI1497.1 ka_2) (Sh.arr hI1497.1 ka_60) ⟨by omega, by omega, by omega, by omega, by omega⟩ ?_
        have hI1502 := HI.cpy0 hI1497 ka_2 ka_60 rfl rfl ((0 : Int32).toInt.toNat) ((0 : Int32).toInt.toNat) ((12 : Int32).toInt.toNat) (by omega) (by omega)
        have hF1503 := Fr.cpy (p0 := 2) (p1 := 60) hF1498 rfl ((0 : Int32).toInt.toNat) ((0 : Int32).toInt.toNat) ((12 : Int32).toInt.toNat)
        refine r_aload_n rfl ?_
        refine q_getR (Sh.ref hI1502.1 kx_1 rfl) ?_
        refine r_iconst 0 rfl ?_
        refine r_aload_n rfl ?_
        refine q_getR (Sh.ref hI1502.1 kx_59 rfl) ?_
        refine r_iconst 0 rfl ?_
        refine r_bipush 12 rfl ?_
        have zv1504 : (0 : Int32).toInt = 0 := rfl
        have zv1505 : (0 : Int32).toInt = 0 := rfl
        have zv1506 : (12 : Int32).toInt = 12 := rfl
        refine q_cpy rfl (Nat.le_of_ble_eq_true rfl) (Sh.arr hI1502.1 ka_3) (Sh.arr hI1502.1 ka_61) ⟨by omega, by omega, by omega, by omega, by omega⟩ ?_
        have hI1507 := HI.cpy0 hI1502 ka_3 ka_61 rfl rfl ((0 : Int32).toInt.toNat) ((0 : Int32).toInt.toNat) ((12 : Int32).toInt.toNat) (by omega) (by omega)
        have hF1508 := Fr.cpy (p0 := 3) (p1 := 61) hF1503 rfl ((0 : Int32).toInt.toNat) ((0 : Int32).toInt.toNat) ((12 : Int32).toInt.toNat)
        refine r_aload_n rfl ?_
        refine q_getR (Sh.ref hI1507.1 kx_1 rfl) ?_
        refine r_iconst 0 rfl ?_
        refine r_aload_n rfl ?_
        refine q_getR (Sh.ref hI1507.1 kx_59 rfl) ?_
        refine r_iconst 0 rfl ?_
        refine r_bipush 12 rfl ?_
        have zv1509 : (0 : Int32).toInt = 0 := rfl
        have zv1510 : (0 : Int32).toInt = 0 := rfl
        have zv1511 : (12 : Int32).toInt = 12 := rfl
        refine q_cpy rfl (Nat.le_of_ble_eq_true rfl) (Sh.arr hI1507.1 ka_4) (Sh.arr hI1507.1 ka_62) ⟨by omega, by omega, by omega, by omega, by omega⟩ ?_
        have hI1512 := HI.cpy0 hI1507 ka_4 ka_62 rfl rfl ((0 : Int32).toInt.toNat) ((0 : Int32).toInt.toNat) ((12 : Int32).toInt.toNat) (by omega) (by omega)
        have hF1513 := Fr.cpy (p0 := 4) (p1 := 62) hF1508 rfl ((0 : Int32).toInt.toNat) ((0 : Int32).toInt.toNat) ((12 : Int32).toInt.toNat)
        refine r_aload_n rfl ?_
        refine r_aload_n rfl ?_
        obtain ⟨v1514, hv1514⟩ : ∃ v, gI g0 1 4 = v := ⟨_, rfl⟩
        have rv1514 := RgF.at hI0.2.1 (p := 1) (b := 4) rfl
        rw [hv1514] at rv1514
        dsimp only at rv1514
        refine q_getI (Sh.int hI1512.1 kx_1 rfl) v1514 (((gI_sW).trans ((gI_sW).trans ((gI_sW).trans (gI_sI_ne (by decide))))).trans hv1514) ?_
        refine q_putI (Sh.int hI1512.1 kx_59 rfl) rfl ?_
        have hI1515 := HI.wI1 hI1512 kx_59 rfl (p := 59) (b := 4) (v := v1514) rfl (by dsimp only; omega)
        have hF1516 := Fr.wI (p := 59) (b := 4) (v := v1514) hF1513 rfl
        refine r_aload_n rfl ?_
        refine q_getR (Sh.ref hI1515.1 kx_1 rfl) ?_
        refine r_iconst 0 rfl ?_
        refine r_aload_n rfl ?_
        refine q_getR (Sh.ref hI1515.1 kx_59 rfl) ?_
        refine r_iconst 0 rfl ?_
        refine r_bipush 48 rfl ?_
        have zv1517 : (0 : Int32).toInt = 0 := rfl
        have zv1518 : (0 : Int32).toInt = 0 := rfl
        have zv1519 : (48 : Int32).toInt = 48 := rfl
        refine q_cpy rfl (Nat.le_of_ble_eq_true rfl) (Sh.arr hI1515.1 ka_5) (Sh.arr hI1515.1 ka_63) ⟨by omega, by omega, by omega, by omega, by omega⟩ ?_
        have hI1520 := HI.cpy0 hI1515 ka_5 ka_63 rfl rfl ((0 : Int32).toInt.toNat) ((0 : Int32).toInt.toNat) ((48 : Int32).toInt.toNat) (by omega) (by omega)
        have hF1521 := Fr.cpy (p0 := 5) (p1 := 63) hF1516 rfl ((0 : Int32).toInt.toNat) ((0 : Int32).toInt.toNat) ((48 : Int32).toInt.toNat)
        refine r_aload_n rfl ?_
        refine r_aload_n rfl ?_
        obtain ⟨v1522, hv1522⟩ : ∃ v, gI g0 1 6 = v := ⟨_, rfl⟩
        have rv1522 := RgF.at hI0.2.1 (p := 1) (b := 6) rfl
        rw [hv1522] at rv1522
        dsimp only at rv1522
        refine q_getI (Sh.int hI1520.1 kx_1 rfl) v1522 (((gI_sW).trans ((gI_sI_ne (by decide)).trans ((gI_sW).trans ((gI_sW).trans ((gI_sW).trans (gI_sI_ne (by decide))))))).trans hv1522) ?_
        refine q_putI (Sh.int hI1520.1 kx_59 rfl) rfl ?_
        have hI1523 := HI.wI1 hI1520 kx_59 rfl (p := 59) (b := 6) (v := v1522) rfl (by dsimp only; omega)
        have hF1524 := Fr.wI (p := 59) (b := 6) (v := v1522) hF1521 rfl
        refine r_iconst 0 rfl ?_
        refine r_istore_n ([(2, .int 0), (0, .ref 59), (1, .ref 1)]) rfl ?_
        refine Ar.fall 86 rfl ?_
        obtain ⟨v1525, hv1525⟩ : ∃ v, gI g0 59 10 = v := ⟨_, rfl⟩
        have tv1525 := congrArg Int32.toInt hv1525
        obtain ⟨v1526, hv1526⟩ : ∃ v, gI g0 59 11 = v := ⟨_, rfl⟩
        have tv1526 := congrArg Int32.toInt hv1526
        obtain ⟨v1527, hv1527⟩ : ∃ v, gI g0 59 12 = v := ⟨_, rfl⟩
        have rv1527 := RgF.at hI0.2.1 (p := 59) (b := 12) rfl
        rw [hv1527] at rv1527
        dsimp only at rv1527
        have tv1527 := congrArg Int32.toInt hv1527
        obtain ⟨v1528, hv1528⟩ : ∃ v, gI g0 59 9 = v := ⟨_, rfl⟩
        have tv1528 := congrArg Int32.toInt hv1528
        obtain ⟨v1529, hv1529⟩ : ∃ v, gI g0 116 0 = v := ⟨_, rfl⟩
        have rv1529 := RgF.at hI0.2.1 (p := 116) (b := 0) rfl
        rw [hv1529] at rv1529
        dsimp only at rv1529
        have tv1529 := congrArg Int32.toInt hv1529
        obtain ⟨v1530, hv1530⟩ : ∃ v, gI g0 116 10 = v := ⟨_, rfl⟩
        have tv1530 := congrArg Int32.toInt hv1530
        obtain ⟨v1531, hv1531⟩ : ∃ v, gI g0 116 11 = v := ⟨_, rfl⟩
        have tv1531 := congrArg Int32.toInt hv1531
        obtain ⟨v1532, hv1532⟩ : ∃ v, gI g0 116 12 = v := ⟨_, rfl⟩
        have rv1532 := RgF.at hI0.2.1 (p := 116) (b := 12) rfl
        rw [hv1532] at rv1532
        dsimp only at rv1532
        have tv1532 := congrArg Int32.toInt hv1532
        obtain ⟨v1533, hv1533⟩ : ∃ v, gI g0 116 6 = v := ⟨_, rfl⟩
        have rv1533 := RgF.at hI0.2.1 (p := 116) (b := 6) rfl
        rw [hv1533] at rv1533
        dsimp only at rv1533
        have tv1533 := congrArg Int32.toInt hv1533
        obtain ⟨v1534, hv1534⟩ : ∃ v, gI g0 116 9 = v := ⟨_, rfl⟩
        have tv1534 := congrArg Int32.toInt hv1534
        obtain ⟨v1535, hv1535⟩ : ∃ v, eA g0 173 0 = v := ⟨_, rfl⟩
        have tv1535 := congrArg Int32.toInt hv1535
        obtain ⟨v1536, hv1536⟩ : ∃ v, eA g0 173 1 = v := ⟨_, rfl⟩
        have tv1536 := congrArg Int32.toInt hv1536
        have z_1768 : (0 : Int32).toInt = 0 := rfl
        refine w_loopI (fun n_ l_ g_ => ∃ x1743 : Int32, n_ = 6 - x1743.toInt ∧ HI g_ ∧ Fr F_X10_image_0 A_X10_image_0 g0 g_ ∧ gI g_ 59 0 = v1496 ∧ gI g_ 59 10 = v1525 ∧ gI g_ 59 11 = v1526 ∧ gI g_ 59 12 = v1527 ∧ gI g_ 59 6 = v1522 ∧ gI g_ 59 9 = v1528 ∧ gI g_ 116 0 = v1529 ∧ gI g_ 116 10 = v1530 ∧ gI g_ 116 11 = v1531 ∧ gI g_ 116 12 = v1532 ∧ gI g_ 116 6 = v1533 ∧ gI g_ 116 9 = v1534 ∧ eA g_ 173 0 = v1535 ∧ eA g_ 173 1 = v1536 ∧ en_get 0 l_ = some (.ref 59) ∧ en_get 1 l_ = some (.ref 1) ∧ en_get 2 l_ = some (.int x1743) ∧ (0 ≤ x1743.toInt ∧ x1743.toInt ≤ 6)) ?_ (6 - 0) ⟨0, by first | rfl | omega, hI1523, hF1524, ((gI_sI_ne (by decide)).trans ((gI_sW).trans ((gI_sI_ne (by decide)).trans ((gI_sW).trans ((gI_sW).trans ((gI_sW).trans (gI_sI_eq hI0.1 kx_59 rfl _))))))), (((gI_sI_ne (by decide)).trans ((gI_sW).trans ((gI_sI_ne (by decide)).trans ((gI_sW).trans ((gI_sW).trans ((gI_sW).trans (gI_sI_ne (by decide)))))))).trans hv1525), (((gI_sI_ne (by decide)).trans ((gI_sW).trans ((gI_sI_ne (by decide)).trans ((gI_sW).trans ((gI_sW).trans ((gI_sW).trans (gI_sI_ne (by decide)))))))).trans hv1526), (((gI_sI_ne (by decide)).trans ((gI_sW).trans ((gI_sI_ne (by decide)).trans ((gI_sW).trans ((gI_sW).trans ((gI_sW).trans (gI_sI_ne (by decide)))))))).trans hv1527), (gI_sI_eq hI1520.1 kx_59 rfl _), (((gI_sI_ne (by decide)).trans ((gI_sW).trans ((gI_sI_ne (by decide)).trans ((gI_sW).trans ((gI_sW).trans ((gI_sW).trans (gI_sI_ne (by decide)))))))).trans hv1528), (((gI_sI_ne (by decide)).trans ((gI_sW).trans ((gI_sI_ne (by decide)).trans ((gI_sW).trans ((gI_sW).trans ((gI_sW).trans (gI_sI_ne (by decide)))))))).trans hv1529), (((gI_sI_ne (by decide)).trans ((gI_sW).trans ((gI_sI_ne (by decide)).trans ((gI_sW).trans ((gI_sW).trans ((gI_sW).trans (gI_sI_ne (by decide)))))))).trans hv1530), (((gI_sI_ne (by decide)).trans ((gI_sW).trans ((gI_sI_ne (by decide)).trans ((gI_sW).trans ((gI_sW).trans ((gI_sW).trans (gI_sI_ne (by decide)))))))).trans hv1531), (((gI_sI_ne (by decide)).trans ((gI_sW).trans ((gI_sI_ne (by decide)).trans ((gI_sW).trans ((gI_sW).trans ((gI_sW).trans (gI_sI_ne (by decide)))))))).trans hv1532), (((gI_sI_ne (by decide)).trans ((gI_sW).trans ((gI_sI_ne (by decide)).trans ((gI_sW).trans ((gI_sW).trans ((gI_sW).trans (gI_sI_ne (by decide)))))))).trans hv1533), (((gI_sI_ne (by decide)).trans ((gI_sW).trans ((gI_sI_ne (by decide)).trans ((gI_sW).trans ((gI_sW).trans ((gI_sW).trans (gI_sI_ne (by decide)))))))).trans hv1534), (((eA_c gA_sI).trans ((eA_c (gA_sW_ne (by decide))).trans ((eA_c gA_sI).trans ((eA_c (gA_sW_ne (by decide))).trans ((eA_c (gA_sW_ne (by decide))).trans ((eA_c (gA_sW_ne (by decide))).trans (eA_c gA_sI))))))).trans hv1535), (((eA_c gA_sI).trans ((eA_c (gA_sW_ne (by decide))).trans ((eA_c gA_sI).trans ((eA_c (gA_sW_ne (by decide))).trans ((eA_c (gA_sW_ne (by decide))).trans ((eA_c (gA_sW_ne (by decide))).trans (eA_c gA_sI))))))).trans hv1536), rfl, rfl, rfl, by decide⟩
        rintro n1748 l1747 g1744 ⟨x1743, hm1769, hI1745, hF1746, e1750, e1751, e1752, e1753, e1754, e1755, e1756, e1757, e1758, e1759, e1760, e1761, e1762, e1763, e1764, e1765, e1766, r1767⟩ ih1749
        have tv1770 := congrArg Int32.toInt e1762
        have tv1771 := congrArg Int32.toInt e1763
        have tv1772 := congrArg Int32.toInt e1750
        have tv1773 := congrArg Int32.toInt e1751
        have tv1774 := congrArg Int32.toInt e1752
        have tv1775 := congrArg Int32.toInt e1753
        have tv1776 := congrArg Int32.toInt e1754
        have tv1777 := congrArg Int32.toInt e1755
        have tv1778 := congrArg Int32.toInt e1756
        have tv1779 := congrArg Int32.toInt e1757
        have tv1780 := congrArg Int32.toInt e1758
        have tv1781 := congrArg Int32.toInt e1759
        have tv1782 := congrArg Int32.toInt e1760
        have tv1783 := congrArg Int32.toInt e1761
        refine At.enter rfl ?_
        refine r_iload_n e1766 ?_
        refine r_bipush 6 rfl ?_
        refine r_ics 92 rfl (fun c1784 => ?_) (fun c1784 => ?_)
        · have c1784_ : x1743.toInt ≥ 6 := en_i_ge_t c1784
          refine At.enter rfl ?_
          refine r_aload_n e1764 ?_
          refine r_aload_n e1765 ?_
          obtain ⟨v1785, hv1785⟩ : ∃ v, gI g0 1 9 = v := ⟨_, rfl⟩
          refine q_getI (Sh.int hI1745.1 kx_1 rfl) v1785 ((hF1746.1 1 9 (by decide)).trans hv1785) ?_
          refine q_putI (Sh.int hI1745.1 kx_59 rfl) rfl ?_
          have hI1786 := HI.wI0 hI1745 kx_59 rfl (p := 59) (b := 9) (v := v1785) rfl
          have hF1787 := Fr.wI (p := 59) (b := 9) (v := v1785) hF1746 rfl
          refine r_aload_n e1764 ?_
          refine r_aload_n e1765 ?_
          obtain ⟨v1788, hv1788⟩ : ∃ v, gI g0 1 10 = v := ⟨_, rfl⟩
          refine q_getI (Sh.int hI1786.1 kx_1 rfl) v1788 (((gI_sI_ne (by decide)).trans (hF1746.1 1 10 (by decide))).trans hv1788) ?_
          refine q_putI (Sh.int hI1786.1 kx_59 rfl) rfl ?_
          have hI1789 := HI.wI0 hI1786 kx_59 rfl (p := 59) (b := 10) (v := v1788) rfl
          have hF1790 := Fr.wI (p := 59) (b := 10) (v := v1788) hF1787 rfl
          refine r_aload_n e1764 ?_
          refine r_aload_n e1765 ?_
          obtain ⟨v1791, hv1791⟩ : ∃ v, gI g0 1 11 = v := ⟨_, rfl⟩
          refine q_getI (Sh.int hI1789.1 kx_1 rfl) v1791 (((gI_sI_ne (by decide)).trans ((gI_sI_ne (by decide)).trans (hF1746.1 1 11 (by decide)))).trans hv1791) ?_
          refine q_putI (Sh.int hI1789.1 kx_59 rfl) rfl ?_
          have hI1792 := HI.wI0 hI1789 kx_59 rfl (p := 59) (b := 11) (v := v1791) rfl
          have hF1793 := Fr.wI (p := 59) (b := 11) (v := v1791) hF1790 rfl
          refine r_aload_n e1764 ?_
          refine r_aload_n e1765 ?_
          obtain ⟨v1794, hv1794⟩ : ∃ v, gI g0 1 12 = v := ⟨_, rfl⟩
          have rv1794 := RgF.at hI0.2.1 (p := 1) (b := 12) rfl
          rw [hv1794] at rv1794
          dsimp only at rv1794
          refine q_getI (Sh.int hI1792.1 kx_1 rfl) v1794 (((gI_sI_ne (by decide)).trans ((gI_sI_ne (by decide)).trans ((gI_sI_ne (by decide)).trans (hF1746.1 1 12 (by decide))))).trans hv1794) ?_
          refine q_putI (Sh.int hI1792.1 kx_59 rfl) rfl ?_
          have hI1795 := HI.wI1 hI1792 kx_59 rfl (p := 59) (b := 12) (v := v1794) rfl (by dsimp only; omega)
          have hF1796 := Fr.wI (p := 59) (b := 12) (v := v1794) hF1793 rfl
          refine r_aload_n e1765 ?_
          refine q_getR (Sh.ref hI1795.1 kx_1 rfl) ?_
          refine r_iconst 0 rfl ?_
          refine r_aload_n e1764 ?_
          refine q_getR (Sh.ref hI1795.1 kx_59 rfl) ?_
          refine r_iconst 0 rfl ?_
          refine r_bipush 8 rfl ?_
          have zv1797 : (0 : Int32).toInt = 0 := rfl
          have zv1798 : (0 : Int32).toInt = 0 := rfl
          have zv1799 : (8 : Int32).toInt = 8 := rfl
          refine q_cpy rfl (Nat.le_of_ble_eq_true rfl) (Sh.arr hI1795.1 ka_14) (Sh.arr hI1795.1 ka_72) ⟨by omega, by omega, by omega, by omega, by omega⟩ ?_
          have hI1800 := HI.cpy0 hI1795 ka_14 ka_72 rfl rfl ((0 : Int32).toInt.toNat) ((0 : Int32).toInt.toNat) ((8 : Int32).toInt.toNat) (by omega) (by omega)
          have hF1801 := Fr.cpy (p0 := 14) (p1 := 72) hF1796 rfl ((0 : Int32).toInt.toNat) ((0 : Int32).toInt.toNat) ((8 : Int32).toInt.toNat)
          refine r_aload_n e1765 ?_
          refine q_getR (Sh.ref hI1800.1 kx_1 rfl) ?_
          refine r_iconst 0 rfl ?_
          refine r_aload_n e1764 ?_
          refine q_getR (Sh.ref hI1800.1 kx_59 rfl) ?_
          refine r_iconst 0 rfl ?_
          refine r_bipush 8 rfl ?_
          have zv1802 : (0 : Int32).toInt = 0 := rfl
          have zv1803 : (0 : Int32).toInt = 0 := rfl
          have zv1804 : (8 : Int32).toInt = 8 := rfl
          refine q_cpy rfl (Nat.le_of_ble_eq_true rfl) (Sh.arr hI1800.1 ka_15) (Sh.arr hI1800.1 ka_73) ⟨by omega, by omega, by omega, by omega, by omega⟩ ?_
          have hI1805 := HI.cpy0 hI1800 ka_15 ka_73 rfl rfl ((0 : Int32).toInt.toNat) ((0 : Int32).toInt.toNat) ((8 : Int32).toInt.toNat) (by omega) (by omega)
          have hF1806 := Fr.cpy (p0 := 15) (p1 := 73) hF1801 rfl ((0 : Int32).toInt.toNat) ((0 : Int32).toInt.toNat) ((8 : Int32).toInt.toNat)
          refine q_vret ?_
          refine At.enter rfl ?_
          refine r_aload_n rfl ?_
          refine q_getR (Sh.ref hI1805.1 kx_0 rfl) ?_
          refine r_iload_n rfl ?_
          refine r_iconst 1 rfl ?_
          refine q_bast (Sh.arr hI1805.1 ka_173) (a1.toInt) rfl (by omega) rfl ?_
          have hI1807 := HI.wA0 hI1805 ka_173 (p := 173) rfl rfl (a1.toInt) (1)
          have hF1808 := Fr.wA (p := 173) (j := a1.toInt) (v := 1) hF1806 rfl
          refine r_aload_n rfl ?_
          refine r_iconst 0 rfl ?_
          refine q_inlV 36 rfl [.ref 0, .int 0] [] (Nat.le_of_ble_eq_true rfl) rfl ?_
          refine Ev.mk rfl rfl ⟨Nat.le_of_ble_eq_true rfl, Or.inr (q_rc hI1807.1 kx_0 rfl)⟩ ?_
          show At _ none _ _ (0, [(0, .ref 0), (1, .int 0)], [], (_, _)) _
          refine At.enter rfl ?_
          refine r_aload_n rfl ?_
          refine r_iconst 0 rfl ?_
          refine q_putI (Sh.int hI1807.1 kx_0 rfl) rfl ?_
          have hI1809 := HI.wI0 hI1807 kx_0 rfl (p := 0) (b := 17) (v := 0) rfl
          have hF1810 := Fr.wI (p := 0) (b := 17) (v := 0) hF1808 rfl
          refine r_iload_n rfl ?_
          refine q_ireti ?_
          refine At.enter rfl ?_
          refine r_ireti ?_
          have zv1811 : (0 : Int32).toInt = 0 := rfl
          have e : a1.toInt = 0 := by omega
          exact ⟨_, rfl, hI1809, hF1810, _, rfl, by decide, ⟨(fun _ => ⟨(HI.eqA hI1809 (p := 173) (j := 0) (((eA_c gA_sI).trans (eA_sA_eq hI1805.1 ka_173 (by omega) (by first | decide | omega) (by first | decide | omega))))).trans rfl, (by first | rfl | decide), (HI.eqI hI1809 (p := 59) (b := 0) ((((gI_sI_ne (by decide)).trans ((gI_sW).trans ((gI_sW).trans ((gI_sW).trans ((gI_sI_ne (by decide)).trans ((gI_sI_ne (by decide)).trans ((gI_sI_ne (by decide)).trans (gI_sI_ne (by decide))))))))).trans e1750))).trans (HI.eqI hI0 (p := 1) (b := 0) (hv1496)).symm, (HI.eqI hI1809 (p := 59) (b := 12) (((gI_sI_ne (by decide)).trans ((gI_sW).trans ((gI_sW).trans ((gI_sW).trans (gI_sI_eq hI1792.1 kx_59 rfl _))))))).trans (HI.eqI hI0 (p := 1) (b := 12) (hv1794)).symm, (HI.eqI hI1809 (p := 59) (b := 10) (((gI_sI_ne (by decide)).trans ((gI_sW).trans ((gI_sW).trans ((gI_sW).trans ((gI_sI_ne (by decide)).trans ((gI_sI_ne (by decide)).trans (gI_sI_eq hI1786.1 kx_59 rfl _))))))))).trans (HI.eqI hI0 (p := 1) (b := 10) (hv1788)).symm, (HI.eqI hI1809 (p := 59) (b := 11) (((gI_sI_ne (by decide)).trans ((gI_sW).trans ((gI_sW).trans ((gI_sW).trans ((gI_sI_ne (by decide)).trans (gI_sI_eq hI1789.1 kx_59 rfl _)))))))).trans (HI.eqI hI0 (p := 1) (b := 11) (hv1791)).symm, (HI.eqI hI1809 (p := 59) (b := 6) ((((gI_sI_ne (by decide)).trans ((gI_sW).trans ((gI_sW).trans ((gI_sW).trans ((gI_sI_ne (by decide)).trans ((gI_sI_ne (by decide)).trans ((gI_sI_ne (by decide)).trans (gI_sI_ne (by decide))))))))).trans e1754))).trans (HI.eqI hI0 (p := 1) (b := 6) (hv1522)).symm, (HI.eqI hI1809 (p := 59) (b := 9) (((gI_sI_ne (by decide)).trans ((gI_sW).trans ((gI_sW).trans ((gI_sW).trans ((gI_sI_ne (by decide)).trans ((gI_sI_ne (by decide)).trans ((gI_sI_ne (by decide)).trans (gI_sI_eq hI1745.1 kx_59 rfl _)))))))))).trans (HI.eqI hI0 (p := 1) (b := 9) (hv1785)).symm⟩), (fun h => absurd e h), (fun h => absurd (e.symm.trans h) (by decide)), (fun _ => ⟨(HI.eqA hI1809 (p := 173) (j := 1) ((((eA_c gA_sI).trans ((eA_sA_ne hI1805.1 ka_173 (by first | decide | omega) (by first | decide | omega) (by first | decide | omega)).trans ((eA_c (gA_sW_ne (by decide))).trans ((eA_c (gA_sW_ne (by decide))).trans ((eA_c gA_sI).trans ((eA_c gA_sI).trans ((eA_c gA_sI).trans (eA_c gA_sI)))))))).trans e1763))).trans (HI.eqA hI0 (p := 173) (j := 1) (hv1536)).symm, (HI.eqI hI1809 (p := 116) (b := 0) ((((gI_sI_ne (by decide)).trans ((gI_sW).trans ((gI_sW).trans ((gI_sW).trans ((gI_sI_ne (by decide)).trans ((gI_sI_ne (by decide)).trans ((gI_sI_ne (by decide)).trans (gI_sI_ne (by decide))))))))).trans e1756))).trans (HI.eqI hI0 (p := 116) (b := 0) (hv1529)).symm, (HI.eqI hI1809 (p := 116) (b := 12) ((((gI_sI_ne (by decide)).trans ((gI_sW).trans ((gI_sW).trans ((gI_sW).trans ((gI_sI_ne (by decide)).trans ((gI_sI_ne (by decide)).trans ((gI_sI_ne (by decide)).trans (gI_sI_ne (by decide))))))))).trans e1759))).trans (HI.eqI hI0 (p := 116) (b := 12) (hv1532)).symm, (HI.eqI hI1809 (p := 116) (b := 10) ((((gI_sI_ne (by decide)).trans ((gI_sW).trans ((gI_sW).trans ((gI_sW).trans ((gI_sI_ne (by decide)).trans ((gI_sI_ne (by decide)).trans ((gI_sI_ne (by decide)).trans (gI_sI_ne (by decide))))))))).trans e1757))).trans (HI.eqI hI0 (p := 116) (b := 10) (hv1530)).symm, (HI.eqI hI1809 (p := 116) (b := 11) ((((gI_sI_ne (by decide)).trans ((gI_sW).trans ((gI_sW).trans ((gI_sW).trans ((gI_sI_ne (by decide)).trans ((gI_sI_ne (by decide)).trans ((gI_sI_ne (by decide)).trans (gI_sI_ne (by decide))))))))).trans e1758))).trans (HI.eqI hI0 (p := 116) (b := 11) (hv1531)).symm, (HI.eqI hI1809 (p := 116) (b := 6) ((((gI_sI_ne (by decide)).trans ((gI_sW).trans ((gI_sW).trans ((gI_sW).trans ((gI_sI_ne (by decide)).trans ((gI_sI_ne (by decide)).trans ((gI_sI_ne (by decide)).trans (gI_sI_ne (by decide))))))))).trans e1760))).trans (HI.eqI hI0 (p := 116) (b := 6) (hv1533)).symm, (HI.eqI hI1809 (p := 116) (b := 9) ((((gI_sI_ne (by decide)).trans ((gI_sW).trans ((gI_sW).trans ((gI_sW).trans ((gI_sI_ne (by decide)).trans ((gI_sI_ne (by decide)).trans ((gI_sI_ne (by decide)).trans (gI_sI_ne (by decide))))))))).trans e1761))).trans (HI.eqI hI0 (p := 116) (b := 9) (hv1534)).symm⟩), (fun h => False.elim (by omega))⟩⟩
        · have c1784_ : x1743.toInt < 6 := en_i_ge_f c1784
          refine At.enter rfl ?_
          refine r_aload_n e1764 ?_
          refine r_iload_n e1766 ?_
          refine r_callV 97 rfl [.ref 59, .int x1743] [] (Nat.le_of_ble_eq_true rfl) rfl (T_X0_lawAt_59 _ hI1745 x1743) ?_
          rintro _ _ ⟨g1812, rfl, hI1813, hF1814, v1815, rfl, hr1816⟩
          refine At.str ?_
          have hF1817 := Fr.tr hF1746 hF1814 rfl rfl
          refine At.enter rfl ?_
          refine r_aload_n e1765 ?_
          refine r_iload_n e1766 ?_
          refine r_callV 102 rfl [.ref 1, .int x1743] [.ref (v1815)] (Nat.le_of_ble_eq_true rfl) rfl (T_X0_lawAt_1 _ hI1813 x1743) ?_
          rintro _ _ ⟨g1818, rfl, hI1819, hF1820, v1821, rfl, hr1822⟩
          refine At.str ?_
          have hF1823 := Fr.tr hF1817 hF1820 rfl rfl
          refine At.enter rfl ?_
          refine r_callV 105 rfl [.ref (v1815), .ref (v1821)] [] (Nat.le_of_ble_eq_true rfl) rfl (T_X4_become_law _ hI1819 (v1815) hr1816 (v1821) hr1822) ?_
          rintro _ _ ⟨g1824, rfl, hI1825, hF1826, rfl⟩
          refine At.stn ?_
          have hF1829 := Fr.tr hF1823 hF1826 rfl rfl
          refine At.enter rfl ?_
          refine q_iinc e1766 (x1743.toInt + 1) rfl (by omega) (fun v1830 hv1830 => ?_)
          refine r_goto ?_
          exact ih1749 (6 - v1830.toInt) _ _ ⟨v1830, by first | rfl | omega, hI1825, hF1829, (((hF1826.1 59 0 mf_X4_become_law_59_0).trans ((hF1820.1 59 0 mf_X0_lawAt_1_59_0).trans (hF1814.1 59 0 mf_X0_lawAt_59_59_0))).trans e1750), (((hF1826.1 59 10 mf_X4_become_law_59_10).trans ((hF1820.1 59 10 mf_X0_lawAt_1_59_10).trans (hF1814.1 59 10 mf_X0_lawAt_59_59_10))).trans e1751), (((hF1826.1 59 11 mf_X4_become_law_59_11).trans ((hF1820.1 59 11 mf_X0_lawAt_1_59_11).trans (hF1814.1 59 11 mf_X0_lawAt_59_59_11))).trans e1752), (((hF1826.1 59 12 mf_X4_become_law_59_12).trans ((hF1820.1 59 12 mf_X0_lawAt_1_59_12).trans (hF1814.1 59 12 mf_X0_lawAt_59_59_12))).trans e1753), (((hF1826.1 59 6 mf_X4_become_law_59_6).trans ((hF1820.1 59 6 mf_X0_lawAt_1_59_6).trans (hF1814.1 59 6 mf_X0_lawAt_59_59_6))).trans e1754), (((hF1826.1 59 9 mf_X4_become_law_59_9).trans ((hF1820.1 59 9 mf_X0_lawAt_1_59_9).trans (hF1814.1 59 9 mf_X0_lawAt_59_59_9))).trans e1755), (((hF1826.1 116 0 mf_X4_become_law_116_0).trans ((hF1820.1 116 0 mf_X0_lawAt_1_116_0).trans (hF1814.1 116 0 mf_X0_lawAt_59_116_0))).trans e1756), (((hF1826.1 116 10 mf_X4_become_law_116_10).trans ((hF1820.1 116 10 mf_X0_lawAt_1_116_10).trans (hF1814.1 116 10 mf_X0_lawAt_59_116_10))).trans e1757), (((hF1826.1 116 11 mf_X4_become_law_116_11).trans ((hF1820.1 116 11 mf_X0_lawAt_1_116_11).trans (hF1814.1 116 11 mf_X0_lawAt_59_116_11))).trans e1758), (((hF1826.1 116 12 mf_X4_become_law_116_12).trans ((hF1820.1 116 12 mf_X0_lawAt_1_116_12).trans (hF1814.1 116 12 mf_X0_lawAt_59_116_12))).trans e1759), (((hF1826.1 116 6 mf_X4_become_law_116_6).trans ((hF1820.1 116 6 mf_X0_lawAt_1_116_6).trans (hF1814.1 116 6 mf_X0_lawAt_59_116_6))).trans e1760), (((hF1826.1 116 9 mf_X4_become_law_116_9).trans ((hF1820.1 116 9 mf_X0_lawAt_1_116_9).trans (hF1814.1 116 9 mf_X0_lawAt_59_116_9))).trans e1761), (((eA_c (hF1826.2.1 173 ma_X4_become_law_173)).trans ((eA_c (hF1820.2.1 173 ma_X0_lawAt_1_173)).trans (eA_c (hF1814.2.1 173 ma_X0_lawAt_59_173)))).trans e1762), (((eA_c (hF1826.2.1 173 ma_X4_become_law_173)).trans ((eA_c (hF1820.2.1 173 ma_X0_lawAt_1_173)).trans (eA_c (hF1814.2.1 173 ma_X0_lawAt_59_173)))).trans e1763), (w_p1 (by decide) (Or.inr rfl) e1764), (w_p1 (by decide) (Or.inr rfl) e1765), (w_e1 _ _ _), by omega⟩ ⟨by omega, by omega⟩
      have c1495_1 : a1.toInt = 1 := by omega
      refine q_aald (Sh.rar hI0.1 ka_58) (by decide) 1 (by omega) (by decide) (some 116) rfl ?_
      refine r_goto ?_
      refine At.enter rfl ?_
      refine q_aret ?_
      refine At.enter rfl ?_
      refine r_astore_n ([(2, .ref 116), (0, .ref 0), (1, .int a1)]) rfl ?_
      refine r_aload_n rfl ?_
      refine r_nnr ?_
      refine At.enter rfl ?_
      refine r_aload_n rfl ?_
      refine r_aload_n rfl ?_
      refine q_getR (Sh.ref hI0.1 kx_0 rfl) ?_
      refine q_inlV 24 rfl [.ref 116, .ref 1] [] (Nat.le_of_ble_eq_true rfl) rfl ?_
      refine Ev.mk rfl rfl ⟨Nat.le_of_ble_eq_true rfl, Or.inr (q_rc hI0.1 kx_116 rfl)⟩ ?_
      show At _ none _ _ (0, [(0, .ref 116), (1, .ref 1)], [], (_, _)) _
      refine At.enter rfl ?_
      refine r_aload_n rfl ?_
      refine r_aload_n rfl ?_
      obtain ⟨v1831, hv1831⟩ : ∃ v, gI g0 1 0 = v := ⟨_, rfl⟩
      have rv1831 := RgF.at hI0.2.1 (p := 1) (b := 0) rfl
      rw [hv1831] at rv1831
      dsimp only at rv1831
      refine q_getI (Sh.int hI0.1 kx_1 rfl) v1831 hv1831 ?_
      refine q_putI (Sh.int hI0.1 kx_116 rfl) rfl ?_
      have hI1832 := HI.wI1 hI0 kx_116 rfl (p := 116) (b := 0) (v := v1831) rfl (by dsimp only; omega)
      have hF1833 := Fr.wI (p := 116) (b := 0) (v := v1831) hF0 rfl
      refine r_aload_n rfl ?_
      refine q_getR (Sh.ref hI1832.1 kx_1 rfl) ?_
      refine r_iconst 0 rfl ?_
      refine r_aload_n rfl ?_
      refine q_getR (Sh.ref hI1832.1 kx_116 rfl) ?_
      refine r_iconst 0 rfl ?_
      refine r_bipush 12 rfl ?_
      have zv1834 : (0 : Int32).toInt = 0 := rfl
      have zv1835 : (0 : Int32).toInt = 0 := rfl
      have zv1836 : (12 : Int32).toInt = 12 := rfl
      refine q_cpy rfl (Nat.le_of_ble_eq_true rfl) (Sh.arr hI1832.1 ka_2) (Sh.arr hI1832.1 ka_117) ⟨by omega, by omega, by omega, by omega, by omega⟩ ?_
      have hI1837 := HI.cpy0 hI1832 ka_2 ka_117 rfl rfl ((0 : Int32).toInt.toNat) ((0 : Int32).toInt.toNat) ((12 : Int32).toInt.toNat) (by omega) (by omega)
      have hF1838 := Fr.cpy (p0 := 2) (p1 := 117) hF1833 rfl ((0 : Int32).toInt.toNat) ((0 : Int32).toInt.toNat) ((12 : Int32).toInt.toNat)
      refine r_aload_n rfl ?_
      refine q_getR (Sh.ref hI1837.1 kx_1 rfl) ?_
      refine r_iconst 0 rfl ?_
      refine r_aload_n rfl ?_
      refine q_getR (Sh.ref hI1837.1 kx_116 rfl) ?_
      refine r_iconst 0 rfl ?_
      refine r_bipush 12 rfl ?_
      have zv1839 : (0 : Int32).toInt = 0 := rfl
      have zv1840 : (0 : Int32).toInt = 0 := rfl
      have zv1841 : (12 : Int32).toInt = 12 := rfl
      refine q_cpy rfl (Nat.le_of_ble_eq_true rfl) (Sh.arr hI1837.1 ka_3) (Sh.arr hI1837.1 ka_118) ⟨by omega, by omega, by omega, by omega, by omega⟩ ?_
      have hI1842 := HI.cpy0 hI1837 ka_3 ka_118 rfl rfl ((0 : Int32).toInt.toNat) ((0 : Int32).toInt.toNat) ((12 : Int32).toInt.toNat) (by omega) (by omega)
      have hF1843 := Fr.cpy (p0 := 3) (p1 := 118) hF1838 rfl ((0 : Int32).toInt.toNat) ((0 : Int32).toInt.toNat) ((12 : Int32).toInt.toNat)
      refine r_aload_n rfl ?_
      refine q_getR (Sh.ref hI1842.1 kx_1 rfl) ?_
      refine r_iconst 0 rfl ?_
      refine r_aload_n rfl ?_
      refine q_getR (Sh.ref hI1842.1 kx_116 rfl) ?_
      refine r_iconst 0 rfl ?_
      refine r_bipush 12 rfl ?_
      have zv1844 : (0 : Int32).toInt = 0 := rfl
      have zv1845 : (0 : Int32).toInt = 0 := rfl
      have zv1846 : (12 : Int32).toInt = 12 := rfl
      refine q_cpy rfl (Nat.le_of_ble_eq_true rfl) (Sh.arr hI1842.1 ka_4) (Sh.arr hI1842.1 ka_119) ⟨by omega, by omega, by omega, by omega, by omega⟩ ?_
      have hI1847 := HI.cpy0 hI1842 ka_4 ka_119 rfl rfl ((0 : Int32).toInt.toNat) ((0 : Int32).toInt.toNat) ((12 : Int32).toInt.toNat) (by omega) (by omega)
      have hF1848 := Fr.cpy (p0 := 4) (p1 := 119) hF1843 rfl ((0 : Int32).toInt.toNat) ((0 : Int32).toInt.toNat) ((12 : Int32).toInt.toNat)
      refine r_aload_n rfl ?_
      refine r_aload_n rfl ?_
      obtain ⟨v1849, hv1849⟩ : ∃ v, gI g0 1 4 = v := ⟨_, rfl⟩
      have rv1849 := RgF.at hI0.2.1 (p := 1) (b := 4) rfl
      rw [hv1849] at rv1849
      dsimp only at rv1849
      refine q_getI (Sh.int hI1847.1 kx_1 rfl) v1849 (((gI_sW).trans ((gI_sW).trans ((gI_sW).trans (gI_sI_ne (by decide))))).trans hv1849) ?_
      refine q_putI (Sh.int hI1847.1 kx_116 rfl) rfl ?_
      have hI1850 := HI.wI1 hI1847 kx_116 rfl (p := 116) (b := 4) (v := v1849) rfl (by dsimp only; omega)
      have hF1851 := Fr.wI (p := 116) (b := 4) (v := v1849) hF1848 rfl
      refine r_aload_n rfl ?_
      refine q_getR (Sh.ref hI1850.1 kx_1 rfl) ?_
      refine r_iconst 0 rfl ?_
      refine r_aload_n rfl ?_
      refine q_getR (Sh.ref hI1850.1 kx_116 rfl) ?_
      refine r_iconst 0 rfl ?_
      refine r_bipush 48 rfl ?_
      have zv1852 : (0 : Int32).toInt = 0 := rfl
      have zv1853 : (0 : Int32).toInt = 0 := rfl
      have zv1854 : (48 : Int32).toInt = 48 := rfl
      refine q_cpy rfl (Nat.le_of_ble_eq_true rfl) (Sh.arr hI1850.1 ka_5) (Sh.arr hI1850.1 ka_120) ⟨by omega, by omega, by omega, by omega, by omega⟩ ?_
      have hI1855 := HI.cpy0 hI1850 ka_5 ka_120 rfl rfl ((0 : Int32).toInt.toNat) ((0 : Int32).toInt.toNat) ((48 : Int32).toInt.toNat) (by omega) (by omega)
      have hF1856 := Fr.cpy (p0 := 5) (p1 := 120) hF1851 rfl ((0 : Int32).toInt.toNat) ((0 : Int32).toInt.toNat) ((48 : Int32).toInt.toNat)
      refine r_aload_n rfl ?_
      refine r_aload_n rfl ?_
      obtain ⟨v1857, hv1857⟩ : ∃ v, gI g0 1 6 = v := ⟨_, rfl⟩
      have rv1857 := RgF.at hI0.2.1 (p := 1) (b := 6) rfl
      rw [hv1857] at rv1857
      dsimp only at rv1857
      refine q_getI (Sh.int hI1855.1 kx_1 rfl) v1857 (((gI_sW).trans ((gI_sI_ne (by decide)).trans ((gI_sW).trans ((gI_sW).trans ((gI_sW).trans (gI_sI_ne (by decide))))))).trans hv1857) ?_
      refine q_putI (Sh.int hI1855.1 kx_116 rfl) rfl ?_
      have hI1858 := HI.wI1 hI1855 kx_116 rfl (p := 116) (b := 6) (v := v1857) rfl (by dsimp only; omega)
      have hF1859 := Fr.wI (p := 116) (b := 6) (v := v1857) hF1856 rfl
      refine r_iconst 0 rfl ?_
      refine r_istore_n ([(2, .int 0), (0, .ref 116), (1, .ref 1)]) rfl ?_
      refine Ar.fall 86 rfl ?_
      obtain ⟨v1860, hv1860⟩ : ∃ v, gI g0 59 0 = v := ⟨_, rfl⟩
      have rv1860 := RgF.at hI0.2.1 (p := 59) (b := 0) rfl
      rw [hv1860] at rv1860
      dsimp only at rv1860
      have tv1860 := congrArg Int32.toInt hv1860
      obtain ⟨v1861, hv1861⟩ : ∃ v, gI g0 59 10 = v := ⟨_, rfl⟩
      have tv1861 := congrArg Int32.toInt hv1861
      obtain ⟨v1862, hv1862⟩ : ∃ v, gI g0 59 11 = v := ⟨_, rfl⟩
      have tv1862 := congrArg Int32.toInt hv1862
      obtain ⟨v1863, hv1863⟩ : ∃ v, gI g0 59 12 = v := ⟨_, rfl⟩
      have rv1863 := RgF.at hI0.2.1 (p := 59) (b := 12) rfl
      rw [hv1863] at rv1863
      dsimp only at rv1863
      have tv1863 := congrArg Int32.toInt hv1863
      obtain ⟨v1864, hv1864⟩ : ∃ v, gI g0 59 6 = v := ⟨_, rfl⟩
      have rv1864 := RgF.at hI0.2.1 (p := 59) (b := 6) rfl
      rw [hv1864] at rv1864
      dsimp only at rv1864
      have tv1864 := congrArg Int32.toInt hv1864
      obtain ⟨v1865, hv1865⟩ : ∃ v, gI g0 59 9 = v := ⟨_, rfl⟩
      have tv1865 := congrArg Int32.toInt hv1865
      obtain ⟨v1866, hv1866⟩ : ∃ v, gI g0 116 10 = v := ⟨_, rfl⟩
      have tv1866 := congrArg Int32.toInt hv1866
      obtain ⟨v1867, hv1867⟩ : ∃ v, gI g0 116 11 = v := ⟨_, rfl⟩
      have tv1867 := congrArg Int32.toInt hv1867
      obtain ⟨v1868, hv1868⟩ : ∃ v, gI g0 116 12 = v := ⟨_, rfl⟩
      have rv1868 := RgF.at hI0.2.1 (p := 116) (b := 12) rfl
      rw [hv1868] at rv1868
      dsimp only at rv1868
      have tv1868 := congrArg Int32.toInt hv1868
      obtain ⟨v1869, hv1869⟩ : ∃ v, gI g0 116 9 = v := ⟨_, rfl⟩
      have tv1869 := congrArg Int32.toInt hv1869
      obtain ⟨v1870, hv1870⟩ : ∃ v, eA g0 173 0 = v := ⟨_, rfl⟩
      have tv1870 := congrArg Int32.toInt hv1870
      obtain ⟨v1871, hv1871⟩ : ∃ v, eA g0 173 1 = v := ⟨_, rfl⟩
      have tv1871 := congrArg Int32.toInt hv1871
      have z_2103 : (0 : Int32).toInt = 0 := rfl
      refine w_loopI (fun n_ l_ g_ => ∃ x2078 : Int32, n_ = 6 - x2078.toInt ∧ HI g_ ∧ Fr F_X10_image_0 A_X10_image_0 g0 g_ ∧ gI g_ 59 0 = v1860 ∧ gI g_ 59 10 = v1861 ∧ gI g_ 59 11 = v1862 ∧ gI g_ 59 12 = v1863 ∧ gI g_ 59 6 = v1864 ∧ gI g_ 59 9 = v1865 ∧ gI g_ 116 0 = v1831 ∧ gI g_ 116 10 = v1866 ∧ gI g_ 116 11 = v1867 ∧ gI g_ 116 12 = v1868 ∧ gI g_ 116 6 = v1857 ∧ gI g_ 116 9 = v1869 ∧ eA g_ 173 0 = v1870 ∧ eA g_ 173 1 = v1871 ∧ en_get 0 l_ = some (.ref 116) ∧ en_get 1 l_ = some (.ref 1) ∧ en_get 2 l_ = some (.int x2078) ∧ (0 ≤ x2078.toInt ∧ x2078.toInt ≤ 6)) ?_ (6 - 0) ⟨0, by first | rfl | omega, hI1858, hF1859, (((gI_sI_ne (by decide)).trans ((gI_sW).trans ((gI_sI_ne (by decide)).trans ((gI_sW).trans ((gI_sW).trans ((gI_sW).trans (gI_sI_ne (by decide)))))))).trans hv1860), (((gI_sI_ne (by decide)).trans ((gI_sW).trans ((gI_sI_ne (by decide)).trans ((gI_sW).trans ((gI_sW).trans ((gI_sW).trans (gI_sI_ne (by decide)))))))).trans hv1861), (((gI_sI_ne (by decide)).trans ((gI_sW).trans ((gI_sI_ne (by decide)).trans ((gI_sW).trans ((gI_sW).trans ((gI_sW).trans (gI_sI_ne (by decide)))))))).trans hv1862), (((gI_sI_ne (by decide)).trans ((gI_sW).trans ((gI_sI_ne (by decide)).trans ((gI_sW).trans ((gI_sW).trans ((gI_sW).trans (gI_sI_ne (by decide)))))))).trans hv1863), (((gI_sI_ne (by decide)).trans ((gI_sW).trans ((gI_sI_ne (by decide)).trans ((gI_sW).trans ((gI_sW).trans ((gI_sW).trans (gI_sI_ne (by decide)))))))).trans hv1864), (((gI_sI_ne (by decide)).trans ((gI_sW).trans ((gI_sI_ne (by decide)).trans ((gI_sW).trans ((gI_sW).trans ((gI_sW).trans (gI_sI_ne (by decide)))))))).trans hv1865), ((gI_sI_ne (by decide)).trans ((gI_sW).trans ((gI_sI_ne (by decide)).trans ((gI_sW).trans ((gI_sW).trans ((gI_sW).trans (gI_sI_eq hI0.1 kx_116 rfl _))))))), (((gI_sI_ne (by decide)).trans ((gI_sW).trans ((gI_sI_ne (by decide)).trans ((gI_sW).trans ((gI_sW).trans ((gI_sW).trans (gI_sI_ne (by decide)))))))).trans hv1866), (((gI_sI_ne (by decide)).trans ((gI_sW).trans ((gI_sI_ne (by decide)).trans ((gI_sW).trans ((gI_sW).trans ((gI_sW).trans (gI_sI_ne (by decide)))))))).trans hv1867), (((gI_sI_ne (by decide)).trans ((gI_sW).trans ((gI_sI_ne (by decide)).trans ((gI_sW).trans ((gI_sW).trans ((gI_sW).trans (gI_sI_ne (by decide)))))))).trans hv1868), (gI_sI_eq hI1855.1 kx_116 rfl _), (((gI_sI_ne (by decide)).trans ((gI_sW).trans ((gI_sI_ne (by decide)).trans ((gI_sW).trans ((gI_sW).trans ((gI_sW).trans (gI_sI_ne (by decide)))))))).trans hv1869), (((eA_c gA_sI).trans ((eA_c (gA_sW_ne (by decide))).trans ((eA_c gA_sI).trans ((eA_c (gA_sW_ne (by decide))).trans ((eA_c (gA_sW_ne (by decide))).trans ((eA_c (gA_sW_ne (by decide))).trans (eA_c gA_sI))))))).trans hv1870), (((eA_c gA_sI).trans ((eA_c (gA_sW_ne (by decide))).trans ((eA_c gA_sI).trans ((eA_c (gA_sW_ne (by decide))).trans ((eA_c (gA_sW_ne (by decide))).trans ((eA_c (gA_sW_ne (by decide))).trans (eA_c gA_sI))))))).trans hv1871), rfl, rfl, rfl, by decide⟩
      rintro n2083 l2082 g2079 ⟨x2078, hm2104, hI2080, hF2081, e2085, e2086, e2087, e2088, e2089, e2090, e2091, e2092, e2093, e2094, e2095, e2096, e2097, e2098, e2099, e2100, e2101, r2102⟩ ih2084
      have tv2105 := congrArg Int32.toInt e2097
      have tv2106 := congrArg Int32.toInt e2098
      have tv2107 := congrArg Int32.toInt e2085
      have tv2108 := congrArg Int32.toInt e2086
      have tv2109 := congrArg Int32.toInt e2087
      have tv2110 := congrArg Int32.toInt e2088
      have tv2111 := congrArg Int32.toInt e2089
      have tv2112 := congrArg Int32.toInt e2090
      have tv2113 := congrArg Int32.toInt e2091
      have tv2114 := congrArg Int32.toInt e2092
      have tv2115 := congrArg Int32.toInt e2093
      have tv2116 := congrArg Int32.toInt e2094
      have tv2117 := congrArg Int32.toInt e2095
      have tv2118 := congrArg Int32.toInt e2096
      refine At.enter rfl ?_
      refine r_iload_n e2101 ?_
      refine r_bipush 6 rfl ?_
      refine r_ics 92 rfl (fun c2119 => ?_) (fun c2119 => ?_)
      · have c2119_ : x2078.toInt ≥ 6 := en_i_ge_t c2119
        refine At.enter rfl ?_
        refine r_aload_n e2099 ?_
        refine r_aload_n e2100 ?_
        obtain ⟨v2120, hv2120⟩ : ∃ v, gI g0 1 9 = v := ⟨_, rfl⟩
        refine q_getI (Sh.int hI2080.1 kx_1 rfl) v2120 ((hF2081.1 1 9 (by decide)).trans hv2120) ?_
        refine q_putI (Sh.int hI2080.1 kx_116 rfl) rfl ?_
        have hI2121 := HI.wI0 hI2080 kx_116 rfl (p := 116) (b := 9) (v := v2120) rfl
        have hF2122 := Fr.wI (p := 116) (b := 9) (v := v2120) hF2081 rfl
        refine r_aload_n e2099 ?_
        refine r_aload_n e2100 ?_
        obtain ⟨v2123, hv2123⟩ : ∃ v, gI g0 1 10 = v := ⟨_, rfl⟩
        refine q_getI (Sh.int hI2121.1 kx_1 rfl) v2123 (((gI_sI_ne (by decide)).trans (hF2081.1 1 10 (by decide))).trans hv2123) ?_
        refine q_putI (Sh.int hI2121.1 kx_116 rfl) rfl ?_
        have hI2124 := HI.wI0 hI2121 kx_116 rfl (p := 116) (b := 10) (v := v2123) rfl
        have hF2125 := Fr.wI (p := 116) (b := 10) (v := v2123) hF2122 rfl
        refine r_aload_n e2099 ?_
        refine r_aload_n e2100 ?_
        obtain ⟨v2126, hv2126⟩ : ∃ v, gI g0 1 11 = v := ⟨_, rfl⟩
        refine q_getI (Sh.int hI2124.1 kx_1 rfl) v2126 (((gI_sI_ne (by decide)).trans ((gI_sI_ne (by decide)).trans (hF2081.1 1 11 (by decide)))).trans hv2126) ?_
        refine q_putI (Sh.int hI2124.1 kx_116 rfl) rfl ?_
        have hI2127 := HI.wI0 hI2124 kx_116 rfl (p := 116) (b := 11) (v := v2126) rfl
        have hF2128 := Fr.wI (p := 116) (b := 11) (v := v2126) hF2125 rfl
        refine r_aload_n e2099 ?_
        refine r_aload_n e2100 ?_
        obtain ⟨v2129, hv2129⟩ : ∃ v, gI g0 1 12 = v := ⟨_, rfl⟩
        have rv2129 := RgF.at hI0.2.1 (p := 1) (b := 12) rfl
        rw [hv2129] at rv2129
        dsimp only at rv2129
        refine q_getI (Sh.int hI2127.1 kx_1 rfl) v2129 (((gI_sI_ne (by decide)).trans ((gI_sI_ne (by decide)).trans ((gI_sI_ne (by decide)).trans (hF2081.1 1 12 (by decide))))).trans hv2129) ?_
        refine q_putI (Sh.int hI2127.1 kx_116 rfl) rfl ?_
        have hI2130 := HI.wI1 hI2127 kx_116 rfl (p := 116) (b := 12) (v := v2129) rfl (by dsimp only; omega)
        have hF2131 := Fr.wI (p := 116) (b := 12) (v := v2129) hF2128 rfl
        refine r_aload_n e2100 ?_
        refine q_getR (Sh.ref hI2130.1 kx_1 rfl) ?_
        refine r_iconst 0 rfl ?_
        refine r_aload_n e2099 ?_
        refine q_getR (Sh.ref hI2130.1 kx_116 rfl) ?_
        refine r_iconst 0 rfl ?_
        refine r_bipush 8 rfl ?_
        have zv2132 : (0 : Int32).toInt = 0 := rfl
        have zv2133 : (0 : Int32).toInt = 0 := rfl
        have zv2134 : (8 : Int32).toInt = 8 := rfl
        refine q_cpy rfl (Nat.le_of_ble_eq_true rfl) (Sh.arr hI2130.1 ka_14) (Sh.arr hI2130.1 ka_129) ⟨by omega, by omega, by omega, by omega, by omega⟩ ?_
        have hI2135 := HI.cpy0 hI2130 ka_14 ka_129 rfl rfl ((0 : Int32).toInt.toNat) ((0 : Int32).toInt.toNat) ((8 : Int32).toInt.toNat) (by omega) (by omega)
        have hF2136 := Fr.cpy (p0 := 14) (p1 := 129) hF2131 rfl ((0 : Int32).toInt.toNat) ((0 : Int32).toInt.toNat) ((8 : Int32).toInt.toNat)
        refine r_aload_n e2100 ?_
        refine q_getR (Sh.ref hI2135.1 kx_1 rfl) ?_
        refine r_iconst 0 rfl ?_
        refine r_aload_n e2099 ?_
        refine q_getR (Sh.ref hI2135.1 kx_116 rfl) ?_
        refine r_iconst 0 rfl ?_
        refine r_bipush 8 rfl ?_
        have zv2137 : (0 : Int32).toInt = 0 := rfl
        have zv2138 : (0 : Int32).toInt = 0 := rfl
        have zv2139 : (8 : Int32).toInt = 8 := rfl
        refine q_cpy rfl (Nat.le_of_ble_eq_true rfl) (Sh.arr hI2135.1 ka_15) (Sh.arr hI2135.1 ka_130) ⟨by omega, by omega, by omega, by omega, by omega⟩ ?_
        have hI2140 := HI.cpy0 hI2135 ka_15 ka_130 rfl rfl ((0 : Int32).toInt.toNat) ((0 : Int32).toInt.toNat) ((8 : Int32).toInt.toNat) (by omega) (by omega)
        have hF2141 := Fr.cpy (p0 := 15) (p1 := 130) hF2136 rfl ((0 : Int32).toInt.toNat) ((0 : Int32).toInt.toNat) ((8 : Int32).toInt.toNat)
        refine q_vret ?_
        refine At.enter rfl ?_
        refine r_aload_n rfl ?_
        refine q_getR (Sh.ref hI2140.1 kx_0 rfl) ?_
        refine r_iload_n rfl ?_
        refine r_iconst 1 rfl ?_
        refine q_bast (Sh.arr hI2140.1 ka_173) (a1.toInt) rfl (by omega) rfl ?_
        have hI2142 := HI.wA0 hI2140 ka_173 (p := 173) rfl rfl (a1.toInt) (1)
        have hF2143 := Fr.wA (p := 173) (j := a1.toInt) (v := 1) hF2141 rfl
        refine r_aload_n rfl ?_
        refine r_iconst 0 rfl ?_
        refine q_inlV 36 rfl [.ref 0, .int 0] [] (Nat.le_of_ble_eq_true rfl) rfl ?_
        refine Ev.mk rfl rfl ⟨Nat.le_of_ble_eq_true rfl, Or.inr (q_rc hI2142.1 kx_0 rfl)⟩ ?_
        show At _ none _ _ (0, [(0, .ref 0), (1, .int 0)], [], (_, _)) _
        refine At.enter rfl ?_
        refine r_aload_n rfl ?_
        refine r_iconst 0 rfl ?_
        refine q_putI (Sh.int hI2142.1 kx_0 rfl) rfl ?_
        have hI2144 := HI.wI0 hI2142 kx_0 rfl (p := 0) (b := 17) (v := 0) rfl
        have hF2145 := Fr.wI (p := 0) (b := 17) (v := 0) hF2143 rfl
        refine r_iload_n rfl ?_
        refine q_ireti ?_
        refine At.enter rfl ?_
        refine r_ireti ?_
        have zv2146 : (0 : Int32).toInt = 0 := rfl
        have e : a1.toInt = 1 := by omega
        exact ⟨_, rfl, hI2144, hF2145, _, rfl, by decide, ⟨(fun h => absurd (e.symm.trans h) (by decide)), (fun _ => ⟨(HI.eqA hI2144 (p := 173) (j := 0) ((((eA_c gA_sI).trans ((eA_sA_ne hI2140.1 ka_173 (by first | decide | omega) (by first | decide | omega) (by first | decide | omega)).trans ((eA_c (gA_sW_ne (by decide))).trans ((eA_c (gA_sW_ne (by decide))).trans ((eA_c gA_sI).trans ((eA_c gA_sI).trans ((eA_c gA_sI).trans (eA_c gA_sI)))))))).trans e2097))).trans (HI.eqA hI0 (p := 173) (j := 0) (hv1870)).symm, (HI.eqI hI2144 (p := 59) (b := 0) ((((gI_sI_ne (by decide)).trans ((gI_sW).trans ((gI_sW).trans ((gI_sW).trans ((gI_sI_ne (by decide)).trans ((gI_sI_ne (by decide)).trans ((gI_sI_ne (by decide)).trans (gI_sI_ne (by decide))))))))).trans e2085))).trans (HI.eqI hI0 (p := 59) (b := 0) (hv1860)).symm, (HI.eqI hI2144 (p := 59) (b := 12) ((((gI_sI_ne (by decide)).trans ((gI_sW).trans ((gI_sW).trans ((gI_sW).trans ((gI_sI_ne (by decide)).trans ((gI_sI_ne (by decide)).trans ((gI_sI_ne (by decide)).trans (gI_sI_ne (by decide))))))))).trans e2088))).trans (HI.eqI hI0 (p := 59) (b := 12) (hv1863)).symm, (HI.eqI hI2144 (p := 59) (b := 10) ((((gI_sI_ne (by decide)).trans ((gI_sW).trans ((gI_sW).trans ((gI_sW).trans ((gI_sI_ne (by decide)).trans ((gI_sI_ne (by decide)).trans ((gI_sI_ne (by decide)).trans (gI_sI_ne (by decide))))))))).trans e2086))).trans (HI.eqI hI0 (p := 59) (b := 10) (hv1861)).symm, (HI.eqI hI2144 (p := 59) (b := 11) ((((gI_sI_ne (by decide)).trans ((gI_sW).trans ((gI_sW).trans ((gI_sW).trans ((gI_sI_ne (by decide)).trans ((gI_sI_ne (by decide)).trans ((gI_sI_ne (by decide)).trans (gI_sI_ne (by decide))))))))).trans e2087))).trans (HI.eqI hI0 (p := 59) (b := 11) (hv1862)).symm, (HI.eqI hI2144 (p := 59) (b := 6) ((((gI_sI_ne (by decide)).trans ((gI_sW).trans ((gI_sW).trans ((gI_sW).trans ((gI_sI_ne (by decide)).trans ((gI_sI_ne (by decide)).trans ((gI_sI_ne (by decide)).trans (gI_sI_ne (by decide))))))))).trans e2089))).trans (HI.eqI hI0 (p := 59) (b := 6) (hv1864)).symm, (HI.eqI hI2144 (p := 59) (b := 9) ((((gI_sI_ne (by decide)).trans ((gI_sW).trans ((gI_sW).trans ((gI_sW).trans ((gI_sI_ne (by decide)).trans ((gI_sI_ne (by decide)).trans ((gI_sI_ne (by decide)).trans (gI_sI_ne (by decide))))))))).trans e2090))).trans (HI.eqI hI0 (p := 59) (b := 9) (hv1865)).symm⟩), (fun _ => ⟨(HI.eqA hI2144 (p := 173) (j := 1) (((eA_c gA_sI).trans (eA_sA_eq hI2140.1 ka_173 (by omega) (by first | decide | omega) (by first | decide | omega))))).trans rfl, (by first | rfl | decide), (HI.eqI hI2144 (p := 116) (b := 0) ((((gI_sI_ne (by decide)).trans ((gI_sW).trans ((gI_sW).trans ((gI_sW).trans ((gI_sI_ne (by decide)).trans ((gI_sI_ne (by decide)).trans ((gI_sI_ne (by decide)).trans (gI_sI_ne (by decide))))))))).trans e2091))).trans (HI.eqI hI0 (p := 1) (b := 0) (hv1831)).symm, (HI.eqI hI2144 (p := 116) (b := 12) (((gI_sI_ne (by decide)).trans ((gI_sW).trans ((gI_sW).trans ((gI_sW).trans (gI_sI_eq hI2127.1 kx_116 rfl _))))))).trans (HI.eqI hI0 (p := 1) (b := 12) (hv2129)).symm, (HI.eqI hI2144 (p := 116) (b := 10) (((gI_sI_ne (by decide)).trans ((gI_sW).trans ((gI_sW).trans ((gI_sW).trans ((gI_sI_ne (by decide)).trans ((gI_sI_ne (by decide)).trans (gI_sI_eq hI2121.1 kx_116 rfl _))))))))).trans (HI.eqI hI0 (p := 1) (b := 10) (hv2123)).symm, (HI.eqI hI2144 (p := 116) (b := 11) (((gI_sI_ne (by decide)).trans ((gI_sW).trans ((gI_sW).trans ((gI_sW).trans ((gI_sI_ne (by decide)).trans (gI_sI_eq hI2124.1 kx_116 rfl _)))))))).trans (HI.eqI hI0 (p := 1) (b := 11) (hv2126)).symm, (HI.eqI hI2144 (p := 116) (b := 6) ((((gI_sI_ne (by decide)).trans ((gI_sW).trans ((gI_sW).trans ((gI_sW).trans ((gI_sI_ne (by decide)).trans ((gI_sI_ne (by decide)).trans ((gI_sI_ne (by decide)).trans (gI_sI_ne (by decide))))))))).trans e2095))).trans (HI.eqI hI0 (p := 1) (b := 6) (hv1857)).symm, (HI.eqI hI2144 (p := 116) (b := 9) (((gI_sI_ne (by decide)).trans ((gI_sW).trans ((gI_sW).trans ((gI_sW).trans ((gI_sI_ne (by decide)).trans ((gI_sI_ne (by decide)).trans ((gI_sI_ne (by decide)).trans (gI_sI_eq hI2080.1 kx_116 rfl _)))))))))).trans (HI.eqI hI0 (p := 1) (b := 9) (hv2120)).symm⟩), (fun h => absurd e h), (fun h => False.elim (by omega))⟩⟩
      · have c2119_ : x2078.toInt < 6 := en_i_ge_f c2119
        refine At.enter rfl ?_
        refine r_aload_n e2099 ?_
        refine r_iload_n e2101 ?_
        refine r_callV 97 rfl [.ref 116, .int x2078] [] (Nat.le_of_ble_eq_true rfl) rfl (T_X0_lawAt_116 _ hI2080 x2078) ?_
        rintro _ _ ⟨g2147, rfl, hI2148, hF2149, v2150, rfl, hr2151⟩
        refine At.str ?_
        have hF2152 := Fr.tr hF2081 hF2149 rfl rfl
        refine At.enter rfl ?_
        refine r_aload_n e2100 ?_
        refine r_iload_n e2101 ?_
        refine r_callV 102 rfl [.ref 1, .int x2078] [.ref (v2150)] (Nat.le_of_ble_eq_true rfl) rfl (T_X0_lawAt_1 _ hI2148 x2078) ?_
        rintro _ _ ⟨g2153, rfl, hI2154, hF2155, v2156, rfl, hr2157⟩
        refine At.str ?_
        have hF2158 := Fr.tr hF2152 hF2155 rfl rfl
        refine At.enter rfl ?_
        refine r_callV 105 rfl [.ref (v2150), .ref (v2156)] [] (Nat.le_of_ble_eq_true rfl) rfl (T_X4_become_law _ hI2154 (v2150) hr2151 (v2156) hr2157) ?_
        rintro _ _ ⟨g2159, rfl, hI2160, hF2161, rfl⟩
        refine At.stn ?_
        have hF2164 := Fr.tr hF2158 hF2161 rfl rfl
        refine At.enter rfl ?_
        refine q_iinc e2101 (x2078.toInt + 1) rfl (by omega) (fun v2165 hv2165 => ?_)
        refine r_goto ?_
        exact ih2084 (6 - v2165.toInt) _ _ ⟨v2165, by first | rfl | omega, hI2160, hF2164, (((hF2161.1 59 0 mf_X4_become_law_59_0).trans ((hF2155.1 59 0 mf_X0_lawAt_1_59_0).trans (hF2149.1 59 0 mf_X0_lawAt_116_59_0))).trans e2085), (((hF2161.1 59 10 mf_X4_become_law_59_10).trans ((hF2155.1 59 10 mf_X0_lawAt_1_59_10).trans (hF2149.1 59 10 mf_X0_lawAt_116_59_10))).trans e2086), (((hF2161.1 59 11 mf_X4_become_law_59_11).trans ((hF2155.1 59 11 mf_X0_lawAt_1_59_11).trans (hF2149.1 59 11 mf_X0_lawAt_116_59_11))).trans e2087), (((hF2161.1 59 12 mf_X4_become_law_59_12).trans ((hF2155.1 59 12 mf_X0_lawAt_1_59_12).trans (hF2149.1 59 12 mf_X0_lawAt_116_59_12))).trans e2088), (((hF2161.1 59 6 mf_X4_become_law_59_6).trans ((hF2155.1 59 6 mf_X0_lawAt_1_59_6).trans (hF2149.1 59 6 mf_X0_lawAt_116_59_6))).trans e2089), (((hF2161.1 59 9 mf_X4_become_law_59_9).trans ((hF2155.1 59 9 mf_X0_lawAt_1_59_9).trans (hF2149.1 59 9 mf_X0_lawAt_116_59_9))).trans e2090), (((hF2161.1 116 0 mf_X4_become_law_116_0).trans ((hF2155.1 116 0 mf_X0_lawAt_1_116_0).trans (hF2149.1 116 0 mf_X0_lawAt_116_116_0))).trans e2091), (((hF2161.1 116 10 mf_X4_become_law_116_10).trans ((hF2155.1 116 10 mf_X0_lawAt_1_116_10).trans (hF2149.1 116 10 mf_X0_lawAt_116_116_10))).trans e2092), (((hF2161.1 116 11 mf_X4_become_law_116_11).trans ((hF2155.1 116 11 mf_X0_lawAt_1_116_11).trans (hF2149.1 116 11 mf_X0_lawAt_116_116_11))).trans e2093), (((hF2161.1 116 12 mf_X4_become_law_116_12).trans ((hF2155.1 116 12 mf_X0_lawAt_1_116_12).trans (hF2149.1 116 12 mf_X0_lawAt_116_116_12))).trans e2094), (((hF2161.1 116 6 mf_X4_become_law_116_6).trans ((hF2155.1 116 6 mf_X0_lawAt_1_116_6).trans (hF2149.1 116 6 mf_X0_lawAt_116_116_6))).trans e2095), (((hF2161.1 116 9 mf_X4_become_law_116_9).trans ((hF2155.1 116 9 mf_X0_lawAt_1_116_9).trans (hF2149.1 116 9 mf_X0_lawAt_116_116_9))).trans e2096), (((eA_c (hF2161.2.1 173 ma_X4_become_law_173)).trans ((eA_c (hF2155.2.1 173 ma_X0_lawAt_1_173)).trans (eA_c (hF2149.2.1 173 ma_X0_lawAt_116_173)))).trans e2097), (((eA_c (hF2161.2.1 173 ma_X4_become_law_173)).trans ((eA_c (hF2155.2.1 173 ma_X0_lawAt_1_173)).trans (eA_c (hF2149.2.1 173 ma_X0_lawAt_116_173)))).trans e2098), (w_p1 (by decide) (Or.inr rfl) e2099), (w_p1 (by decide) (Or.inr rfl) e2100), (w_e1 _ _ _), by omega⟩ ⟨by omega, by omega⟩
