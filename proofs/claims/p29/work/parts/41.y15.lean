def F_X10_back_0 : List (Nat × Nat) := [(0, 14), (0, 17), (1, 0), (1, 4), (1, 6), (1, 9), (1, 10), (1, 11), (1, 12), (7, 0), (7, 3), (7, 4), (16, 0), (16, 3), (16, 4), (23, 0), (23, 3), (23, 4), (30, 0), (30, 3), (30, 4), (37, 0), (37, 3), (37, 4), (44, 0), (44, 3), (44, 4), (51, 0), (51, 3), (51, 4), (65, 0), (65, 3), (65, 4), (74, 0), (74, 3), (74, 4), (81, 0), (81, 3), (81, 4), (88, 0), (88, 3), (88, 4), (95, 0), (95, 3), (95, 4), (102, 0), (102, 3), (102, 4), (109, 0), (109, 3), (109, 4), (122, 0), (122, 3), (122, 4), (131, 0), (131, 3), (131, 4), (138, 0), (138, 3), (138, 4), (145, 0), (145, 3), (145, 4), (152, 0), (152, 3), (152, 4), (159, 0), (159, 3), (159, 4), (166, 0), (166, 3), (166, 4), (177, 0), (177, 3), (177, 4), (220, 2), (222, 2), (223, 5), (223, 10)]
def A_X10_back_0 : List Nat := [2, 3, 4, 5, 8, 9, 10, 11, 12, 13, 14, 15, 17, 18, 19, 20, 21, 22, 24, 25, 26, 27, 28, 29, 31, 32, 33, 34, 35, 36, 38, 39, 40, 41, 42, 43, 45, 46, 47, 48, 49, 50, 52, 53, 54, 55, 56, 57, 66, 67, 68, 69, 70, 71, 75, 76, 77, 78, 79, 80, 82, 83, 84, 85, 86, 87, 89, 90, 91, 92, 93, 94, 96, 97, 98, 99, 100, 101, 103, 104, 105, 106, 107, 108, 110, 111, 112, 113, 114, 115, 123, 124, 125, 126, 127, 128, 132, 133, 134, 135, 136, 137, 139, 140, 141, 142, 143, 144, 146, 147, 148, 149, 150, 151, 153, 154, 155, 156, 157, 158, 160, 161, 162, 163, 164, 165, 167, 168, 169, 170, 171, 172, 178, 179, 180, 181, 182, 183, 230]
theorem mf_X10_refused_0_1_6 : memF F_X10_refused_0 1 6 = false := by decide
theorem mf_X10_changed_0_1_12 : memF F_X10_changed_0 1 12 = false := by decide
theorem mf_X10_changed_0_1_6 : memF F_X10_changed_0 1 6 = false := by decide
theorem ma_X10_changed_0_14 : memA A_X10_changed_0 14 = false := by decide
theorem ma_X10_changed_0_15 : memA A_X10_changed_0 15 = false := by decide
theorem mf_X4_become_law_1_0 : memF F_X4_become_law 1 0 = false := by decide
theorem mf_X0_lawAt_59_1_0 : memF F_X0_lawAt_59 1 0 = false := by decide
theorem mf_X0_lawAt_1_1_0 : memF F_X0_lawAt_1 1 0 = false := by decide
theorem mf_X4_become_law_1_4 : memF F_X4_become_law 1 4 = false := by decide
theorem mf_X0_lawAt_59_1_4 : memF F_X0_lawAt_59 1 4 = false := by decide
theorem mf_X0_lawAt_1_1_4 : memF F_X0_lawAt_1 1 4 = false := by decide
theorem mf_X4_become_law_1_6 : memF F_X4_become_law 1 6 = false := by decide
theorem mf_X0_lawAt_59_1_6 : memF F_X0_lawAt_59 1 6 = false := by decide
theorem mf_X0_lawAt_1_1_6 : memF F_X0_lawAt_1 1 6 = false := by decide
theorem ma_X4_become_law_2 : memA A_X4_become_law 2 = false := by decide
theorem ma_X0_lawAt_59_2 : memA A_X0_lawAt_59 2 = false := by decide
theorem ma_X0_lawAt_1_2 : memA A_X0_lawAt_1 2 = false := by decide
theorem ma_X4_become_law_3 : memA A_X4_become_law 3 = false := by decide
theorem ma_X0_lawAt_59_3 : memA A_X0_lawAt_59 3 = false := by decide
theorem ma_X0_lawAt_1_3 : memA A_X0_lawAt_1 3 = false := by decide
theorem ma_X4_become_law_4 : memA A_X4_become_law 4 = false := by decide
theorem ma_X0_lawAt_59_4 : memA A_X0_lawAt_59 4 = false := by decide
theorem ma_X0_lawAt_1_4 : memA A_X0_lawAt_1 4 = false := by decide
theorem ma_X4_become_law_14 : memA A_X4_become_law 14 = false := by decide
theorem ma_X0_lawAt_59_14 : memA A_X0_lawAt_59 14 = false := by decide
theorem ma_X0_lawAt_1_14 : memA A_X0_lawAt_1 14 = false := by decide
theorem ma_X4_become_law_15 : memA A_X4_become_law 15 = false := by decide
theorem ma_X0_lawAt_59_15 : memA A_X0_lawAt_59 15 = false := by decide
theorem ma_X0_lawAt_1_15 : memA A_X0_lawAt_1 15 = false := by decide
theorem ma_X4_become_law_5 : memA A_X4_become_law 5 = false := by decide
theorem ma_X0_lawAt_59_5 : memA A_X0_lawAt_59 5 = false := by decide
theorem ma_X0_lawAt_1_5 : memA A_X0_lawAt_1 5 = false := by decide
theorem mf_X0_lawAt_116_1_0 : memF F_X0_lawAt_116 1 0 = false := by decide
theorem mf_X0_lawAt_116_1_4 : memF F_X0_lawAt_116 1 4 = false := by decide
theorem mf_X0_lawAt_116_1_6 : memF F_X0_lawAt_116 1 6 = false := by decide
theorem ma_X0_lawAt_116_2 : memA A_X0_lawAt_116 2 = false := by decide
theorem ma_X0_lawAt_116_3 : memA A_X0_lawAt_116 3 = false := by decide
theorem ma_X0_lawAt_116_4 : memA A_X0_lawAt_116 4 = false := by decide
theorem ma_X0_lawAt_116_14 : memA A_X0_lawAt_116 14 = false := by decide
theorem ma_X0_lawAt_116_15 : memA A_X0_lawAt_116 15 = false := by decide
theorem ma_X0_lawAt_116_5 : memA A_X0_lawAt_116 5 = false := by decide
set_option maxRecDepth 100000 in
set_option maxHeartbeats 4000000 in
theorem T_X10_back_0 (d : Nat) {N : Nat} {g0 : List en_E} (hI0 : HI g0) (a1 : Int32) : Ev (d + 3) 141 [.ref 0, .int a1] (g0, N) (fun w h' => ∃ g', h' = (g', N) ∧ HI g' ∧ Fr F_X10_back_0 A_X10_back_0 g0 g' ∧ ∃ r : Int32, w = some (.int r) ∧ ((-2) ≤ r.toInt ∧ r.toInt ≤ 0) ∧ (((((a1.toInt = 0 ∧ (eA g0 173 0).toInt ≠ 0 → r.toInt = 0 ∧ (gI g' 1 0).toInt = (gI g0 59 0).toInt ∧ (gI g' 1 12).toInt = (gI g0 59 12).toInt ∧ (gI g' 1 10).toInt = (gI g0 59 10).toInt ∧ (gI g' 1 11).toInt = (gI g0 59 11).toInt ∧ (gI g' 1 4).toInt = (gI g0 59 4).toInt ∧ (gI g' 1 6).toInt = (gI g0 59 6).toInt ∧ (gI g' 1 9).toInt = (gI g0 59 9).toInt) ∧ (a1.toInt = 1 ∧ (eA g0 173 1).toInt ≠ 0 → r.toInt = 0 ∧ (gI g' 1 0).toInt = (gI g0 116 0).toInt ∧ (gI g' 1 12).toInt = (gI g0 116 12).toInt ∧ (gI g' 1 10).toInt = (gI g0 116 10).toInt ∧ (gI g' 1 11).toInt = (gI g0 116 11).toInt ∧ (gI g' 1 4).toInt = (gI g0 116 4).toInt ∧ (gI g' 1 6).toInt = (gI g0 116 6).toInt ∧ (gI g' 1 9).toInt = (gI g0 116 9).toInt) ∧ (¬ (a1.toInt = 0 ∧ (eA g0 173 0).toInt ≠ 0) ∧ ¬ (a1.toInt = 1 ∧ (eA g0 173 1).toInt ≠ 0) → (gI g' 1 0).toInt = (gI g0 1 0).toInt ∧ (gI g' 1 12).toInt = (gI g0 1 12).toInt ∧ (gI g' 1 10).toInt = (gI g0 1 10).toInt ∧ (gI g' 1 11).toInt = (gI g0 1 11).toInt ∧ (gI g' 1 4).toInt = (gI g0 1 4).toInt ∧ (gI g' 1 6).toInt = (gI g0 1 6).toInt ∧ (gI g' 1 9).toInt = (gI g0 1 9).toInt) ∧ (a1.toInt < 0 ∨ 1 < a1.toInt → r.toInt = -1) ∧ (0 ≤ a1.toInt ∧ a1.toInt ≤ 1 ∧ ¬ (a1.toInt = 0 ∧ (eA g0 173 0).toInt ≠ 0) ∧ ¬ (a1.toInt = 1 ∧ (eA g0 173 1).toInt ≠ 0) → r.toInt = -2)) ∧ (∀ i : Int, 0 ≤ i → i < 12 → (eA g' 2 (i)).toInt = if a1.toInt = 0 ∧ (eA g0 173 0).toInt ≠ 0 then (eA g0 60 (i)).toInt else if a1.toInt = 1 ∧ (eA g0 173 1).toInt ≠ 0 then (eA g0 117 (i)).toInt else (eA g0 2 (i)).toInt) ∧ (∀ i : Int, 0 ≤ i → i < 12 → (eA g' 3 (i)).toInt = if a1.toInt = 0 ∧ (eA g0 173 0).toInt ≠ 0 then (eA g0 61 (i)).toInt else if a1.toInt = 1 ∧ (eA g0 173 1).toInt ≠ 0 then (eA g0 118 (i)).toInt else (eA g0 3 (i)).toInt) ∧ (∀ i : Int, 0 ≤ i → i < 12 → (eA g' 4 (i)).toInt = if a1.toInt = 0 ∧ (eA g0 173 0).toInt ≠ 0 then (eA g0 62 (i)).toInt else if a1.toInt = 1 ∧ (eA g0 173 1).toInt ≠ 0 then (eA g0 119 (i)).toInt else (eA g0 4 (i)).toInt) ∧ (∀ i : Int, 0 ≤ i → i < 8 → (eA g' 14 (i)).toInt = if a1.toInt = 0 ∧ (eA g0 173 0).toInt ≠ 0 then (eA g0 72 (i)).toInt else if a1.toInt = 1 ∧ (eA g0 173 1).toInt ≠ 0 then (eA g0 129 (i)).toInt else (eA g0 14 (i)).toInt) ∧ (∀ i : Int, 0 ≤ i → i < 8 → (eA g' 15 (i)).toInt = if a1.toInt = 0 ∧ (eA g0 173 0).toInt ≠ 0 then (eA g0 73 (i)).toInt else if a1.toInt = 1 ∧ (eA g0 173 1).toInt ≠ 0 then (eA g0 130 (i)).toInt else (eA g0 15 (i)).toInt) ∧ (∀ i : Int, 0 ≤ i → i < 48 → (eA g' 5 (i)).toInt = if a1.toInt = 0 ∧ (eA g0 173 0).toInt ≠ 0 then (eA g0 63 (i)).toInt else if a1.toInt = 1 ∧ (eA g0 173 1).toInt ≠ 0 then (eA g0 120 (i)).toInt else (eA g0 5 (i)).toInt)) ∧ ((a1.toInt = 0 ∧ (eA g0 173 0).toInt ≠ 0 → BCI g0 g' 1 59 6) ∧ (a1.toInt = 1 ∧ (eA g0 173 1).toInt ≠ 0 → BCI g0 g' 1 116 6) ∧ (¬ (a1.toInt = 0 ∧ (eA g0 173 0).toInt ≠ 0) ∧ ¬ (a1.toInt = 1 ∧ (eA g0 173 1).toInt ≠ 0) → LSA g0 g'))) ∧ ((TOLDX g0 → TOLDX g') ∧ (SETX g0 → SETX g')))) := by
  have hF0 : Fr F_X10_back_0 A_X10_back_0 g0 g0 := Fr.rf
  refine Ev.mk rfl rfl ⟨Nat.le_of_ble_eq_true rfl, Or.inr (q_rc hI0.1 kx_0 rfl)⟩ ?_
  show At _ none _ _ (0, [(0, .ref 0), (1, .int a1)], [], (_, _)) _
  refine At.enter rfl ?_
  refine r_aload_n rfl ?_
  refine r_iload_n rfl ?_
  refine q_inlV 5 rfl [.ref 0, .int a1] [] (Nat.le_of_ble_eq_true rfl) rfl ?_
  refine Ev.mk rfl rfl ⟨Nat.le_of_ble_eq_true rfl, Or.inr (q_rc hI0.1 kx_0 rfl)⟩ ?_
  show At _ none _ _ (0, [(0, .ref 0), (1, .int a1)], [], (_, _)) _
  refine At.enter rfl ?_
  refine r_iload_n rfl ?_
  refine r_iconst 0 rfl ?_
  refine r_iconst 1 rfl ?_
  refine q_inlS 6 rfl [.int a1, .int 0, .int 1] [] (Nat.le_of_ble_eq_true rfl) rfl ?_
  refine Ev.mk rfl rfl ⟨Nat.le_of_ble_eq_true rfl, Or.inl rfl⟩ ?_
  show At _ none _ _ (0, [(0, .int a1), (1, .int 0), (2, .int 1)], [], (_, _)) _
  refine At.enter rfl ?_
  refine r_iload_n rfl ?_
  refine r_iload_n rfl ?_
  refine r_ics 5 rfl (fun c1475 => ?_) (fun c1475 => ?_)
  · have c1475_ : a1.toInt < 0 := en_i_lt_t c1475
    refine At.enter rfl ?_
    refine r_iconst 0 rfl ?_
    refine Ar.fall 15 rfl ?_
    refine At.enter rfl ?_
    refine q_iretz (by decide) ?_
    refine At.enter rfl ?_
    refine r_ift (by decide) ?_
    refine At.enter rfl ?_
    refine r_null ?_
    refine Ar.fall 19 rfl ?_
    refine At.enter rfl ?_
    refine q_zret ?_
    refine At.enter rfl ?_
    refine r_zstore_n ([(2, .null), (0, .ref 0), (1, .int a1)]) rfl ?_
    refine r_zload_n rfl ?_
    refine r_nnz 10 rfl ?_
    refine At.enter rfl ?_
    refine r_aload_n rfl ?_
    refine r_iconst (-1) rfl ?_
    refine r_callV 15 rfl [.ref 0, .int (-1)] [] (Nat.le_of_ble_eq_true rfl) rfl (T_X10_refused_0 _ hI0 (-1) (by decide)) ?_
    rintro _ _ ⟨g1476, rfl, hI1477, hF1478, v1479, rfl, hr1480⟩
    refine At.sti ?_
    have hF1481 := Fr.tr hF0 hF1478 rfl rfl
    have zv1482 : ((-1) : Int32).toInt = (-1) := rfl
    refine At.enter rfl ?_
    refine r_ireti ?_
    obtain ⟨v1483, hv1483⟩ : ∃ v, gI g0 1 0 = v := ⟨_, rfl⟩
    have rv1483 := RgF.at hI0.2.1 (p := 1) (b := 0) rfl
    rw [hv1483] at rv1483
    dsimp only at rv1483
    have tv1483 := congrArg Int32.toInt hv1483
    obtain ⟨v1485, hv1485⟩ : ∃ v, gI g0 1 12 = v := ⟨_, rfl⟩
    have rv1485 := RgF.at hI0.2.1 (p := 1) (b := 12) rfl
    rw [hv1485] at rv1485
    dsimp only at rv1485
    have tv1485 := congrArg Int32.toInt hv1485
    obtain ⟨v1487, hv1487⟩ : ∃ v, gI g0 1 10 = v := ⟨_, rfl⟩
    have tv1487 := congrArg Int32.toInt hv1487
    obtain ⟨v1489, hv1489⟩ : ∃ v, gI g0 1 11 = v := ⟨_, rfl⟩
    have tv1489 := congrArg Int32.toInt hv1489
    obtain ⟨v1491, hv1491⟩ : ∃ v, gI g0 1 4 = v := ⟨_, rfl⟩
    have rv1491 := RgF.at hI0.2.1 (p := 1) (b := 4) rfl
    rw [hv1491] at rv1491
    dsimp only at rv1491
    have tv1491 := congrArg Int32.toInt hv1491
    obtain ⟨v1493, hv1493⟩ : ∃ v, gI g0 1 6 = v := ⟨_, rfl⟩
    have rv1493 := RgF.at hI0.2.1 (p := 1) (b := 6) rfl
    rw [hv1493] at rv1493
    dsimp only at rv1493
    have tv1493 := congrArg Int32.toInt hv1493
    obtain ⟨v1495, hv1495⟩ : ∃ v, gI g0 1 9 = v := ⟨_, rfl⟩
    have tv1495 := congrArg Int32.toInt hv1495
    obtain ⟨v1497, hv1497⟩ : ∃ v, gI g0 59 0 = v := ⟨_, rfl⟩
    have rv1497 := RgF.at hI0.2.1 (p := 59) (b := 0) rfl
    rw [hv1497] at rv1497
    dsimp only at rv1497
    have tv1497 := congrArg Int32.toInt hv1497
    obtain ⟨v1499, hv1499⟩ : ∃ v, gI g0 59 12 = v := ⟨_, rfl⟩
    have rv1499 := RgF.at hI0.2.1 (p := 59) (b := 12) rfl
    rw [hv1499] at rv1499
    dsimp only at rv1499
    have tv1499 := congrArg Int32.toInt hv1499
    obtain ⟨v1501, hv1501⟩ : ∃ v, gI g0 59 10 = v := ⟨_, rfl⟩
    have tv1501 := congrArg Int32.toInt hv1501
    obtain ⟨v1503, hv1503⟩ : ∃ v, gI g0 59 11 = v := ⟨_, rfl⟩
    have tv1503 := congrArg Int32.toInt hv1503
    obtain ⟨v1505, hv1505⟩ : ∃ v, gI g0 59 4 = v := ⟨_, rfl⟩
    have rv1505 := RgF.at hI0.2.1 (p := 59) (b := 4) rfl
    rw [hv1505] at rv1505
    dsimp only at rv1505
    have tv1505 := congrArg Int32.toInt hv1505
    obtain ⟨v1507, hv1507⟩ : ∃ v, gI g0 59 6 = v := ⟨_, rfl⟩
    have rv1507 := RgF.at hI0.2.1 (p := 59) (b := 6) rfl
    rw [hv1507] at rv1507
    dsimp only at rv1507
    have tv1507 := congrArg Int32.toInt hv1507
    obtain ⟨v1509, hv1509⟩ : ∃ v, gI g0 59 9 = v := ⟨_, rfl⟩
    have tv1509 := congrArg Int32.toInt hv1509
    obtain ⟨v1511, hv1511⟩ : ∃ v, gI g0 116 0 = v := ⟨_, rfl⟩
    have rv1511 := RgF.at hI0.2.1 (p := 116) (b := 0) rfl
    rw [hv1511] at rv1511
    dsimp only at rv1511
    have tv1511 := congrArg Int32.toInt hv1511
    obtain ⟨v1513, hv1513⟩ : ∃ v, gI g0 116 12 = v := ⟨_, rfl⟩
    have rv1513 := RgF.at hI0.2.1 (p := 116) (b := 12) rfl
    rw [hv1513] at rv1513
    dsimp only at rv1513
    have tv1513 := congrArg Int32.toInt hv1513
    obtain ⟨v1515, hv1515⟩ : ∃ v, gI g0 116 10 = v := ⟨_, rfl⟩
    have tv1515 := congrArg Int32.toInt hv1515
    obtain ⟨v1517, hv1517⟩ : ∃ v, gI g0 116 11 = v := ⟨_, rfl⟩
    have tv1517 := congrArg Int32.toInt hv1517
    obtain ⟨v1519, hv1519⟩ : ∃ v, gI g0 116 4 = v := ⟨_, rfl⟩
    have rv1519 := RgF.at hI0.2.1 (p := 116) (b := 4) rfl
    rw [hv1519] at rv1519
    dsimp only at rv1519
    have tv1519 := congrArg Int32.toInt hv1519
    obtain ⟨v1521, hv1521⟩ : ∃ v, gI g0 116 6 = v := ⟨_, rfl⟩
    have rv1521 := RgF.at hI0.2.1 (p := 116) (b := 6) rfl
    rw [hv1521] at rv1521
    dsimp only at rv1521
    have tv1521 := congrArg Int32.toInt hv1521
    obtain ⟨v1523, hv1523⟩ : ∃ v, gI g0 116 9 = v := ⟨_, rfl⟩
    have tv1523 := congrArg Int32.toInt hv1523
    obtain ⟨v1525, hv1525⟩ : ∃ v, eA g0 173 0 = v := ⟨_, rfl⟩
    have tv1525 := congrArg Int32.toInt hv1525
    have x1526 := HI.eqA hI0 (p := 173) (j := 0) (hv1525)
    obtain ⟨v1527, hv1527⟩ : ∃ v, eA g0 173 1 = v := ⟨_, rfl⟩
    have tv1527 := congrArg Int32.toInt hv1527
    have x1528 := HI.eqA hI0 (p := 173) (j := 1) (hv1527)
    have x1529 := HI.eqI hI1477 (p := 1) (b := 0) (((hF1478.1 1 0 mf_X10_refused_0_1_0).trans hv1483))
    have x1530 := HI.eqI hI1477 (p := 1) (b := 12) (((hF1478.1 1 12 mf_X10_refused_0_1_12).trans hv1485))
    have x1531 := HI.eqI hI1477 (p := 1) (b := 10) (((hF1478.1 1 10 mf_X10_refused_0_1_10).trans hv1487))
    have x1532 := HI.eqI hI1477 (p := 1) (b := 11) (((hF1478.1 1 11 mf_X10_refused_0_1_11).trans hv1489))
    have x1533 := HI.eqI hI1477 (p := 1) (b := 4) (((hF1478.1 1 4 mf_X10_refused_0_1_4).trans hv1491))
    have x1534 := HI.eqI hI1477 (p := 1) (b := 6) (((hF1478.1 1 6 mf_X10_refused_0_1_6).trans hv1493))
    have x1535 := HI.eqI hI1477 (p := 1) (b := 9) (((hF1478.1 1 9 mf_X10_refused_0_1_9).trans hv1495))
    have x1536 := HI.eqA hI0 (p := 173) (j := 0) (hv1525)
    have x1537 := HI.eqA hI0 (p := 173) (j := 1) (hv1527)
    have kn114_ : ¬ (a1.toInt = 0 ∧ (eA g0 173 0).toInt ≠ 0) := by omega
    have kn115_ : ¬ (a1.toInt = 1 ∧ (eA g0 173 1).toInt ≠ 0) := by omega
    exact ⟨_, rfl, hI1477, hF1481, _, rfl, by omega, ⟨⟨⟨⟨by omega, by omega, by omega, by omega, by omega⟩, (by intro i i0 i1; refine Eq.trans ?_ (if_neg kn114_).symm; refine Eq.trans ?_ (if_neg kn115_).symm; refine (eA_ti ((hF1478.2.1 2 ma_X10_refused_0_2))).trans ?_; (first | with_reducible rfl | omega | exact eA_ix (by omega) | rfl)), (by intro i i0 i1; refine Eq.trans ?_ (if_neg kn114_).symm; refine Eq.trans ?_ (if_neg kn115_).symm; refine (eA_ti ((hF1478.2.1 3 ma_X10_refused_0_3))).trans ?_; (first | with_reducible rfl | omega | exact eA_ix (by omega) | rfl)), (by intro i i0 i1; refine Eq.trans ?_ (if_neg kn114_).symm; refine Eq.trans ?_ (if_neg kn115_).symm; refine (eA_ti ((hF1478.2.1 4 ma_X10_refused_0_4))).trans ?_; (first | with_reducible rfl | omega | exact eA_ix (by omega) | rfl)), (by intro i i0 i1; refine Eq.trans ?_ (if_neg kn114_).symm; refine Eq.trans ?_ (if_neg kn115_).symm; refine (eA_ti ((hF1478.2.1 14 ma_X10_refused_0_14))).trans ?_; (first | with_reducible rfl | omega | exact eA_ix (by omega) | rfl)), (by intro i i0 i1; refine Eq.trans ?_ (if_neg kn114_).symm; refine Eq.trans ?_ (if_neg kn115_).symm; refine (eA_ti ((hF1478.2.1 15 ma_X10_refused_0_15))).trans ?_; (first | with_reducible rfl | omega | exact eA_ix (by omega) | rfl)), (by intro i i0 i1; refine Eq.trans ?_ (if_neg kn114_).symm; refine Eq.trans ?_ (if_neg kn115_).symm; refine (eA_ti ((hF1478.2.1 5 ma_X10_refused_0_5))).trans ?_; (first | with_reducible rfl | omega | exact eA_ix (by omega) | rfl))⟩, ⟨(fun h => False.elim (by omega)), (fun h => False.elim (by omega)), fun _ => (LSA_tr LSA_rf (LSA_fr hF1478 rfl))⟩⟩, ⟨(fun t => (TOLDX_fr hF1478 rfl rfl rfl rfl t)), (fun t => (SETX_fr hF1478 rfl rfl rfl rfl rfl t))⟩⟩⟩
  · have c1475_ : a1.toInt ≥ 0 := en_i_lt_f c1475
    refine At.enter rfl ?_
    refine r_iload_n rfl ?_
    refine r_iload_n rfl ?_
    refine r_ics 10 rfl (fun c1538 => ?_) (fun c1538 => ?_)
    · have c1538_ : a1.toInt > 1 := en_i_gt_t c1538
      refine At.enter rfl ?_
      refine r_iconst 0 rfl ?_
      refine Ar.fall 15 rfl ?_
      refine At.enter rfl ?_
      refine q_iretz (by decide) ?_
      refine At.enter rfl ?_
      refine r_ift (by decide) ?_
      refine At.enter rfl ?_
      refine r_null ?_
      refine Ar.fall 19 rfl ?_
      refine At.enter rfl ?_
      refine q_zret ?_
      refine At.enter rfl ?_
      refine r_zstore_n ([(2, .null), (0, .ref 0), (1, .int a1)]) rfl ?_
      refine r_zload_n rfl ?_
      refine r_nnz 10 rfl ?_
      refine At.enter rfl ?_
      refine r_aload_n rfl ?_
      refine r_iconst (-1) rfl ?_
      refine r_callV 15 rfl [.ref 0, .int (-1)] [] (Nat.le_of_ble_eq_true rfl) rfl (T_X10_refused_0 _ hI0 (-1) (by decide)) ?_
      rintro _ _ ⟨g1539, rfl, hI1540, hF1541, v1542, rfl, hr1543⟩
      refine At.sti ?_
      have hF1544 := Fr.tr hF0 hF1541 rfl rfl
      have zv1545 : ((-1) : Int32).toInt = (-1) := rfl
      refine At.enter rfl ?_
      refine r_ireti ?_
      obtain ⟨v1546, hv1546⟩ : ∃ v, gI g0 1 0 = v := ⟨_, rfl⟩
      have rv1546 := RgF.at hI0.2.1 (p := 1) (b := 0) rfl
      rw [hv1546] at rv1546
      dsimp only at rv1546
      have tv1546 := congrArg Int32.toInt hv1546
      obtain ⟨v1548, hv1548⟩ : ∃ v, gI g0 1 12 = v := ⟨_, rfl⟩
      have rv1548 := RgF.at hI0.2.1 (p := 1) (b := 12) rfl
      rw [hv1548] at rv1548
      dsimp only at rv1548
      have tv1548 := congrArg Int32.toInt hv1548
      obtain ⟨v1550, hv1550⟩ : ∃ v, gI g0 1 10 = v := ⟨_, rfl⟩
      have tv1550 := congrArg Int32.toInt hv1550
      obtain ⟨v1552, hv1552⟩ : ∃ v, gI g0 1 11 = v := ⟨_, rfl⟩
      have tv1552 := congrArg Int32.toInt hv1552
      obtain ⟨v1554, hv1554⟩ : ∃ v, gI g0 1 4 = v := ⟨_, rfl⟩
      have rv1554 := RgF.at hI0.2.1 (p := 1) (b := 4) rfl
      rw [hv1554] at rv1554
      dsimp only at rv1554
      have tv1554 := congrArg Int32.toInt hv1554
      obtain ⟨v1556, hv1556⟩ : ∃ v, gI g0 1 6 = v := ⟨_, rfl⟩
      have rv1556 := RgF.at hI0.2.1 (p := 1) (b := 6) rfl
      rw [hv1556] at rv1556
      dsimp only at rv1556
      have tv1556 := congrArg Int32.toInt hv1556
      obtain ⟨v1558, hv1558⟩ : ∃ v, gI g0 1 9 = v := ⟨_, rfl⟩
      have tv1558 := congrArg Int32.toInt hv1558
      obtain ⟨v1560, hv1560⟩ : ∃ v, gI g0 59 0 = v := ⟨_, rfl⟩
      have rv1560 := RgF.at hI0.2.1 (p := 59) (b := 0) rfl
      rw [hv1560] at rv1560
      dsimp only at rv1560
      have tv1560 := congrArg Int32.toInt hv1560
      obtain ⟨v1562, hv1562⟩ : ∃ v, gI g0 59 12 = v := ⟨_, rfl⟩
      have rv1562 := RgF.at hI0.2.1 (p := 59) (b := 12) rfl
      rw [hv1562] at rv1562
      dsimp only at rv1562
      have tv1562 := congrArg Int32.toInt hv1562
      obtain ⟨v1564, hv1564⟩ : ∃ v, gI g0 59 10 = v := ⟨_, rfl⟩
      have tv1564 := congrArg Int32.toInt hv1564
      obtain ⟨v1566, hv1566⟩ : ∃ v, gI g0 59 11 = v := ⟨_, rfl⟩
      have tv1566 := congrArg Int32.toInt hv1566
      obtain ⟨v1568, hv1568⟩ : ∃ v, gI g0 59 4 = v := ⟨_, rfl⟩
      have rv1568 := RgF.at hI0.2.1 (p := 59) (b := 4) rfl
      rw [hv1568] at rv1568
      dsimp only at rv1568
      have tv1568 := congrArg Int32.toInt hv1568
      obtain ⟨v1570, hv1570⟩ : ∃ v, gI g0 59 6 = v := ⟨_, rfl⟩
      have rv1570 := RgF.at hI0.2.1 (p := 59) (b := 6) rfl
      rw [hv1570] at rv1570
      dsimp only at rv1570
      have tv1570 := congrArg Int32.toInt hv1570
      obtain ⟨v1572, hv1572⟩ : ∃ v, gI g0 59 9 = v := ⟨_, rfl⟩
      have tv1572 := congrArg Int32.toInt hv1572
      obtain ⟨v1574, hv1574⟩ : ∃ v, gI g0 116 0 = v := ⟨_, rfl⟩
      have rv1574 := RgF.at hI0.2.1 (p := 116) (b := 0) rfl
      rw [hv1574] at rv1574
      dsimp only at rv1574
      have tv1574 := congrArg Int32.toInt hv1574
      obtain ⟨v1576, hv1576⟩ : ∃ v, gI g0 116 12 = v := ⟨_, rfl⟩
      have rv1576 := RgF.at hI0.2.1 (p := 116) (b := 12) rfl
      rw [hv1576] at rv1576
      dsimp only at rv1576
      have tv1576 := congrArg Int32.toInt hv1576
      obtain ⟨v1578, hv1578⟩ : ∃ v, gI g0 116 10 = v := ⟨_, rfl⟩
      have tv1578 := congrArg Int32.toInt hv1578
      obtain ⟨v1580, hv1580⟩ : ∃ v, gI g0 116 11 = v := ⟨_, rfl⟩
      have tv1580 := congrArg Int32.toInt hv1580
      obtain ⟨v1582, hv1582⟩ : ∃ v, gI g0 116 4 = v := ⟨_, rfl⟩
      have rv1582 := RgF.at hI0.2.1 (p := 116) (b := 4) rfl
      rw [hv1582] at rv1582
      dsimp only at rv1582
      have tv1582 := congrArg Int32.toInt hv1582
      obtain ⟨v1584, hv1584⟩ : ∃ v, gI g0 116 6 = v := ⟨_, rfl⟩
      have rv1584 := RgF.at hI0.2.1 (p := 116) (b := 6) rfl
      rw [hv1584] at rv1584
      dsimp only at rv1584
      have tv1584 := congrArg Int32.toInt hv1584
      obtain ⟨v1586, hv1586⟩ : ∃ v, gI g0 116 9 = v := ⟨_, rfl⟩
      have tv1586 := congrArg Int32.toInt hv1586
      obtain ⟨v1588, hv1588⟩ : ∃ v, eA g0 173 0 = v := ⟨_, rfl⟩
      have tv1588 := congrArg Int32.toInt hv1588
      have x1589 := HI.eqA hI0 (p := 173) (j := 0) (hv1588)
      obtain ⟨v1590, hv1590⟩ : ∃ v, eA g0 173 1 = v := ⟨_, rfl⟩
      have tv1590 := congrArg Int32.toInt hv1590
      have x1591 := HI.eqA hI0 (p := 173) (j := 1) (hv1590)
      have x1592 := HI.eqI hI1540 (p := 1) (b := 0) (((hF1541.1 1 0 mf_X10_refused_0_1_0).trans hv1546))
      have x1593 := HI.eqI hI1540 (p := 1) (b := 12) (((hF1541.1 1 12 mf_X10_refused_0_1_12).trans hv1548))
      have x1594 := HI.eqI hI1540 (p := 1) (b := 10) (((hF1541.1 1 10 mf_X10_refused_0_1_10).trans hv1550))
      have x1595 := HI.eqI hI1540 (p := 1) (b := 11) (((hF1541.1 1 11 mf_X10_refused_0_1_11).trans hv1552))
      have x1596 := HI.eqI hI1540 (p := 1) (b := 4) (((hF1541.1 1 4 mf_X10_refused_0_1_4).trans hv1554))
      have x1597 := HI.eqI hI1540 (p := 1) (b := 6) (((hF1541.1 1 6 mf_X10_refused_0_1_6).trans hv1556))
      have x1598 := HI.eqI hI1540 (p := 1) (b := 9) (((hF1541.1 1 9 mf_X10_refused_0_1_9).trans hv1558))
      have x1599 := HI.eqA hI0 (p := 173) (j := 0) (hv1588)
      have x1600 := HI.eqA hI0 (p := 173) (j := 1) (hv1590)
      have kn116_ : ¬ (a1.toInt = 0 ∧ (eA g0 173 0).toInt ≠ 0) := by omega
      have kn117_ : ¬ (a1.toInt = 1 ∧ (eA g0 173 1).toInt ≠ 0) := by omega
      exact ⟨_, rfl, hI1540, hF1544, _, rfl, by omega, ⟨⟨⟨⟨by omega, by omega, by omega, by omega, by omega⟩, (by intro i i0 i1; refine Eq.trans ?_ (if_neg kn116_).symm; refine Eq.trans ?_ (if_neg kn117_).symm; refine (eA_ti ((hF1541.2.1 2 ma_X10_refused_0_2))).trans ?_; (first | with_reducible rfl | omega | exact eA_ix (by omega) | rfl)), (by intro i i0 i1; refine Eq.trans ?_ (if_neg kn116_).symm; refine Eq.trans ?_ (if_neg kn117_).symm; refine (eA_ti ((hF1541.2.1 3 ma_X10_refused_0_3))).trans ?_; (first | with_reducible rfl | omega | exact eA_ix (by omega) | rfl)), (by intro i i0 i1; refine Eq.trans ?_ (if_neg kn116_).symm; refine Eq.trans ?_ (if_neg kn117_).symm; refine (eA_ti ((hF1541.2.1 4 ma_X10_refused_0_4))).trans ?_; (first | with_reducible rfl | omega | exact eA_ix (by omega) | rfl)), (by intro i i0 i1; refine Eq.trans ?_ (if_neg kn116_).symm; refine Eq.trans ?_ (if_neg kn117_).symm; refine (eA_ti ((hF1541.2.1 14 ma_X10_refused_0_14))).trans ?_; (first | with_reducible rfl | omega | exact eA_ix (by omega) | rfl)), (by intro i i0 i1; refine Eq.trans ?_ (if_neg kn116_).symm; refine Eq.trans ?_ (if_neg kn117_).symm; refine (eA_ti ((hF1541.2.1 15 ma_X10_refused_0_15))).trans ?_; (first | with_reducible rfl | omega | exact eA_ix (by omega) | rfl)), (by intro i i0 i1; refine Eq.trans ?_ (if_neg kn116_).symm; refine Eq.trans ?_ (if_neg kn117_).symm; refine (eA_ti ((hF1541.2.1 5 ma_X10_refused_0_5))).trans ?_; (first | with_reducible rfl | omega | exact eA_ix (by omega) | rfl))⟩, ⟨(fun h => False.elim (by omega)), (fun h => False.elim (by omega)), fun _ => (LSA_tr LSA_rf (LSA_fr hF1541 rfl))⟩⟩, ⟨(fun t => (TOLDX_fr hF1541 rfl rfl rfl rfl t)), (fun t => (SETX_fr hF1541 rfl rfl rfl rfl rfl t))⟩⟩⟩
    · have c1538_ : a1.toInt ≤ 1 := en_i_gt_f c1538
      refine At.enter rfl ?_
      refine r_iconst 1 rfl ?_
      refine r_goto ?_
      refine At.enter rfl ?_
      refine q_iretz (by decide) ?_
      refine At.enter rfl ?_
      refine r_iff 9 rfl (by decide) ?_
      refine At.enter rfl ?_
      refine r_aload_n rfl ?_
      refine q_getR (Sh.ref hI0.1 kx_0 rfl) ?_
      refine r_iload_n rfl ?_
      by_cases c1601_0 : a1.toInt = 0
      · refine q_aald (Sh.rar hI0.1 ka_58) (by decide) 0 (by omega) (by decide) (some 59) rfl ?_
        refine r_goto ?_
        refine At.enter rfl ?_
        refine q_aret ?_
        refine At.enter rfl ?_
        refine r_astore_n ([(2, .ref 59), (0, .ref 0), (1, .int a1)]) rfl ?_
        refine r_aload_n rfl ?_
        refine r_nnr ?_
        refine At.enter rfl ?_
        refine r_aload_n rfl ?_
        refine q_getR (Sh.ref hI0.1 kx_0 rfl) ?_
        refine r_iload_n rfl ?_
        obtain ⟨v1602, hv1602⟩ : ∃ v, eA g0 173 a1.toInt = v := ⟨_, rfl⟩
        refine q_bald (Sh.arr hI0.1 ka_173) a1.toInt rfl (by omega) v1602 hv1602 ?_
        refine r_ifs 25 rfl (fun c1603 => ?_) (fun c1603 => ?_)
        · have c1603_ : v1602.toInt ≠ 0 := en_k_ne_t c1603
          refine At.enter rfl ?_
          refine r_aload_n rfl ?_
          refine q_getR (Sh.ref hI0.1 kx_0 rfl) ?_
          refine r_aload_n rfl ?_
          refine q_inlV 40 rfl [.ref 1, .ref 59] [] (Nat.le_of_ble_eq_true rfl) rfl ?_
          refine Ev.mk rfl rfl ⟨Nat.le_of_ble_eq_true rfl, Or.inr (q_rc hI0.1 kx_1 rfl)⟩ ?_
          show At _ none _ _ (0, [(0, .ref 1), (1, .ref 59)], [], (_, _)) _
          refine At.enter rfl ?_
          refine r_aload_n rfl ?_
          refine r_aload_n rfl ?_
          obtain ⟨v1604, hv1604⟩ : ∃ v, gI g0 59 0 = v := ⟨_, rfl⟩
          have rv1604 := RgF.at hI0.2.1 (p := 59) (b := 0) rfl
          rw [hv1604] at rv1604
          dsimp only at rv1604
          refine q_getI (Sh.int hI0.1 kx_59 rfl) v1604 hv1604 ?_
          refine q_putI (Sh.int hI0.1 kx_1 rfl) rfl ?_
          have hI1605 := HI.wI1 hI0 kx_1 rfl (p := 1) (b := 0) (v := v1604) rfl (by dsimp only; omega)
          have hF1606 := Fr.wI (p := 1) (b := 0) (v := v1604) hF0 rfl
          refine r_aload_n rfl ?_
          refine q_getR (Sh.ref hI1605.1 kx_59 rfl) ?_
          refine r_iconst 0 rfl ?_
          refine r_aload_n rfl ?_
          refine q_getR (Sh.ref hI1605.1 kx_1 rfl) ?_
          refine r_iconst 0 rfl ?_
          refine r_bipush 12 rfl ?_
          have zv1607 : (0 : Int32).toInt = 0 := rfl
          have zv1608 : (0 : Int32).toInt = 0 := rfl
          have zv1609 : (12 : Int32).toInt = 12 := rfl
          refine q_cpy rfl (Nat.le_of_ble_eq_true rfl) (Sh.arr hI1605.1 ka_60) (Sh.arr hI1605.1 ka_2) ⟨by omega, by omega, by omega, by omega, by omega⟩ ?_
          have hI1610 := HI.cpy0 hI1605 ka_60 ka_2 rfl rfl ((0 : Int32).toInt.toNat) ((0 : Int32).toInt.toNat) ((12 : Int32).toInt.toNat) (by omega) (by omega)
          have hF1611 := Fr.cpy (p0 := 60) (p1 := 2) hF1606 rfl ((0 : Int32).toInt.toNat) ((0 : Int32).toInt.toNat) ((12 : Int32).toInt.toNat)
          refine r_aload_n rfl ?_
          refine q_getR (Sh.ref hI1610.1 kx_59 rfl) ?_
          refine r_iconst 0 rfl ?_
          refine r_aload_n rfl ?_
          refine q_getR (Sh.ref hI1610.1 kx_1 rfl) ?_
          refine r_iconst 0 rfl ?_
          refine r_bipush 12 rfl ?_
          have zv1612 : (0 : Int32).toInt = 0 := rfl
          have zv1613 : (0 : Int32).toInt = 0 := rfl
          have zv1614 : (12 : Int32).toInt = 12 := rfl
          refine q_cpy rfl (Nat.le_of_ble_eq_true rfl) (Sh.arr hI1610.1 ka_61) (Sh.arr hI1610.1 ka_3) ⟨by omega, by omega, by omega, by omega, by omega⟩ ?_
          have hI1615 := HI.cpy0 hI1610 ka_61 ka_3 rfl rfl ((0 : Int32).toInt.toNat) ((0 : Int32).toInt.toNat) ((12 : Int32).toInt.toNat) (by omega) (by omega)
          have hF1616 := Fr.cpy (p0 := 61) (p1 := 3) hF1611 rfl ((0 : Int32).toInt.toNat) ((0 : Int32).toInt.toNat) ((12 : Int32).toInt.toNat)
          refine r_aload_n rfl ?_
          refine q_getR (Sh.ref hI1615.1 kx_59 rfl) ?_
          refine r_iconst 0 rfl ?_
          refine r_aload_n rfl ?_
          refine q_getR (Sh.ref hI1615.1 kx_1 rfl) ?_
          refine r_iconst 0 rfl ?_
          refine r_bipush 12 rfl ?_
          have zv1617 : (0 : Int32).toInt = 0 := rfl
          have zv1618 : (0 : Int32).toInt = 0 := rfl
          have zv1619 : (12 : Int32).toInt = 12 := rfl
          refine q_cpy rfl (Nat.le_of_ble_eq_true rfl) (Sh.arr hI1615.1 ka_62) (Sh.arr hI1615.1 ka_4) ⟨by omega, by omega, by omega, by omega, by omega⟩ ?_
          have hI1620 := HI.cpy0 hI1615 ka_62 ka_4 rfl rfl ((0 : Int32).toInt.toNat) ((0 : Int32).toInt.toNat) ((12 : Int32).toInt.toNat) (by omega) (by omega)
          have hF1621 := Fr.cpy (p0 := 62) (p1 := 4) hF1616 rfl ((0 : Int32).toInt.toNat) ((0 : Int32).toInt.toNat) ((12 : Int32).toInt.toNat)
          refine r_aload_n rfl ?_
          refine r_aload_n rfl ?_
          obtain ⟨v1622, hv1622⟩ : ∃ v, gI g0 59 4 = v := ⟨_, rfl⟩
          have rv1622 := RgF.at hI0.2.1 (p := 59) (b := 4) rfl
          rw [hv1622] at rv1622
          dsimp only at rv1622
          refine q_getI (Sh.int hI1620.1 kx_59 rfl) v1622 (((gI_sW).trans ((gI_sW).trans ((gI_sW).trans (gI_sI_ne (by decide))))).trans hv1622) ?_
          refine q_putI (Sh.int hI1620.1 kx_1 rfl) rfl ?_
          have hI1623 := HI.wI1 hI1620 kx_1 rfl (p := 1) (b := 4) (v := v1622) rfl (by dsimp only; omega)
          have hF1624 := Fr.wI (p := 1) (b := 4) (v := v1622) hF1621 rfl
          refine r_aload_n rfl ?_
          refine q_getR (Sh.ref hI1623.1 kx_59 rfl) ?_
          refine r_iconst 0 rfl ?_
          refine r_aload_n rfl ?_
          refine q_getR (Sh.ref hI1623.1 kx_1 rfl) ?_
          refine r_iconst 0 rfl ?_
          refine r_bipush 48 rfl ?_
          have zv1625 : (0 : Int32).toInt = 0 := rfl
          have zv1626 : (0 : Int32).toInt = 0 := rfl
          have zv1627 : (48 : Int32).toInt = 48 := rfl
          refine q_cpy rfl (Nat.le_of_ble_eq_true rfl) (Sh.arr hI1623.1 ka_63) (Sh.arr hI1623.1 ka_5) ⟨by omega, by omega, by omega, by omega, by omega⟩ ?_
          have hI1628 := HI.cpy0 hI1623 ka_63 ka_5 rfl rfl ((0 : Int32).toInt.toNat) ((0 : Int32).toInt.toNat) ((48 : Int32).toInt.toNat) (by omega) (by omega)
          have hF1629 := Fr.cpy (p0 := 63) (p1 := 5) hF1624 rfl ((0 : Int32).toInt.toNat) ((0 : Int32).toInt.toNat) ((48 : Int32).toInt.toNat)
          refine r_aload_n rfl ?_
          refine r_aload_n rfl ?_
          obtain ⟨v1630, hv1630⟩ : ∃ v, gI g0 59 6 = v := ⟨_, rfl⟩
          have rv1630 := RgF.at hI0.2.1 (p := 59) (b := 6) rfl
          rw [hv1630] at rv1630
          dsimp only at rv1630
          refine q_getI (Sh.int hI1628.1 kx_59 rfl) v1630 (((gI_sW).trans ((gI_sI_ne (by decide)).trans ((gI_sW).trans ((gI_sW).trans ((gI_sW).trans (gI_sI_ne (by decide))))))).trans hv1630) ?_
          refine q_putI (Sh.int hI1628.1 kx_1 rfl) rfl ?_
          have hI1631 := HI.wI1 hI1628 kx_1 rfl (p := 1) (b := 6) (v := v1630) rfl (by dsimp only; omega)
          have hF1632 := Fr.wI (p := 1) (b := 6) (v := v1630) hF1629 rfl
          refine r_iconst 0 rfl ?_
          refine r_istore_n ([(2, .int 0), (0, .ref 1), (1, .ref 59)]) rfl ?_
          refine Ar.fall 86 rfl ?_
          have z_1896 : (0 : Int32).toInt = 0 := rfl
          refine w_loopI (fun n_ l_ g_ => ∃ x1875 : Int32, n_ = 6 - x1875.toInt ∧ HI g_ ∧ Fr F_X10_back_0 A_X10_back_0 g0 g_ ∧ gI g_ 1 0 = v1604 ∧ gI g_ 1 4 = v1622 ∧ gI g_ 1 6 = v1630 ∧ en_get 0 l_ = some (.ref 1) ∧ en_get 1 l_ = some (.ref 59) ∧ en_get 2 l_ = some (.int x1875) ∧ (0 ≤ x1875.toInt ∧ x1875.toInt ≤ 6) ∧ (∀ i : Int, 0 ≤ i → i < 12 → (eA g_ 2 (i)).toInt = (eA g0 60 (i)).toInt) ∧ (∀ i : Int, 0 ≤ i → i < 12 → (eA g_ 3 (i)).toInt = (eA g0 61 (i)).toInt) ∧ (∀ i : Int, 0 ≤ i → i < 12 → (eA g_ 4 (i)).toInt = (eA g0 62 (i)).toInt) ∧ (∀ i : Int, 0 ≤ i → i < 8 → (eA g_ 14 (i)).toInt = (eA g0 14 (i)).toInt) ∧ (∀ i : Int, 0 ≤ i → i < 8 → (eA g_ 15 (i)).toInt = (eA g0 15 (i)).toInt) ∧ (∀ i : Int, 0 ≤ i → i < 48 → (eA g_ 5 (i)).toInt = (eA g0 63 (i)).toInt) ∧ (BCI g0 g_ 1 59 x1875.toInt)) ?_ (6 - 0) ⟨0, by first | rfl | omega, hI1631, hF1632, ((gI_sI_ne (by decide)).trans ((gI_sW).trans ((gI_sI_ne (by decide)).trans ((gI_sW).trans ((gI_sW).trans ((gI_sW).trans (gI_sI_eq hI0.1 kx_1 rfl _))))))), ((gI_sI_ne (by decide)).trans ((gI_sW).trans (gI_sI_eq hI1620.1 kx_1 rfl _))), (gI_sI_eq hI1628.1 kx_1 rfl _), rfl, rfl, rfl, by decide, (by intro i i0 i1; refine (eA_tq (((gA_sI).trans ((gA_sW_ne (by decide)).trans ((gA_sI).trans ((gA_sW_ne (by decide)).trans ((gA_sW_ne (by decide)).trans ((gA_cpF hI1605.1 ka_60 ka_2 (by decide) (by decide) (by decide)).trans (gA_sI))))))))).trans ?_; (first | with_reducible rfl | omega | exact eA_ix (by omega) | rfl)), (by intro i i0 i1; refine (eA_tq (((gA_sI).trans ((gA_sW_ne (by decide)).trans ((gA_sI).trans ((gA_sW_ne (by decide)).trans ((gA_cpF hI1610.1 ka_61 ka_3 (by decide) (by decide) (by decide)).trans ((gA_sW_ne (by decide)).trans (gA_sI))))))))).trans ?_; (first | with_reducible rfl | omega | exact eA_ix (by omega) | rfl)), (by intro i i0 i1; refine (eA_tq (((gA_sI).trans ((gA_sW_ne (by decide)).trans ((gA_sI).trans ((gA_cpF hI1615.1 ka_62 ka_4 (by decide) (by decide) (by decide)).trans ((gA_sW_ne (by decide)).trans ((gA_sW_ne (by decide)).trans (gA_sI))))))))).trans ?_; (first | with_reducible rfl | omega | exact eA_ix (by omega) | rfl)), (by intro i i0 i1; refine (eA_ti (((gA_sI).trans ((gA_sW_ne (by decide)).trans ((gA_sI).trans ((gA_sW_ne (by decide)).trans ((gA_sW_ne (by decide)).trans ((gA_sW_ne (by decide)).trans (gA_sI))))))))).trans ?_; (first | with_reducible rfl | omega | exact eA_ix (by omega) | rfl)), (by intro i i0 i1; refine (eA_ti (((gA_sI).trans ((gA_sW_ne (by decide)).trans ((gA_sI).trans ((gA_sW_ne (by decide)).trans ((gA_sW_ne (by decide)).trans ((gA_sW_ne (by decide)).trans (gA_sI))))))))).trans ?_; (first | with_reducible rfl | omega | exact eA_ix (by omega) | rfl)), (by intro i i0 i1; refine (eA_tq (((gA_sI).trans ((gA_cpF hI1623.1 ka_63 ka_5 (by decide) (by decide) (by decide)).trans ((gA_sI).trans ((gA_sW_ne (by decide)).trans ((gA_sW_ne (by decide)).trans ((gA_sW_ne (by decide)).trans (gA_sI))))))))).trans ?_; (first | with_reducible rfl | omega | exact eA_ix (by omega) | rfl)), (BCI_z (LSA_tr (LSA_tr (LSA_tr (LSA_tr (LSA_tr (LSA_tr (LSA_tr LSA_rf (LSA_I rfl)) (LSA_W rfl)) (LSA_W rfl)) (LSA_W rfl)) (LSA_I rfl)) (LSA_W rfl)) (LSA_I rfl)) (by first | decide | omega))⟩
          rintro n1880 l1879 g1876 ⟨x1875, hm1897, hI1877, hF1878, e1882, e1883, e1884, e1885, e1886, e1887, r1888, q1889, q1890, q1891, q1892, q1893, q1894, q1895⟩ ih1881
          have tv1898 := congrArg Int32.toInt e1882
          have tv1899 := congrArg Int32.toInt e1883
          have tv1900 := congrArg Int32.toInt e1884
          refine At.enter rfl ?_
          refine r_iload_n e1887 ?_
          refine r_bipush 6 rfl ?_
          refine r_ics 92 rfl (fun c1901 => ?_) (fun c1901 => ?_)
          · have c1901_ : x1875.toInt ≥ 6 := en_i_ge_t c1901
            refine At.enter rfl ?_
            refine r_aload_n e1885 ?_
            refine r_aload_n e1886 ?_
            obtain ⟨v1902, hv1902⟩ : ∃ v, gI g0 59 9 = v := ⟨_, rfl⟩
            refine q_getI (Sh.int hI1877.1 kx_59 rfl) v1902 ((hF1878.1 59 9 (by decide)).trans hv1902) ?_
            refine q_putI (Sh.int hI1877.1 kx_1 rfl) rfl ?_
            have hI1903 := HI.wI0 hI1877 kx_1 rfl (p := 1) (b := 9) (v := v1902) rfl
            have hF1904 := Fr.wI (p := 1) (b := 9) (v := v1902) hF1878 rfl
            refine r_aload_n e1885 ?_
            refine r_aload_n e1886 ?_
            obtain ⟨v1905, hv1905⟩ : ∃ v, gI g0 59 10 = v := ⟨_, rfl⟩
            refine q_getI (Sh.int hI1903.1 kx_59 rfl) v1905 (((gI_sI_ne (by decide)).trans (hF1878.1 59 10 (by decide))).trans hv1905) ?_
            refine q_putI (Sh.int hI1903.1 kx_1 rfl) rfl ?_
            have hI1906 := HI.wI0 hI1903 kx_1 rfl (p := 1) (b := 10) (v := v1905) rfl
            have hF1907 := Fr.wI (p := 1) (b := 10) (v := v1905) hF1904 rfl
            refine r_aload_n e1885 ?_
            refine r_aload_n e1886 ?_
            obtain ⟨v1908, hv1908⟩ : ∃ v, gI g0 59 11 = v := ⟨_, rfl⟩
            refine q_getI (Sh.int hI1906.1 kx_59 rfl) v1908 (((gI_sI_ne (by decide)).trans ((gI_sI_ne (by decide)).trans (hF1878.1 59 11 (by decide)))).trans hv1908) ?_
            refine q_putI (Sh.int hI1906.1 kx_1 rfl) rfl ?_
            have hI1909 := HI.wI0 hI1906 kx_1 rfl (p := 1) (b := 11) (v := v1908) rfl
            have hF1910 := Fr.wI (p := 1) (b := 11) (v := v1908) hF1907 rfl
            refine r_aload_n e1885 ?_
            refine r_aload_n e1886 ?_
            obtain ⟨v1911, hv1911⟩ : ∃ v, gI g0 59 12 = v := ⟨_, rfl⟩
            have rv1911 := RgF.at hI0.2.1 (p := 59) (b := 12) rfl
            rw [hv1911] at rv1911
            dsimp only at rv1911
            refine q_getI (Sh.int hI1909.1 kx_59 rfl) v1911 (((gI_sI_ne (by decide)).trans ((gI_sI_ne (by decide)).trans ((gI_sI_ne (by decide)).trans (hF1878.1 59 12 (by decide))))).trans hv1911) ?_
            refine q_putI (Sh.int hI1909.1 kx_1 rfl) rfl ?_
            have hI1912 := HI.wI1 hI1909 kx_1 rfl (p := 1) (b := 12) (v := v1911) rfl (by dsimp only; omega)
            have hF1913 := Fr.wI (p := 1) (b := 12) (v := v1911) hF1910 rfl
            refine r_aload_n e1886 ?_
            refine q_getR (Sh.ref hI1912.1 kx_59 rfl) ?_
            refine r_iconst 0 rfl ?_
            refine r_aload_n e1885 ?_
            refine q_getR (Sh.ref hI1912.1 kx_1 rfl) ?_
            refine r_iconst 0 rfl ?_
            refine r_bipush 8 rfl ?_
            have zv1914 : (0 : Int32).toInt = 0 := rfl
            have zv1915 : (0 : Int32).toInt = 0 := rfl
            have zv1916 : (8 : Int32).toInt = 8 := rfl
            refine q_cpy rfl (Nat.le_of_ble_eq_true rfl) (Sh.arr hI1912.1 ka_72) (Sh.arr hI1912.1 ka_14) ⟨by omega, by omega, by omega, by omega, by omega⟩ ?_
            have hI1917 := HI.cpy0 hI1912 ka_72 ka_14 rfl rfl ((0 : Int32).toInt.toNat) ((0 : Int32).toInt.toNat) ((8 : Int32).toInt.toNat) (by omega) (by omega)
            have hF1918 := Fr.cpy (p0 := 72) (p1 := 14) hF1913 rfl ((0 : Int32).toInt.toNat) ((0 : Int32).toInt.toNat) ((8 : Int32).toInt.toNat)
            refine r_aload_n e1886 ?_
            refine q_getR (Sh.ref hI1917.1 kx_59 rfl) ?_
            refine r_iconst 0 rfl ?_
            refine r_aload_n e1885 ?_
            refine q_getR (Sh.ref hI1917.1 kx_1 rfl) ?_
            refine r_iconst 0 rfl ?_
            refine r_bipush 8 rfl ?_
            have zv1919 : (0 : Int32).toInt = 0 := rfl
            have zv1920 : (0 : Int32).toInt = 0 := rfl
            have zv1921 : (8 : Int32).toInt = 8 := rfl
            refine q_cpy rfl (Nat.le_of_ble_eq_true rfl) (Sh.arr hI1917.1 ka_73) (Sh.arr hI1917.1 ka_15) ⟨by omega, by omega, by omega, by omega, by omega⟩ ?_
            have hI1922 := HI.cpy0 hI1917 ka_73 ka_15 rfl rfl ((0 : Int32).toInt.toNat) ((0 : Int32).toInt.toNat) ((8 : Int32).toInt.toNat) (by omega) (by omega)
            have hF1923 := Fr.cpy (p0 := 73) (p1 := 15) hF1918 rfl ((0 : Int32).toInt.toNat) ((0 : Int32).toInt.toNat) ((8 : Int32).toInt.toNat)
            refine q_vret ?_
            refine At.enter rfl ?_
            refine r_aload_n rfl ?_
            refine r_callV 44 rfl [.ref 0] [] (Nat.le_of_ble_eq_true rfl) rfl (T_X10_changed_0 _ hI1922) ?_
            rintro _ _ ⟨g1924, rfl, hI1925, hF1926, rfl, hr1928⟩
            refine At.stn ?_
            have hF1929 := Fr.tr hF1923 hF1926 rfl rfl
            refine At.enter rfl ?_
            refine r_aload_n rfl ?_
            refine r_iconst 0 rfl ?_
            refine q_inlV 49 rfl [.ref 0, .int 0] [] (Nat.le_of_ble_eq_true rfl) rfl ?_
            refine Ev.mk rfl rfl ⟨Nat.le_of_ble_eq_true rfl, Or.inr (q_rc hI1925.1 kx_0 rfl)⟩ ?_
            show At _ none _ _ (0, [(0, .ref 0), (1, .int 0)], [], (_, _)) _
            refine At.enter rfl ?_
            refine r_aload_n rfl ?_
            refine r_iconst 0 rfl ?_
            refine q_putI (Sh.int hI1925.1 kx_0 rfl) rfl ?_
            have hI1930 := HI.wI0 hI1925 kx_0 rfl (p := 0) (b := 17) (v := 0) rfl
            have hF1931 := Fr.wI (p := 0) (b := 17) (v := 0) hF1929 rfl
            refine r_iload_n rfl ?_
            refine q_ireti ?_
            refine At.enter rfl ?_
            refine r_ireti ?_
            have zv1932 : (0 : Int32).toInt = 0 := rfl
            have e : a1.toInt = 0 := by omega
            have k1933_ : (eA g0 173 0).toInt = v1602.toInt := by rw [← hv1602, e]
            have k1933 : (eA g0 173 0).toInt ≠ 0 := by omega
            obtain ⟨v1934, hv1934⟩ : ∃ v, eA g0 173 0 = v := ⟨_, rfl⟩
            have tv1934 := congrArg Int32.toInt hv1934
            have x1935 := HI.eqA hI0 (p := 173) (j := 0) (hv1934)
            have y1936 : (eA g0 173 0).toInt = v1602.toInt := by rw [← hv1602, show a1.toInt = 0 by omega]
            obtain ⟨v1937, hv1937⟩ : ∃ v, eA g0 173 1 = v := ⟨_, rfl⟩
            have tv1937 := congrArg Int32.toInt hv1937
            have x1938 := HI.eqA hI0 (p := 173) (j := 1) (hv1937)
            have y1939 : a1.toInt = 0 → (eA g0 173 0).toInt = v1602.toInt := fun e => by rw [← hv1602, e]
            have y1940 : a1.toInt = 1 → (eA g0 173 1).toInt = v1602.toInt := fun e => by rw [← hv1602, e]
            exact ⟨_, rfl, hI1930, hF1931, _, rfl, by decide, ⟨⟨⟨⟨(fun _ => ⟨(by first | rfl | decide), (HI.eqI hI1930 (p := 1) (b := 0) ((((gI_sI_ne (by decide)).trans ((hF1926.1 1 0 mf_X10_changed_0_1_0).trans ((gI_sW).trans ((gI_sW).trans ((gI_sI_ne (by decide)).trans ((gI_sI_ne (by decide)).trans ((gI_sI_ne (by decide)).trans (gI_sI_ne (by decide))))))))).trans e1882))).trans (HI.eqI hI0 (p := 59) (b := 0) (hv1604)).symm, (HI.eqI hI1930 (p := 1) (b := 12) (((gI_sI_ne (by decide)).trans ((hF1926.1 1 12 mf_X10_changed_0_1_12).trans ((gI_sW).trans ((gI_sW).trans (gI_sI_eq hI1909.1 kx_1 rfl _))))))).trans (HI.eqI hI0 (p := 59) (b := 12) (hv1911)).symm, (HI.eqI hI1930 (p := 1) (b := 10) (((gI_sI_ne (by decide)).trans ((hF1926.1 1 10 mf_X10_changed_0_1_10).trans ((gI_sW).trans ((gI_sW).trans ((gI_sI_ne (by decide)).trans ((gI_sI_ne (by decide)).trans (gI_sI_eq hI1903.1 kx_1 rfl _))))))))).trans (HI.eqI hI0 (p := 59) (b := 10) (hv1905)).symm, (HI.eqI hI1930 (p := 1) (b := 11) (((gI_sI_ne (by decide)).trans ((hF1926.1 1 11 mf_X10_changed_0_1_11).trans ((gI_sW).trans ((gI_sW).trans ((gI_sI_ne (by decide)).trans (gI_sI_eq hI1906.1 kx_1 rfl _)))))))).trans (HI.eqI hI0 (p := 59) (b := 11) (hv1908)).symm, (HI.eqI hI1930 (p := 1) (b := 4) ((((gI_sI_ne (by decide)).trans ((hF1926.1 1 4 mf_X10_changed_0_1_4).trans ((gI_sW).trans ((gI_sW).trans ((gI_sI_ne (by decide)).trans ((gI_sI_ne (by decide)).trans ((gI_sI_ne (by decide)).trans (gI_sI_ne (by decide))))))))).trans e1883))).trans (HI.eqI hI0 (p := 59) (b := 4) (hv1622)).symm, (HI.eqI hI1930 (p := 1) (b := 6) ((((gI_sI_ne (by decide)).trans ((hF1926.1 1 6 mf_X10_changed_0_1_6).trans ((gI_sW).trans ((gI_sW).trans ((gI_sI_ne (by decide)).trans ((gI_sI_ne (by decide)).trans ((gI_sI_ne (by decide)).trans (gI_sI_ne (by decide))))))))).trans e1884))).trans (HI.eqI hI0 (p := 59) (b := 6) (hv1630)).symm, (HI.eqI hI1930 (p := 1) (b := 9) (((gI_sI_ne (by decide)).trans ((hF1926.1 1 9 mf_X10_changed_0_1_9).trans ((gI_sW).trans ((gI_sW).trans ((gI_sI_ne (by decide)).trans ((gI_sI_ne (by decide)).trans ((gI_sI_ne (by decide)).trans (gI_sI_eq hI1877.1 kx_1 rfl _)))))))))).trans (HI.eqI hI0 (p := 59) (b := 9) (hv1902)).symm⟩), (fun h => absurd (e.symm.trans h.1) (by decide)), (fun h => absurd ⟨e, k1933⟩ h.1), (fun h => False.elim (by omega)), (fun h => absurd ⟨e, k1933⟩ h.2.2.1)⟩, (by intro i i0 i1; exact (Decidable.em (a1.toInt = 0 ∧ (eA g0 173 0).toInt ≠ 0)).elim (fun k118_ => by refine Eq.trans ?_ (if_pos k118_).symm; refine (eA_ti (((gA_sI).trans ((hF1926.2.1 2 ma_X10_changed_0_2).trans ((gA_sW_ne (by decide)).trans ((gA_sW_ne (by decide)).trans ((gA_sI).trans ((gA_sI).trans ((gA_sI).trans (gA_sI)))))))))).trans ?_; refine ((q1889 (i) (by first | exact i0 | omega) (by first | exact i1 | omega))).trans ?_; (first | with_reducible rfl | omega | exact eA_ix (by omega) | rfl)) (fun k118_ => by refine Eq.trans ?_ (if_neg k118_).symm; refine Eq.trans ?_ (if_neg (fun z => (show ¬ (a1.toInt = 1) from (by first | exact (fun h => absurd (e.symm.trans h) (by decide)) | omega)) z.1)).symm; refine (eA_ti (((gA_sI).trans ((hF1926.2.1 2 ma_X10_changed_0_2).trans ((gA_sW_ne (by decide)).trans ((gA_sW_ne (by decide)).trans ((gA_sI).trans ((gA_sI).trans ((gA_sI).trans (gA_sI)))))))))).trans ?_; refine ((q1889 (i) (by first | exact i0 | omega) (by first | exact i1 | omega))).trans ?_; (first | with_reducible rfl | omega | exact eA_ix (by omega) | rfl))), (by intro i i0 i1; exact (Decidable.em (a1.toInt = 0 ∧ (eA g0 173 0).toInt ≠ 0)).elim (fun k119_ => by refine Eq.trans ?_ (if_pos k119_).symm; refine (eA_ti (((gA_sI).trans ((hF1926.2.1 3 ma_X10_changed_0_3).trans ((gA_sW_ne (by decide)).trans ((gA_sW_ne (by decide)).trans ((gA_sI).trans ((gA_sI).trans ((gA_sI).trans (gA_sI)))))))))).trans ?_; refine ((q1890 (i) (by first | exact i0 | omega) (by first | exact i1 | omega))).trans ?_; (first | with_reducible rfl | omega | exact eA_ix (by omega) | rfl)) (fun k119_ => by refine Eq.trans ?_ (if_neg k119_).symm; refine Eq.trans ?_ (if_neg (fun z => (show ¬ (a1.toInt = 1) from (by first | exact (fun h => absurd (e.symm.trans h) (by decide)) | omega)) z.1)).symm; refine (eA_ti (((gA_sI).trans ((hF1926.2.1 3 ma_X10_changed_0_3).trans ((gA_sW_ne (by decide)).trans ((gA_sW_ne (by decide)).trans ((gA_sI).trans ((gA_sI).trans ((gA_sI).trans (gA_sI)))))))))).trans ?_; refine ((q1890 (i) (by first | exact i0 | omega) (by first | exact i1 | omega))).trans ?_; (first | with_reducible rfl | omega | exact eA_ix (by omega) | rfl))), (by intro i i0 i1; exact (Decidable.em (a1.toInt = 0 ∧ (eA g0 173 0).toInt ≠ 0)).elim (fun k120_ => by refine Eq.trans ?_ (if_pos k120_).symm; refine (eA_ti (((gA_sI).trans ((hF1926.2.1 4 ma_X10_changed_0_4).trans ((gA_sW_ne (by decide)).trans ((gA_sW_ne (by decide)).trans ((gA_sI).trans ((gA_sI).trans ((gA_sI).trans (gA_sI)))))))))).trans ?_; refine ((q1891 (i) (by first | exact i0 | omega) (by first | exact i1 | omega))).trans ?_; (first | with_reducible rfl | omega | exact eA_ix (by omega) | rfl)) (fun k120_ => by refine Eq.trans ?_ (if_neg k120_).symm; refine Eq.trans ?_ (if_neg (fun z => (show ¬ (a1.toInt = 1) from (by first | exact (fun h => absurd (e.symm.trans h) (by decide)) | omega)) z.1)).symm; refine (eA_ti (((gA_sI).trans ((hF1926.2.1 4 ma_X10_changed_0_4).trans ((gA_sW_ne (by decide)).trans ((gA_sW_ne (by decide)).trans ((gA_sI).trans ((gA_sI).trans ((gA_sI).trans (gA_sI)))))))))).trans ?_; refine ((q1891 (i) (by first | exact i0 | omega) (by first | exact i1 | omega))).trans ?_; (first | with_reducible rfl | omega | exact eA_ix (by omega) | rfl))), (by intro i i0 i1; exact (Decidable.em (a1.toInt = 0 ∧ (eA g0 173 0).toInt ≠ 0)).elim (fun k121_ => by refine Eq.trans ?_ (if_pos k121_).symm; refine (eA_tq (((gA_sI).trans ((hF1926.2.1 14 ma_X10_changed_0_14).trans ((gA_sW_ne (by decide)).trans ((gA_cpF hI1912.1 ka_72 ka_14 (by decide) (by decide) (by decide)).trans ((gA_sI).trans ((gA_sI).trans ((gA_sI).trans ((gA_sI).trans (hF1878.2.1 72 (by decide)))))))))))).trans ?_; (first | with_reducible rfl | omega | exact eA_ix (by omega) | rfl)) (fun k121_ => by refine Eq.trans ?_ (if_neg k121_).symm; refine Eq.trans ?_ (if_neg (fun z => (show ¬ (a1.toInt = 1) from (by first | exact (fun h => absurd (e.symm.trans h) (by decide)) | omega)) z.1)).symm; refine (eA_tq (((gA_sI).trans ((hF1926.2.1 14 ma_X10_changed_0_14).trans ((gA_sW_ne (by decide)).trans ((gA_cpF hI1912.1 ka_72 ka_14 (by decide) (by decide) (by decide)).trans ((gA_sI).trans ((gA_sI).trans ((gA_sI).trans ((gA_sI).trans (hF1878.2.1 72 (by decide)))))))))))).trans ?_; (first | with_reducible rfl | omega | exact eA_ix (by omega) | rfl))), (by intro i i0 i1; exact (Decidable.em (a1.toInt = 0 ∧ (eA g0 173 0).toInt ≠ 0)).elim (fun k122_ => by refine Eq.trans ?_ (if_pos k122_).symm; refine (eA_tq (((gA_sI).trans ((hF1926.2.1 15 ma_X10_changed_0_15).trans ((gA_cpF hI1917.1 ka_73 ka_15 (by decide) (by decide) (by decide)).trans ((gA_sW_ne (by decide)).trans ((gA_sI).trans ((gA_sI).trans ((gA_sI).trans ((gA_sI).trans (hF1878.2.1 73 (by decide)))))))))))).trans ?_; (first | with_reducible rfl | omega | exact eA_ix (by omega) | rfl)) (fun k122_ => by refine Eq.trans ?_ (if_neg k122_).symm; refine Eq.trans ?_ (if_neg (fun z => (show ¬ (a1.toInt = 1) from (by first | exact (fun h => absurd (e.symm.trans h) (by decide)) | omega)) z.1)).symm; refine (eA_tq (((gA_sI).trans ((hF1926.2.1 15 ma_X10_changed_0_15).trans ((gA_cpF hI1917.1 ka_73 ka_15 (by decide) (by decide) (by decide)).trans ((gA_sW_ne (by decide)).trans ((gA_sI).trans ((gA_sI).trans ((gA_sI).trans ((gA_sI).trans (hF1878.2.1 73 (by decide)))))))))))).trans ?_; (first | with_reducible rfl | omega | exact eA_ix (by omega) | rfl))), (by intro i i0 i1; exact (Decidable.em (a1.toInt = 0 ∧ (eA g0 173 0).toInt ≠ 0)).elim (fun k123_ => by refine Eq.trans ?_ (if_pos k123_).symm; refine (eA_ti (((gA_sI).trans ((hF1926.2.1 5 ma_X10_changed_0_5).trans ((gA_sW_ne (by decide)).trans ((gA_sW_ne (by decide)).trans ((gA_sI).trans ((gA_sI).trans ((gA_sI).trans (gA_sI)))))))))).trans ?_; refine ((q1894 (i) (by first | exact i0 | omega) (by first | exact i1 | omega))).trans ?_; (first | with_reducible rfl | omega | exact eA_ix (by omega) | rfl)) (fun k123_ => by refine Eq.trans ?_ (if_neg k123_).symm; refine Eq.trans ?_ (if_neg (fun z => (show ¬ (a1.toInt = 1) from (by first | exact (fun h => absurd (e.symm.trans h) (by decide)) | omega)) z.1)).symm; refine (eA_ti (((gA_sI).trans ((hF1926.2.1 5 ma_X10_changed_0_5).trans ((gA_sW_ne (by decide)).trans ((gA_sW_ne (by decide)).trans ((gA_sI).trans ((gA_sI).trans ((gA_sI).trans (gA_sI)))))))))).trans ?_; refine ((q1894 (i) (by first | exact i0 | omega) (by first | exact i1 | omega))).trans ?_; (first | with_reducible rfl | omega | exact eA_ix (by omega) | rfl)))⟩, ⟨(fun _ => (BCI_c (BCI_c (BCI_c (BCI_c (BCI_c (BCI_c (BCI_c (BCI_c (show BCI g0 g1876 1 59 6 from (by have e : (6 : Int) = x1875.toInt := (by omega); rw [e]; exact q1895)) (LSA_I rfl) (Or.inl rfl)) (LSA_I rfl) (Or.inl rfl)) (LSA_I rfl) (Or.inl rfl)) (LSA_I rfl) (Or.inl rfl)) (LSA_W rfl) (Or.inl rfl)) (LSA_W rfl) (Or.inl rfl)) (LSA_fr hF1926 rfl) (Or.inl rfl)) (LSA_I rfl) (Or.inl rfl))), (fun h => False.elim (by omega)), (fun h => False.elim (h.1 ⟨by omega, by omega⟩))⟩⟩, ⟨(fun _ => TOLDX_z ((congrArg Int32.toInt ((gI_sI_ne (by decide)))).trans hr1928.1)), (fun _ => SETX_z ((congrArg Int32.toInt ((gI_sI_ne (by decide)))).trans hr1928.2))⟩⟩⟩
          · have c1901_ : x1875.toInt < 6 := en_i_ge_f c1901
            refine At.enter rfl ?_
            refine r_aload_n e1885 ?_
            refine r_iload_n e1887 ?_
            refine r_callV 97 rfl [.ref 1, .int x1875] [] (Nat.le_of_ble_eq_true rfl) rfl (T_X0_lawAt_1 _ hI1877 x1875) ?_
            rintro _ _ ⟨g1941, rfl, hI1942, hF1943, v1944, rfl, hr1945⟩
            refine At.str ?_
            have ks1948 := hr1945.2.2
            have hr1947 : _ ∧ _ := ⟨hr1945.1, hr1945.2.1⟩
            have hr1947_ := hr1947.1
            have hF1946 := Fr.tr hF1878 hF1943 rfl rfl
            refine At.enter rfl ?_
            refine r_aload_n e1886 ?_
            refine r_iload_n e1887 ?_
            refine r_callV 102 rfl [.ref 59, .int x1875] [.ref (v1944)] (Nat.le_of_ble_eq_true rfl) rfl (T_X0_lawAt_59 _ hI1942 x1875) ?_
            rintro _ _ ⟨g1949, rfl, hI1950, hF1951, v1952, rfl, hr1953⟩
            refine At.str ?_
            have ks1956 := hr1953.2.2
            have hr1955 : _ ∧ _ := ⟨hr1953.1, hr1953.2.1⟩
            have hr1955_ := hr1955.1
            have hF1954 := Fr.tr hF1946 hF1951 rfl rfl
            refine At.enter rfl ?_
            refine r_callV 105 rfl [.ref (v1944), .ref (v1952)] [] (Nat.le_of_ble_eq_true rfl) rfl (T_X4_become_law _ hI1950 (v1944) hr1947_ (v1952) hr1955_) ?_
            rintro _ _ ⟨g1957, rfl, hI1958, hF1959, rfl, hr1961⟩
            refine At.stn ?_
            have hF1962 := Fr.tr hF1954 hF1959 rfl rfl
            refine At.enter rfl ?_
            refine q_iinc e1887 (x1875.toInt + 1) rfl (by omega) (fun v1963 hv1963 => ?_)
            refine r_goto ?_
            exact ih1881 (6 - v1963.toInt) _ _ ⟨v1963, by first | rfl | omega, hI1958, hF1962, (((hF1959.1 1 0 mf_X4_become_law_1_0).trans ((hF1951.1 1 0 mf_X0_lawAt_59_1_0).trans (hF1943.1 1 0 mf_X0_lawAt_1_1_0))).trans e1882), (((hF1959.1 1 4 mf_X4_become_law_1_4).trans ((hF1951.1 1 4 mf_X0_lawAt_59_1_4).trans (hF1943.1 1 4 mf_X0_lawAt_1_1_4))).trans e1883), (((hF1959.1 1 6 mf_X4_become_law_1_6).trans ((hF1951.1 1 6 mf_X0_lawAt_59_1_6).trans (hF1943.1 1 6 mf_X0_lawAt_1_1_6))).trans e1884), (w_p1 (by decide) (Or.inr rfl) e1885), (w_p1 (by decide) (Or.inr rfl) e1886), (w_e1 _ _ _), by omega, (by intro i i0 i1; refine (eA_ti (((hF1959.2.1 2 ma_X4_become_law_2).trans ((hF1951.2.1 2 ma_X0_lawAt_59_2).trans (hF1943.2.1 2 ma_X0_lawAt_1_2))))).trans ?_; refine ((q1889 (i) (by first | exact i0 | omega) (by first | exact i1 | omega))).trans ?_; (first | with_reducible rfl | omega | exact eA_ix (by omega) | rfl)), (by intro i i0 i1; refine (eA_ti (((hF1959.2.1 3 ma_X4_become_law_3).trans ((hF1951.2.1 3 ma_X0_lawAt_59_3).trans (hF1943.2.1 3 ma_X0_lawAt_1_3))))).trans ?_; refine ((q1890 (i) (by first | exact i0 | omega) (by first | exact i1 | omega))).trans ?_; (first | with_reducible rfl | omega | exact eA_ix (by omega) | rfl)), (by intro i i0 i1; refine (eA_ti (((hF1959.2.1 4 ma_X4_become_law_4).trans ((hF1951.2.1 4 ma_X0_lawAt_59_4).trans (hF1943.2.1 4 ma_X0_lawAt_1_4))))).trans ?_; refine ((q1891 (i) (by first | exact i0 | omega) (by first | exact i1 | omega))).trans ?_; (first | with_reducible rfl | omega | exact eA_ix (by omega) | rfl)), (by intro i i0 i1; refine (eA_ti (((hF1959.2.1 14 ma_X4_become_law_14).trans ((hF1951.2.1 14 ma_X0_lawAt_59_14).trans (hF1943.2.1 14 ma_X0_lawAt_1_14))))).trans ?_; refine ((q1892 (i) (by first | exact i0 | omega) (by first | exact i1 | omega))).trans ?_; (first | with_reducible rfl | omega | exact eA_ix (by omega) | rfl)), (by intro i i0 i1; refine (eA_ti (((hF1959.2.1 15 ma_X4_become_law_15).trans ((hF1951.2.1 15 ma_X0_lawAt_59_15).trans (hF1943.2.1 15 ma_X0_lawAt_1_15))))).trans ?_; refine ((q1893 (i) (by first | exact i0 | omega) (by first | exact i1 | omega))).trans ?_; (first | with_reducible rfl | omega | exact eA_ix (by omega) | rfl)), (by intro i i0 i1; refine (eA_ti (((hF1959.2.1 5 ma_X4_become_law_5).trans ((hF1951.2.1 5 ma_X0_lawAt_59_5).trans (hF1943.2.1 5 ma_X0_lawAt_1_5))))).trans ?_; refine ((q1894 (i) (by first | exact i0 | omega) (by first | exact i1 | omega))).trans ?_; (first | with_reducible rfl | omega | exact eA_ix (by omega) | rfl)), (BCI_s (BCI_c (BCI_c q1895 (LSA_fr hF1943 rfl) (Or.inl rfl)) (LSA_fr hF1951 rfl) (Or.inl rfl)) hr1961 (Or.inl rfl) (Or.inr (Or.inl rfl)) (by decide) (by omega) (by omega) (hr1947.2.trans (LATX_B _)) hr1955.2 (by omega))⟩ ⟨by omega, by omega⟩
        · have c1603_ : v1602.toInt = 0 := en_k_ne_f c1603
          refine At.enter rfl ?_
          refine r_aload_n rfl ?_
          refine r_bipush (-2) rfl ?_
          refine r_callV 31 rfl [.ref 0, .int (-2)] [] (Nat.le_of_ble_eq_true rfl) rfl (T_X10_refused_0 _ hI0 (-2) (by decide)) ?_
          rintro _ _ ⟨g1964, rfl, hI1965, hF1966, v1967, rfl, hr1968⟩
          refine At.sti ?_
          have hF1969 := Fr.tr hF0 hF1966 rfl rfl
          have zv1970 : ((-2) : Int32).toInt = (-2) := rfl
          refine At.enter rfl ?_
          refine r_ireti ?_
          obtain ⟨v1971, hv1971⟩ : ∃ v, gI g0 1 0 = v := ⟨_, rfl⟩
          have rv1971 := RgF.at hI0.2.1 (p := 1) (b := 0) rfl
          rw [hv1971] at rv1971
          dsimp only at rv1971
          have tv1971 := congrArg Int32.toInt hv1971
          obtain ⟨v1973, hv1973⟩ : ∃ v, gI g0 1 12 = v := ⟨_, rfl⟩
          have rv1973 := RgF.at hI0.2.1 (p := 1) (b := 12) rfl
          rw [hv1973] at rv1973
          dsimp only at rv1973
          have tv1973 := congrArg Int32.toInt hv1973
          obtain ⟨v1975, hv1975⟩ : ∃ v, gI g0 1 10 = v := ⟨_, rfl⟩
          have tv1975 := congrArg Int32.toInt hv1975
          obtain ⟨v1977, hv1977⟩ : ∃ v, gI g0 1 11 = v := ⟨_, rfl⟩
          have tv1977 := congrArg Int32.toInt hv1977
          obtain ⟨v1979, hv1979⟩ : ∃ v, gI g0 1 4 = v := ⟨_, rfl⟩
          have rv1979 := RgF.at hI0.2.1 (p := 1) (b := 4) rfl
          rw [hv1979] at rv1979
          dsimp only at rv1979
          have tv1979 := congrArg Int32.toInt hv1979
          obtain ⟨v1981, hv1981⟩ : ∃ v, gI g0 1 6 = v := ⟨_, rfl⟩
          have rv1981 := RgF.at hI0.2.1 (p := 1) (b := 6) rfl
          rw [hv1981] at rv1981
          dsimp only at rv1981
          have tv1981 := congrArg Int32.toInt hv1981
          obtain ⟨v1983, hv1983⟩ : ∃ v, gI g0 1 9 = v := ⟨_, rfl⟩
          have tv1983 := congrArg Int32.toInt hv1983
          obtain ⟨v1985, hv1985⟩ : ∃ v, gI g0 59 0 = v := ⟨_, rfl⟩
          have rv1985 := RgF.at hI0.2.1 (p := 59) (b := 0) rfl
          rw [hv1985] at rv1985
          dsimp only at rv1985
          have tv1985 := congrArg Int32.toInt hv1985
          obtain ⟨v1987, hv1987⟩ : ∃ v, gI g0 59 12 = v := ⟨_, rfl⟩
          have rv1987 := RgF.at hI0.2.1 (p := 59) (b := 12) rfl
          rw [hv1987] at rv1987
          dsimp only at rv1987
          have tv1987 := congrArg Int32.toInt hv1987
          obtain ⟨v1989, hv1989⟩ : ∃ v, gI g0 59 10 = v := ⟨_, rfl⟩
          have tv1989 := congrArg Int32.toInt hv1989
          obtain ⟨v1991, hv1991⟩ : ∃ v, gI g0 59 11 = v := ⟨_, rfl⟩
          have tv1991 := congrArg Int32.toInt hv1991
          obtain ⟨v1993, hv1993⟩ : ∃ v, gI g0 59 4 = v := ⟨_, rfl⟩
          have rv1993 := RgF.at hI0.2.1 (p := 59) (b := 4) rfl
          rw [hv1993] at rv1993
          dsimp only at rv1993
          have tv1993 := congrArg Int32.toInt hv1993
          obtain ⟨v1995, hv1995⟩ : ∃ v, gI g0 59 6 = v := ⟨_, rfl⟩
          have rv1995 := RgF.at hI0.2.1 (p := 59) (b := 6) rfl
          rw [hv1995] at rv1995
          dsimp only at rv1995
          have tv1995 := congrArg Int32.toInt hv1995
          obtain ⟨v1997, hv1997⟩ : ∃ v, gI g0 59 9 = v := ⟨_, rfl⟩
          have tv1997 := congrArg Int32.toInt hv1997
          obtain ⟨v1999, hv1999⟩ : ∃ v, gI g0 116 0 = v := ⟨_, rfl⟩
          have rv1999 := RgF.at hI0.2.1 (p := 116) (b := 0) rfl
          rw [hv1999] at rv1999
          dsimp only at rv1999
          have tv1999 := congrArg Int32.toInt hv1999
          obtain ⟨v2001, hv2001⟩ : ∃ v, gI g0 116 12 = v := ⟨_, rfl⟩
          have rv2001 := RgF.at hI0.2.1 (p := 116) (b := 12) rfl
          rw [hv2001] at rv2001
          dsimp only at rv2001
          have tv2001 := congrArg Int32.toInt hv2001
          obtain ⟨v2003, hv2003⟩ : ∃ v, gI g0 116 10 = v := ⟨_, rfl⟩
          have tv2003 := congrArg Int32.toInt hv2003
          obtain ⟨v2005, hv2005⟩ : ∃ v, gI g0 116 11 = v := ⟨_, rfl⟩
          have tv2005 := congrArg Int32.toInt hv2005
          obtain ⟨v2007, hv2007⟩ : ∃ v, gI g0 116 4 = v := ⟨_, rfl⟩
          have rv2007 := RgF.at hI0.2.1 (p := 116) (b := 4) rfl
          rw [hv2007] at rv2007
          dsimp only at rv2007
          have tv2007 := congrArg Int32.toInt hv2007
          obtain ⟨v2009, hv2009⟩ : ∃ v, gI g0 116 6 = v := ⟨_, rfl⟩
          have rv2009 := RgF.at hI0.2.1 (p := 116) (b := 6) rfl
          rw [hv2009] at rv2009
          dsimp only at rv2009
          have tv2009 := congrArg Int32.toInt hv2009
          obtain ⟨v2011, hv2011⟩ : ∃ v, gI g0 116 9 = v := ⟨_, rfl⟩
          have tv2011 := congrArg Int32.toInt hv2011
          obtain ⟨v2013, hv2013⟩ : ∃ v, eA g0 173 0 = v := ⟨_, rfl⟩
          have tv2013 := congrArg Int32.toInt hv2013
          have x2014 := HI.eqA hI0 (p := 173) (j := 0) (hv2013)
          have y2015 : (eA g0 173 0).toInt = v1602.toInt := by rw [← hv1602, show a1.toInt = 0 by omega]
          obtain ⟨v2016, hv2016⟩ : ∃ v, eA g0 173 1 = v := ⟨_, rfl⟩
          have tv2016 := congrArg Int32.toInt hv2016
          have x2017 := HI.eqA hI0 (p := 173) (j := 1) (hv2016)
          have y2018 : a1.toInt = 0 → (eA g0 173 0).toInt = v1602.toInt := fun e => by rw [← hv1602, e]
          have e : a1.toInt = 0 := by omega
          have z2019 := HI.eqI hI1965 (p := 1) (b := 0) (((hF1966.1 1 0 mf_X10_refused_0_1_0).trans hv1971))
          have z2020 := HI.eqI hI1965 (p := 1) (b := 12) (((hF1966.1 1 12 mf_X10_refused_0_1_12).trans hv1973))
          have z2021 := HI.eqI hI1965 (p := 1) (b := 10) (((hF1966.1 1 10 mf_X10_refused_0_1_10).trans hv1975))
          have z2022 := HI.eqI hI1965 (p := 1) (b := 11) (((hF1966.1 1 11 mf_X10_refused_0_1_11).trans hv1977))
          have z2023 := HI.eqI hI1965 (p := 1) (b := 4) (((hF1966.1 1 4 mf_X10_refused_0_1_4).trans hv1979))
          have z2024 := HI.eqI hI1965 (p := 1) (b := 6) (((hF1966.1 1 6 mf_X10_refused_0_1_6).trans hv1981))
          have z2025 := HI.eqI hI1965 (p := 1) (b := 9) (((hF1966.1 1 9 mf_X10_refused_0_1_9).trans hv1983))
          have x2026 := HI.eqA hI0 (p := 173) (j := 0) (hv2013)
          have y2027 : (eA g0 173 0).toInt = v1602.toInt := by rw [← hv1602, show a1.toInt = 0 by omega]
          have x2028 := HI.eqA hI0 (p := 173) (j := 1) (hv2016)
          have kn124_ : ¬ (a1.toInt = 0 ∧ (eA g0 173 0).toInt ≠ 0) := by omega
          have kn125_ : ¬ (a1.toInt = 1 ∧ (eA g0 173 1).toInt ≠ 0) := by omega
          have y2029 : a1.toInt = 0 → (eA g0 173 0).toInt = v1602.toInt := fun e => by rw [← hv1602, e]
          have y2030 : a1.toInt = 1 → (eA g0 173 1).toInt = v1602.toInt := fun e => by rw [← hv1602, e]
          exact ⟨_, rfl, hI1965, hF1969, _, rfl, by omega, ⟨⟨⟨⟨by omega, by omega, by omega, by omega, by omega⟩, (by intro i i0 i1; refine Eq.trans ?_ (if_neg kn124_).symm; refine Eq.trans ?_ (if_neg kn125_).symm; refine (eA_ti ((hF1966.2.1 2 ma_X10_refused_0_2))).trans ?_; (first | with_reducible rfl | omega | exact eA_ix (by omega) | rfl)), (by intro i i0 i1; refine Eq.trans ?_ (if_neg kn124_).symm; refine Eq.trans ?_ (if_neg kn125_).symm; refine (eA_ti ((hF1966.2.1 3 ma_X10_refused_0_3))).trans ?_; (first | with_reducible rfl | omega | exact eA_ix (by omega) | rfl)), (by intro i i0 i1; refine Eq.trans ?_ (if_neg kn124_).symm; refine Eq.trans ?_ (if_neg kn125_).symm; refine (eA_ti ((hF1966.2.1 4 ma_X10_refused_0_4))).trans ?_; (first | with_reducible rfl | omega | exact eA_ix (by omega) | rfl)), (by intro i i0 i1; refine Eq.trans ?_ (if_neg kn124_).symm; refine Eq.trans ?_ (if_neg kn125_).symm; refine (eA_ti ((hF1966.2.1 14 ma_X10_refused_0_14))).trans ?_; (first | with_reducible rfl | omega | exact eA_ix (by omega) | rfl)), (by intro i i0 i1; refine Eq.trans ?_ (if_neg kn124_).symm; refine Eq.trans ?_ (if_neg kn125_).symm; refine (eA_ti ((hF1966.2.1 15 ma_X10_refused_0_15))).trans ?_; (first | with_reducible rfl | omega | exact eA_ix (by omega) | rfl)), (by intro i i0 i1; refine Eq.trans ?_ (if_neg kn124_).symm; refine Eq.trans ?_ (if_neg kn125_).symm; refine (eA_ti ((hF1966.2.1 5 ma_X10_refused_0_5))).trans ?_; (first | with_reducible rfl | omega | exact eA_ix (by omega) | rfl))⟩, ⟨(fun h => False.elim (by omega)), (fun h => False.elim (by omega)), fun _ => (LSA_tr LSA_rf (LSA_fr hF1966 rfl))⟩⟩, ⟨(fun t => (TOLDX_fr hF1966 rfl rfl rfl rfl t)), (fun t => (SETX_fr hF1966 rfl rfl rfl rfl rfl t))⟩⟩⟩
      have c1601_1 : a1.toInt = 1 := by omega
      refine q_aald (Sh.rar hI0.1 ka_58) (by decide) 1 (by omega) (by decide) (some 116) rfl ?_
      refine r_goto ?_
      refine At.enter rfl ?_
      refine q_aret ?_
      refine At.enter rfl ?_
      refine r_astore_n ([(2, .ref 116), (0, .ref 0), (1, .int a1)]) rfl ?_
      refine r_aload_n rfl ?_
      refine r_nnr ?_
      refine At.enter rfl ?_
      refine r_aload_n rfl ?_
      refine q_getR (Sh.ref hI0.1 kx_0 rfl) ?_
      refine r_iload_n rfl ?_
      obtain ⟨v2031, hv2031⟩ : ∃ v, eA g0 173 a1.toInt = v := ⟨_, rfl⟩
      refine q_bald (Sh.arr hI0.1 ka_173) a1.toInt rfl (by omega) v2031 hv2031 ?_
      refine r_ifs 25 rfl (fun c2032 => ?_) (fun c2032 => ?_)
      · have c2032_ : v2031.toInt ≠ 0 := en_k_ne_t c2032
        refine At.enter rfl ?_
        refine r_aload_n rfl ?_
        refine q_getR (Sh.ref hI0.1 kx_0 rfl) ?_
        refine r_aload_n rfl ?_
        refine q_inlV 40 rfl [.ref 1, .ref 116] [] (Nat.le_of_ble_eq_true rfl) rfl ?_
        refine Ev.mk rfl rfl ⟨Nat.le_of_ble_eq_true rfl, Or.inr (q_rc hI0.1 kx_1 rfl)⟩ ?_
        show At _ none _ _ (0, [(0, .ref 1), (1, .ref 116)], [], (_, _)) _
        refine At.enter rfl ?_
        refine r_aload_n rfl ?_
        refine r_aload_n rfl ?_
        obtain ⟨v2033, hv2033⟩ : ∃ v, gI g0 116 0 = v := ⟨_, rfl⟩
        have rv2033 := RgF.at hI0.2.1 (p := 116) (b := 0) rfl
        rw [hv2033] at rv2033
        dsimp only at rv2033
        refine q_getI (Sh.int hI0.1 kx_116 rfl) v2033 hv2033 ?_
        refine q_putI (Sh.int hI0.1 kx_1 rfl) rfl ?_
        have hI2034 := HI.wI1 hI0 kx_1 rfl (p := 1) (b := 0) (v := v2033) rfl (by dsimp only; omega)
        have hF2035 := Fr.wI (p := 1) (b := 0) (v := v2033) hF0 rfl
        refine r_aload_n rfl ?_
        refine q_getR (Sh.ref hI2034.1 kx_116 rfl) ?_
        refine r_iconst 0 rfl ?_
        refine r_aload_n rfl ?_
        refine q_getR (Sh.ref hI2034.1 kx_1 rfl) ?_
        refine r_iconst 0 rfl ?_
        refine r_bipush 12 rfl ?_
        have zv2036 : (0 : Int32).toInt = 0 := rfl
        have zv2037 : (0 : Int32).toInt = 0 := rfl
        have zv2038 : (12 : Int32).toInt = 12 := rfl
        refine q_cpy rfl (Nat.le_of_ble_eq_true rfl) (Sh.arr hI2034.1 ka_117) (Sh.arr hI2034.1 ka_2) ⟨by omega, by omega, by omega, by omega, by omega⟩ ?_
        have hI2039 := HI.cpy0 hI2034 ka_117 ka_2 rfl rfl ((0 : Int32).toInt.toNat) ((0 : Int32).toInt.toNat) ((12 : Int32).toInt.toNat) (by omega) (by omega)
        have hF2040 := Fr.cpy (p0 := 117) (p1 := 2) hF2035 rfl ((0 : Int32).toInt.toNat) ((0 : Int32).toInt.toNat) ((12 : Int32).toInt.toNat)
        refine r_aload_n rfl ?_
        refine q_getR (Sh.ref hI2039.1 kx_116 rfl) ?_
        refine r_iconst 0 rfl ?_
        refine r_aload_n rfl ?_
        refine q_getR (Sh.ref hI2039.1 kx_1 rfl) ?_
        refine r_iconst 0 rfl ?_
        refine r_bipush 12 rfl ?_
        have zv2041 : (0 : Int32).toInt = 0 := rfl
        have zv2042 : (0 : Int32).toInt = 0 := rfl
        have zv2043 : (12 : Int32).toInt = 12 := rfl
        refine q_cpy rfl (Nat.le_of_ble_eq_true rfl) (Sh.arr hI2039.1 ka_118) (Sh.arr hI2039.1 ka_3) ⟨by omega, by omega, by omega, by omega, by omega⟩ ?_
        have hI2044 := HI.cpy0 hI2039 ka_118 ka_3 rfl rfl ((0 : Int32).toInt.toNat) ((0 : Int32).toInt.toNat) ((12 : Int32).toInt.toNat) (by omega) (by omega)
        have hF2045 := Fr.cpy (p0 := 118) (p1 := 3) hF2040 rfl ((0 : Int32).toInt.toNat) ((0 : Int32).toInt.toNat) ((12 : Int32).toInt.toNat)
        refine r_aload_n rfl ?_
        refine q_getR (Sh.ref hI2044.1 kx_116 rfl) ?_
        refine r_iconst 0 rfl ?_
        refine r_aload_n rfl ?_
        refine q_getR (Sh.ref hI2044.1 kx_1 rfl) ?_
        refine r_iconst 0 rfl ?_
        refine r_bipush 12 rfl ?_
        have zv2046 : (0 : Int32).toInt = 0 := rfl
        have zv2047 : (0 : Int32).toInt = 0 := rfl
        have zv2048 : (12 : Int32).toInt = 12 := rfl
        refine q_cpy rfl (Nat.le_of_ble_eq_true rfl) (Sh.arr hI2044.1 ka_119) (Sh.arr hI2044.1 ka_4) ⟨by omega, by omega, by omega, by omega, by omega⟩ ?_
        have hI2049 := HI.cpy0 hI2044 ka_119 ka_4 rfl rfl ((0 : Int32).toInt.toNat) ((0 : Int32).toInt.toNat) ((12 : Int32).toInt.toNat) (by omega) (by omega)
        have hF2050 := Fr.cpy (p0 := 119) (p1 := 4) hF2045 rfl ((0 : Int32).toInt.toNat) ((0 : Int32).toInt.toNat) ((12 : Int32).toInt.toNat)
        refine r_aload_n rfl ?_
        refine r_aload_n rfl ?_
        obtain ⟨v2051, hv2051⟩ : ∃ v, gI g0 116 4 = v := ⟨_, rfl⟩
        have rv2051 := RgF.at hI0.2.1 (p := 116) (b := 4) rfl
        rw [hv2051] at rv2051
        dsimp only at rv2051
        refine q_getI (Sh.int hI2049.1 kx_116 rfl) v2051 (((gI_sW).trans ((gI_sW).trans ((gI_sW).trans (gI_sI_ne (by decide))))).trans hv2051) ?_
        refine q_putI (Sh.int hI2049.1 kx_1 rfl) rfl ?_
        have hI2052 := HI.wI1 hI2049 kx_1 rfl (p := 1) (b := 4) (v := v2051) rfl (by dsimp only; omega)
        have hF2053 := Fr.wI (p := 1) (b := 4) (v := v2051) hF2050 rfl
        refine r_aload_n rfl ?_
        refine q_getR (Sh.ref hI2052.1 kx_116 rfl) ?_
        refine r_iconst 0 rfl ?_
        refine r_aload_n rfl ?_
        refine q_getR (Sh.ref hI2052.1 kx_1 rfl) ?_
        refine r_iconst 0 rfl ?_
        refine r_bipush 48 rfl ?_
        have zv2054 : (0 : Int32).toInt = 0 := rfl
        have zv2055 : (0 : Int32).toInt = 0 := rfl
        have zv2056 : (48 : Int32).toInt = 48 := rfl
        refine q_cpy rfl (Nat.le_of_ble_eq_true rfl) (Sh.arr hI2052.1 ka_120) (Sh.arr hI2052.1 ka_5) ⟨by omega, by omega, by omega, by omega, by omega⟩ ?_
        have hI2057 := HI.cpy0 hI2052 ka_120 ka_5 rfl rfl ((0 : Int32).toInt.toNat) ((0 : Int32).toInt.toNat) ((48 : Int32).toInt.toNat) (by omega) (by omega)
        have hF2058 := Fr.cpy (p0 := 120) (p1 := 5) hF2053 rfl ((0 : Int32).toInt.toNat) ((0 : Int32).toInt.toNat) ((48 : Int32).toInt.toNat)
        refine r_aload_n rfl ?_
        refine r_aload_n rfl ?_
        obtain ⟨v2059, hv2059⟩ : ∃ v, gI g0 116 6 = v := ⟨_, rfl⟩
        have rv2059 := RgF.at hI0.2.1 (p := 116) (b := 6) rfl
        rw [hv2059] at rv2059
        dsimp only at rv2059
        refine q_getI (Sh.int hI2057.1 kx_116 rfl) v2059 (((gI_sW).trans ((gI_sI_ne (by decide)).trans ((gI_sW).trans ((gI_sW).trans ((gI_sW).trans (gI_sI_ne (by decide))))))).trans hv2059) ?_
        refine q_putI (Sh.int hI2057.1 kx_1 rfl) rfl ?_
        have hI2060 := HI.wI1 hI2057 kx_1 rfl (p := 1) (b := 6) (v := v2059) rfl (by dsimp only; omega)
        have hF2061 := Fr.wI (p := 1) (b := 6) (v := v2059) hF2058 rfl
        refine r_iconst 0 rfl ?_
        refine r_istore_n ([(2, .int 0), (0, .ref 1), (1, .ref 116)]) rfl ?_
        refine Ar.fall 86 rfl ?_
        have z_2325 : (0 : Int32).toInt = 0 := rfl
        refine w_loopI (fun n_ l_ g_ => ∃ x2304 : Int32, n_ = 6 - x2304.toInt ∧ HI g_ ∧ Fr F_X10_back_0 A_X10_back_0 g0 g_ ∧ gI g_ 1 0 = v2033 ∧ gI g_ 1 4 = v2051 ∧ gI g_ 1 6 = v2059 ∧ en_get 0 l_ = some (.ref 1) ∧ en_get 1 l_ = some (.ref 116) ∧ en_get 2 l_ = some (.int x2304) ∧ (0 ≤ x2304.toInt ∧ x2304.toInt ≤ 6) ∧ (∀ i : Int, 0 ≤ i → i < 12 → (eA g_ 2 (i)).toInt = (eA g0 117 (i)).toInt) ∧ (∀ i : Int, 0 ≤ i → i < 12 → (eA g_ 3 (i)).toInt = (eA g0 118 (i)).toInt) ∧ (∀ i : Int, 0 ≤ i → i < 12 → (eA g_ 4 (i)).toInt = (eA g0 119 (i)).toInt) ∧ (∀ i : Int, 0 ≤ i → i < 8 → (eA g_ 14 (i)).toInt = (eA g0 14 (i)).toInt) ∧ (∀ i : Int, 0 ≤ i → i < 8 → (eA g_ 15 (i)).toInt = (eA g0 15 (i)).toInt) ∧ (∀ i : Int, 0 ≤ i → i < 48 → (eA g_ 5 (i)).toInt = (eA g0 120 (i)).toInt) ∧ (BCI g0 g_ 1 116 x2304.toInt)) ?_ (6 - 0) ⟨0, by first | rfl | omega, hI2060, hF2061, ((gI_sI_ne (by decide)).trans ((gI_sW).trans ((gI_sI_ne (by decide)).trans ((gI_sW).trans ((gI_sW).trans ((gI_sW).trans (gI_sI_eq hI0.1 kx_1 rfl _))))))), ((gI_sI_ne (by decide)).trans ((gI_sW).trans (gI_sI_eq hI2049.1 kx_1 rfl _))), (gI_sI_eq hI2057.1 kx_1 rfl _), rfl, rfl, rfl, by decide, (by intro i i0 i1; refine (eA_tq (((gA_sI).trans ((gA_sW_ne (by decide)).trans ((gA_sI).trans ((gA_sW_ne (by decide)).trans ((gA_sW_ne (by decide)).trans ((gA_cpF hI2034.1 ka_117 ka_2 (by decide) (by decide) (by decide)).trans (gA_sI))))))))).trans ?_; (first | with_reducible rfl | omega | exact eA_ix (by omega) | rfl)), (by intro i i0 i1; refine (eA_tq (((gA_sI).trans ((gA_sW_ne (by decide)).trans ((gA_sI).trans ((gA_sW_ne (by decide)).trans ((gA_cpF hI2039.1 ka_118 ka_3 (by decide) (by decide) (by decide)).trans ((gA_sW_ne (by decide)).trans (gA_sI))))))))).trans ?_; (first | with_reducible rfl | omega | exact eA_ix (by omega) | rfl)), (by intro i i0 i1; refine (eA_tq (((gA_sI).trans ((gA_sW_ne (by decide)).trans ((gA_sI).trans ((gA_cpF hI2044.1 ka_119 ka_4 (by decide) (by decide) (by decide)).trans ((gA_sW_ne (by decide)).trans ((gA_sW_ne (by decide)).trans (gA_sI))))))))).trans ?_; (first | with_reducible rfl | omega | exact eA_ix (by omega) | rfl)), (by intro i i0 i1; refine (eA_ti (((gA_sI).trans ((gA_sW_ne (by decide)).trans ((gA_sI).trans ((gA_sW_ne (by decide)).trans ((gA_sW_ne (by decide)).trans ((gA_sW_ne (by decide)).trans (gA_sI))))))))).trans ?_; (first | with_reducible rfl | omega | exact eA_ix (by omega) | rfl)), (by intro i i0 i1; refine (eA_ti (((gA_sI).trans ((gA_sW_ne (by decide)).trans ((gA_sI).trans ((gA_sW_ne (by decide)).trans ((gA_sW_ne (by decide)).trans ((gA_sW_ne (by decide)).trans (gA_sI))))))))).trans ?_; (first | with_reducible rfl | omega | exact eA_ix (by omega) | rfl)), (by intro i i0 i1; refine (eA_tq (((gA_sI).trans ((gA_cpF hI2052.1 ka_120 ka_5 (by decide) (by decide) (by decide)).trans ((gA_sI).trans ((gA_sW_ne (by decide)).trans ((gA_sW_ne (by decide)).trans ((gA_sW_ne (by decide)).trans (gA_sI))))))))).trans ?_; (first | with_reducible rfl | omega | exact eA_ix (by omega) | rfl)), (BCI_z (LSA_tr (LSA_tr (LSA_tr (LSA_tr (LSA_tr (LSA_tr (LSA_tr LSA_rf (LSA_I rfl)) (LSA_W rfl)) (LSA_W rfl)) (LSA_W rfl)) (LSA_I rfl)) (LSA_W rfl)) (LSA_I rfl)) (by first | decide | omega))⟩
        rintro n2309 l2308 g2305 ⟨x2304, hm2326, hI2306, hF2307, e2311, e2312, e2313, e2314, e2315, e2316, r2317, q2318, q2319, q2320, q2321, q2322, q2323, q2324⟩ ih2310
        have tv2327 := congrArg Int32.toInt e2311
        have tv2328 := congrArg Int32.toInt e2312
        have tv2329 := congrArg Int32.toInt e2313
        refine At.enter rfl ?_
        refine r_iload_n e2316 ?_
        refine r_bipush 6 rfl ?_
        refine r_ics 92 rfl (fun c2330 => ?_) (fun c2330 => ?_)
        · have c2330_ : x2304.toInt ≥ 6 := en_i_ge_t c2330
          refine At.enter rfl ?_
          refine r_aload_n e2314 ?_
          refine r_aload_n e2315 ?_
          obtain ⟨v2331, hv2331⟩ : ∃ v, gI g0 116 9 = v := ⟨_, rfl⟩
          refine q_getI (Sh.int hI2306.1 kx_116 rfl) v2331 ((hF2307.1 116 9 (by decide)).trans hv2331) ?_
          refine q_putI (Sh.int hI2306.1 kx_1 rfl) rfl ?_
          have hI2332 := HI.wI0 hI2306 kx_1 rfl (p := 1) (b := 9) (v := v2331) rfl
          have hF2333 := Fr.wI (p := 1) (b := 9) (v := v2331) hF2307 rfl
          refine r_aload_n e2314 ?_
          refine r_aload_n e2315 ?_
          obtain ⟨v2334, hv2334⟩ : ∃ v, gI g0 116 10 = v := ⟨_, rfl⟩
          refine q_getI (Sh.int hI2332.1 kx_116 rfl) v2334 (((gI_sI_ne (by decide)).trans (hF2307.1 116 10 (by decide))).trans hv2334) ?_
          refine q_putI (Sh.int hI2332.1 kx_1 rfl) rfl ?_
          have hI2335 := HI.wI0 hI2332 kx_1 rfl (p := 1) (b := 10) (v := v2334) rfl
          have hF2336 := Fr.wI (p := 1) (b := 10) (v := v2334) hF2333 rfl
          refine r_aload_n e2314 ?_
          refine r_aload_n e2315 ?_
          obtain ⟨v2337, hv2337⟩ : ∃ v, gI g0 116 11 = v := ⟨_, rfl⟩
          refine q_getI (Sh.int hI2335.1 kx_116 rfl) v2337 (((gI_sI_ne (by decide)).trans ((gI_sI_ne (by decide)).trans (hF2307.1 116 11 (by decide)))).trans hv2337) ?_
          refine q_putI (Sh.int hI2335.1 kx_1 rfl) rfl ?_
          have hI2338 := HI.wI0 hI2335 kx_1 rfl (p := 1) (b := 11) (v := v2337) rfl
          have hF2339 := Fr.wI (p := 1) (b := 11) (v := v2337) hF2336 rfl
          refine r_aload_n e2314 ?_
          refine r_aload_n e2315 ?_
          obtain ⟨v2340, hv2340⟩ : ∃ v, gI g0 116 12 = v := ⟨_, rfl⟩
          have rv2340 := RgF.at hI0.2.1 (p := 116) (b := 12) rfl
          rw [hv2340] at rv2340
          dsimp only at rv2340
          refine q_getI (Sh.int hI2338.1 kx_116 rfl) v2340 (((gI_sI_ne (by decide)).trans ((gI_sI_ne (by decide)).trans ((gI_sI_ne (by decide)).trans (hF2307.1 116 12 (by decide))))).trans hv2340) ?_
          refine q_putI (Sh.int hI2338.1 kx_1 rfl) rfl ?_
          have hI2341 := HI.wI1 hI2338 kx_1 rfl (p := 1) (b := 12) (v := v2340) rfl (by dsimp only; omega)
          have hF2342 := Fr.wI (p := 1) (b := 12) (v := v2340) hF2339 rfl
          refine r_aload_n e2315 ?_
          refine q_getR (Sh.ref hI2341.1 kx_116 rfl) ?_
          refine r_iconst 0 rfl ?_
          refine r_aload_n e2314 ?_
          refine q_getR (Sh.ref hI2341.1 kx_1 rfl) ?_
          refine r_iconst 0 rfl ?_
          refine r_bipush 8 rfl ?_
          have zv2343 : (0 : Int32).toInt = 0 := rfl
          have zv2344 : (0 : Int32).toInt = 0 := rfl
          have zv2345 : (8 : Int32).toInt = 8 := rfl
          refine q_cpy rfl (Nat.le_of_ble_eq_true rfl) (Sh.arr hI2341.1 ka_129) (Sh.arr hI2341.1 ka_14) ⟨by omega, by omega, by omega, by omega, by omega⟩ ?_
          have hI2346 := HI.cpy0 hI2341 ka_129 ka_14 rfl rfl ((0 : Int32).toInt.toNat) ((0 : Int32).toInt.toNat) ((8 : Int32).toInt.toNat) (by omega) (by omega)
          have hF2347 := Fr.cpy (p0 := 129) (p1 := 14) hF2342 rfl ((0 : Int32).toInt.toNat) ((0 : Int32).toInt.toNat) ((8 : Int32).toInt.toNat)
          refine r_aload_n e2315 ?_
          refine q_getR (Sh.ref hI2346.1 kx_116 rfl) ?_
          refine r_iconst 0 rfl ?_
          refine r_aload_n e2314 ?_
          refine q_getR (Sh.ref hI2346.1 kx_1 rfl) ?_
          refine r_iconst 0 rfl ?_
          refine r_bipush 8 rfl ?_
          have zv2348 : (0 : Int32).toInt = 0 := rfl
          have zv2349 : (0 : Int32).toInt = 0 := rfl
          have zv2350 : (8 : Int32).toInt = 8 := rfl
          refine q_cpy rfl (Nat.le_of_ble_eq_true rfl) (Sh.arr hI2346.1 ka_130) (Sh.arr hI2346.1 ka_15) ⟨by omega, by omega, by omega, by omega, by omega⟩ ?_
          have hI2351 := HI.cpy0 hI2346 ka_130 ka_15 rfl rfl ((0 : Int32).toInt.toNat) ((0 : Int32).toInt.toNat) ((8 : Int32).toInt.toNat) (by omega) (by omega)
          have hF2352 := Fr.cpy (p0 := 130) (p1 := 15) hF2347 rfl ((0 : Int32).toInt.toNat) ((0 : Int32).toInt.toNat) ((8 : Int32).toInt.toNat)
          refine q_vret ?_
          refine At.enter rfl ?_
          refine r_aload_n rfl ?_
          refine r_callV 44 rfl [.ref 0] [] (Nat.le_of_ble_eq_true rfl) rfl (T_X10_changed_0 _ hI2351) ?_
          rintro _ _ ⟨g2353, rfl, hI2354, hF2355, rfl, hr2357⟩
          refine At.stn ?_
          have hF2358 := Fr.tr hF2352 hF2355 rfl rfl
          refine At.enter rfl ?_
          refine r_aload_n rfl ?_
          refine r_iconst 0 rfl ?_
          refine q_inlV 49 rfl [.ref 0, .int 0] [] (Nat.le_of_ble_eq_true rfl) rfl ?_
          refine Ev.mk rfl rfl ⟨Nat.le_of_ble_eq_true rfl, Or.inr (q_rc hI2354.1 kx_0 rfl)⟩ ?_
          show At _ none _ _ (0, [(0, .ref 0), (1, .int 0)], [], (_, _)) _
          refine At.enter rfl ?_
          refine r_aload_n rfl ?_
          refine r_iconst 0 rfl ?_
          refine q_putI (Sh.int hI2354.1 kx_0 rfl) rfl ?_
          have hI2359 := HI.wI0 hI2354 kx_0 rfl (p := 0) (b := 17) (v := 0) rfl
          have hF2360 := Fr.wI (p := 0) (b := 17) (v := 0) hF2358 rfl
          refine r_iload_n rfl ?_
          refine q_ireti ?_
          refine At.enter rfl ?_
          refine r_ireti ?_
          have zv2361 : (0 : Int32).toInt = 0 := rfl
          have e : a1.toInt = 1 := by omega
          have k2362_ : (eA g0 173 1).toInt = v2031.toInt := by rw [← hv2031, e]
          have k2362 : (eA g0 173 1).toInt ≠ 0 := by omega
          obtain ⟨v2363, hv2363⟩ : ∃ v, eA g0 173 0 = v := ⟨_, rfl⟩
          have tv2363 := congrArg Int32.toInt hv2363
          have x2364 := HI.eqA hI0 (p := 173) (j := 0) (hv2363)
          obtain ⟨v2365, hv2365⟩ : ∃ v, eA g0 173 1 = v := ⟨_, rfl⟩
          have tv2365 := congrArg Int32.toInt hv2365
          have x2366 := HI.eqA hI0 (p := 173) (j := 1) (hv2365)
          have y2367 : (eA g0 173 1).toInt = v2031.toInt := by rw [← hv2031, show a1.toInt = 1 by omega]
          have y2368 : a1.toInt = 0 → (eA g0 173 0).toInt = v2031.toInt := fun e => by rw [← hv2031, e]
          have y2369 : a1.toInt = 1 → (eA g0 173 1).toInt = v2031.toInt := fun e => by rw [← hv2031, e]
          exact ⟨_, rfl, hI2359, hF2360, _, rfl, by decide, ⟨⟨⟨⟨(fun h => absurd (e.symm.trans h.1) (by decide)), (fun _ => ⟨(by first | rfl | decide), (HI.eqI hI2359 (p := 1) (b := 0) ((((gI_sI_ne (by decide)).trans ((hF2355.1 1 0 mf_X10_changed_0_1_0).trans ((gI_sW).trans ((gI_sW).trans ((gI_sI_ne (by decide)).trans ((gI_sI_ne (by decide)).trans ((gI_sI_ne (by decide)).trans (gI_sI_ne (by decide))))))))).trans e2311))).trans (HI.eqI hI0 (p := 116) (b := 0) (hv2033)).symm, (HI.eqI hI2359 (p := 1) (b := 12) (((gI_sI_ne (by decide)).trans ((hF2355.1 1 12 mf_X10_changed_0_1_12).trans ((gI_sW).trans ((gI_sW).trans (gI_sI_eq hI2338.1 kx_1 rfl _))))))).trans (HI.eqI hI0 (p := 116) (b := 12) (hv2340)).symm, (HI.eqI hI2359 (p := 1) (b := 10) (((gI_sI_ne (by decide)).trans ((hF2355.1 1 10 mf_X10_changed_0_1_10).trans ((gI_sW).trans ((gI_sW).trans ((gI_sI_ne (by decide)).trans ((gI_sI_ne (by decide)).trans (gI_sI_eq hI2332.1 kx_1 rfl _))))))))).trans (HI.eqI hI0 (p := 116) (b := 10) (hv2334)).symm, (HI.eqI hI2359 (p := 1) (b := 11) (((gI_sI_ne (by decide)).trans ((hF2355.1 1 11 mf_X10_changed_0_1_11).trans ((gI_sW).trans ((gI_sW).trans ((gI_sI_ne (by decide)).trans (gI_sI_eq hI2335.1 kx_1 rfl _)))))))).trans (HI.eqI hI0 (p := 116) (b := 11) (hv2337)).symm, (HI.eqI hI2359 (p := 1) (b := 4) ((((gI_sI_ne (by decide)).trans ((hF2355.1 1 4 mf_X10_changed_0_1_4).trans ((gI_sW).trans ((gI_sW).trans ((gI_sI_ne (by decide)).trans ((gI_sI_ne (by decide)).trans ((gI_sI_ne (by decide)).trans (gI_sI_ne (by decide))))))))).trans e2312))).trans (HI.eqI hI0 (p := 116) (b := 4) (hv2051)).symm, (HI.eqI hI2359 (p := 1) (b := 6) ((((gI_sI_ne (by decide)).trans ((hF2355.1 1 6 mf_X10_changed_0_1_6).trans ((gI_sW).trans ((gI_sW).trans ((gI_sI_ne (by decide)).trans ((gI_sI_ne (by decide)).trans ((gI_sI_ne (by decide)).trans (gI_sI_ne (by decide))))))))).trans e2313))).trans (HI.eqI hI0 (p := 116) (b := 6) (hv2059)).symm, (HI.eqI hI2359 (p := 1) (b := 9) (((gI_sI_ne (by decide)).trans ((hF2355.1 1 9 mf_X10_changed_0_1_9).trans ((gI_sW).trans ((gI_sW).trans ((gI_sI_ne (by decide)).trans ((gI_sI_ne (by decide)).trans ((gI_sI_ne (by decide)).trans (gI_sI_eq hI2306.1 kx_1 rfl _)))))))))).trans (HI.eqI hI0 (p := 116) (b := 9) (hv2331)).symm⟩), (fun h => absurd ⟨e, k2362⟩ h.2), (fun h => False.elim (by omega)), (fun h => absurd ⟨e, k2362⟩ h.2.2.2)⟩, (by intro i i0 i1; refine Eq.trans ?_ (if_neg (fun z => (show ¬ (a1.toInt = 0) from (by first | exact (fun h => absurd (e.symm.trans h) (by decide)) | omega)) z.1)).symm; exact (Decidable.em (a1.toInt = 1 ∧ (eA g0 173 1).toInt ≠ 0)).elim (fun k126_ => by refine Eq.trans ?_ (if_pos k126_).symm; refine (eA_ti (((gA_sI).trans ((hF2355.2.1 2 ma_X10_changed_0_2).trans ((gA_sW_ne (by decide)).trans ((gA_sW_ne (by decide)).trans ((gA_sI).trans ((gA_sI).trans ((gA_sI).trans (gA_sI)))))))))).trans ?_; refine ((q2318 (i) (by first | exact i0 | omega) (by first | exact i1 | omega))).trans ?_; (first | with_reducible rfl | omega | exact eA_ix (by omega) | rfl)) (fun k126_ => by refine Eq.trans ?_ (if_neg k126_).symm; refine (eA_ti (((gA_sI).trans ((hF2355.2.1 2 ma_X10_changed_0_2).trans ((gA_sW_ne (by decide)).trans ((gA_sW_ne (by decide)).trans ((gA_sI).trans ((gA_sI).trans ((gA_sI).trans (gA_sI)))))))))).trans ?_; refine ((q2318 (i) (by first | exact i0 | omega) (by first | exact i1 | omega))).trans ?_; (first | with_reducible rfl | omega | exact eA_ix (by omega) | rfl))), (by intro i i0 i1; refine Eq.trans ?_ (if_neg (fun z => (show ¬ (a1.toInt = 0) from (by first | exact (fun h => absurd (e.symm.trans h) (by decide)) | omega)) z.1)).symm; exact (Decidable.em (a1.toInt = 1 ∧ (eA g0 173 1).toInt ≠ 0)).elim (fun k127_ => by refine Eq.trans ?_ (if_pos k127_).symm; refine (eA_ti (((gA_sI).trans ((hF2355.2.1 3 ma_X10_changed_0_3).trans ((gA_sW_ne (by decide)).trans ((gA_sW_ne (by decide)).trans ((gA_sI).trans ((gA_sI).trans ((gA_sI).trans (gA_sI)))))))))).trans ?_; refine ((q2319 (i) (by first | exact i0 | omega) (by first | exact i1 | omega))).trans ?_; (first | with_reducible rfl | omega | exact eA_ix (by omega) | rfl)) (fun k127_ => by refine Eq.trans ?_ (if_neg k127_).symm; refine (eA_ti (((gA_sI).trans ((hF2355.2.1 3 ma_X10_changed_0_3).trans ((gA_sW_ne (by decide)).trans ((gA_sW_ne (by decide)).trans ((gA_sI).trans ((gA_sI).trans ((gA_sI).trans (gA_sI)))))))))).trans ?_; refine ((q2319 (i) (by first | exact i0 | omega) (by first | exact i1 | omega))).trans ?_; (first | with_reducible rfl | omega | exact eA_ix (by omega) | rfl))), (by intro i i0 i1; refine Eq.trans ?_ (if_neg (fun z => (show ¬ (a1.toInt = 0) from (by first | exact (fun h => absurd (e.symm.trans h) (by decide)) | omega)) z.1)).symm; exact (Decidable.em (a1.toInt = 1 ∧ (eA g0 173 1).toInt ≠ 0)).elim (fun k128_ => by refine Eq.trans ?_ (if_pos k128_).symm; refine (eA_ti (((gA_sI).trans ((hF2355.2.1 4 ma_X10_changed_0_4).trans ((gA_sW_ne (by decide)).trans ((gA_sW_ne (by decide)).trans ((gA_sI).trans ((gA_sI).trans ((gA_sI).trans (gA_sI)))))))))).trans ?_; refine ((q2320 (i) (by first | exact i0 | omega) (by first | exact i1 | omega))).trans ?_; (first | with_reducible rfl | omega | exact eA_ix (by omega) | rfl)) (fun k128_ => by refine Eq.trans ?_ (if_neg k128_).symm; refine (eA_ti (((gA_sI).trans ((hF2355.2.1 4 ma_X10_changed_0_4).trans ((gA_sW_ne (by decide)).trans ((gA_sW_ne (by decide)).trans ((gA_sI).trans ((gA_sI).trans ((gA_sI).trans (gA_sI)))))))))).trans ?_; refine ((q2320 (i) (by first | exact i0 | omega) (by first | exact i1 | omega))).trans ?_; (first | with_reducible rfl | omega | exact eA_ix (by omega) | rfl))), (by intro i i0 i1; refine Eq.trans ?_ (if_neg (fun z => (show ¬ (a1.toInt = 0) from (by first | exact (fun h => absurd (e.symm.trans h) (by decide)) | omega)) z.1)).symm; exact (Decidable.em (a1.toInt = 1 ∧ (eA g0 173 1).toInt ≠ 0)).elim (fun k129_ => by refine Eq.trans ?_ (if_pos k129_).symm; refine (eA_tq (((gA_sI).trans ((hF2355.2.1 14 ma_X10_changed_0_14).trans ((gA_sW_ne (by decide)).trans ((gA_cpF hI2341.1 ka_129 ka_14 (by decide) (by decide) (by decide)).trans ((gA_sI).trans ((gA_sI).trans ((gA_sI).trans ((gA_sI).trans (hF2307.2.1 129 (by decide)))))))))))).trans ?_; (first | with_reducible rfl | omega | exact eA_ix (by omega) | rfl)) (fun k129_ => by refine Eq.trans ?_ (if_neg k129_).symm; refine (eA_tq (((gA_sI).trans ((hF2355.2.1 14 ma_X10_changed_0_14).trans ((gA_sW_ne (by decide)).trans ((gA_cpF hI2341.1 ka_129 ka_14 (by decide) (by decide) (by decide)).trans ((gA_sI).trans ((gA_sI).trans ((gA_sI).trans ((gA_sI).trans (hF2307.2.1 129 (by decide)))))))))))).trans ?_; (first | with_reducible rfl | omega | exact eA_ix (by omega) | rfl))), (by intro i i0 i1; refine Eq.trans ?_ (if_neg (fun z => (show ¬ (a1.toInt = 0) from (by first | exact (fun h => absurd (e.symm.trans h) (by decide)) | omega)) z.1)).symm; exact (Decidable.em (a1.toInt = 1 ∧ (eA g0 173 1).toInt ≠ 0)).elim (fun k130_ => by refine Eq.trans ?_ (if_pos k130_).symm; refine (eA_tq (((gA_sI).trans ((hF2355.2.1 15 ma_X10_changed_0_15).trans ((gA_cpF hI2346.1 ka_130 ka_15 (by decide) (by decide) (by decide)).trans ((gA_sW_ne (by decide)).trans ((gA_sI).trans ((gA_sI).trans ((gA_sI).trans ((gA_sI).trans (hF2307.2.1 130 (by decide)))))))))))).trans ?_; (first | with_reducible rfl | omega | exact eA_ix (by omega) | rfl)) (fun k130_ => by refine Eq.trans ?_ (if_neg k130_).symm; refine (eA_tq (((gA_sI).trans ((hF2355.2.1 15 ma_X10_changed_0_15).trans ((gA_cpF hI2346.1 ka_130 ka_15 (by decide) (by decide) (by decide)).trans ((gA_sW_ne (by decide)).trans ((gA_sI).trans ((gA_sI).trans ((gA_sI).trans ((gA_sI).trans (hF2307.2.1 130 (by decide)))))))))))).trans ?_; (first | with_reducible rfl | omega | exact eA_ix (by omega) | rfl))), (by intro i i0 i1; refine Eq.trans ?_ (if_neg (fun z => (show ¬ (a1.toInt = 0) from (by first | exact (fun h => absurd (e.symm.trans h) (by decide)) | omega)) z.1)).symm; exact (Decidable.em (a1.toInt = 1 ∧ (eA g0 173 1).toInt ≠ 0)).elim (fun k131_ => by refine Eq.trans ?_ (if_pos k131_).symm; refine (eA_ti (((gA_sI).trans ((hF2355.2.1 5 ma_X10_changed_0_5).trans ((gA_sW_ne (by decide)).trans ((gA_sW_ne (by decide)).trans ((gA_sI).trans ((gA_sI).trans ((gA_sI).trans (gA_sI)))))))))).trans ?_; refine ((q2323 (i) (by first | exact i0 | omega) (by first | exact i1 | omega))).trans ?_; (first | with_reducible rfl | omega | exact eA_ix (by omega) | rfl)) (fun k131_ => by refine Eq.trans ?_ (if_neg k131_).symm; refine (eA_ti (((gA_sI).trans ((hF2355.2.1 5 ma_X10_changed_0_5).trans ((gA_sW_ne (by decide)).trans ((gA_sW_ne (by decide)).trans ((gA_sI).trans ((gA_sI).trans ((gA_sI).trans (gA_sI)))))))))).trans ?_; refine ((q2323 (i) (by first | exact i0 | omega) (by first | exact i1 | omega))).trans ?_; (first | with_reducible rfl | omega | exact eA_ix (by omega) | rfl)))⟩, ⟨(fun h => False.elim (by omega)), (fun _ => (BCI_c (BCI_c (BCI_c (BCI_c (BCI_c (BCI_c (BCI_c (BCI_c (show BCI g0 g2305 1 116 6 from (by have e : (6 : Int) = x2304.toInt := (by omega); rw [e]; exact q2324)) (LSA_I rfl) (Or.inl rfl)) (LSA_I rfl) (Or.inl rfl)) (LSA_I rfl) (Or.inl rfl)) (LSA_I rfl) (Or.inl rfl)) (LSA_W rfl) (Or.inl rfl)) (LSA_W rfl) (Or.inl rfl)) (LSA_fr hF2355 rfl) (Or.inl rfl)) (LSA_I rfl) (Or.inl rfl))), (fun h => False.elim (h.2 ⟨by omega, by omega⟩))⟩⟩, ⟨(fun _ => TOLDX_z ((congrArg Int32.toInt ((gI_sI_ne (by decide)))).trans hr2357.1)), (fun _ => SETX_z ((congrArg Int32.toInt ((gI_sI_ne (by decide)))).trans hr2357.2))⟩⟩⟩
        · have c2330_ : x2304.toInt < 6 := en_i_ge_f c2330
          refine At.enter rfl ?_
          refine r_aload_n e2314 ?_
          refine r_iload_n e2316 ?_
          refine r_callV 97 rfl [.ref 1, .int x2304] [] (Nat.le_of_ble_eq_true rfl) rfl (T_X0_lawAt_1 _ hI2306 x2304) ?_
          rintro _ _ ⟨g2370, rfl, hI2371, hF2372, v2373, rfl, hr2374⟩
          refine At.str ?_
          have ks2377 := hr2374.2.2
          have hr2376 : _ ∧ _ := ⟨hr2374.1, hr2374.2.1⟩
          have hr2376_ := hr2376.1
          have hF2375 := Fr.tr hF2307 hF2372 rfl rfl
          refine At.enter rfl ?_
          refine r_aload_n e2315 ?_
          refine r_iload_n e2316 ?_
          refine r_callV 102 rfl [.ref 116, .int x2304] [.ref (v2373)] (Nat.le_of_ble_eq_true rfl) rfl (T_X0_lawAt_116 _ hI2371 x2304) ?_
          rintro _ _ ⟨g2378, rfl, hI2379, hF2380, v2381, rfl, hr2382⟩
          refine At.str ?_
          have ks2385 := hr2382.2.2
          have hr2384 : _ ∧ _ := ⟨hr2382.1, hr2382.2.1⟩
          have hr2384_ := hr2384.1
          have hF2383 := Fr.tr hF2375 hF2380 rfl rfl
          refine At.enter rfl ?_
          refine r_callV 105 rfl [.ref (v2373), .ref (v2381)] [] (Nat.le_of_ble_eq_true rfl) rfl (T_X4_become_law _ hI2379 (v2373) hr2376_ (v2381) hr2384_) ?_
          rintro _ _ ⟨g2386, rfl, hI2387, hF2388, rfl, hr2390⟩
          refine At.stn ?_
          have hF2391 := Fr.tr hF2383 hF2388 rfl rfl
          refine At.enter rfl ?_
          refine q_iinc e2316 (x2304.toInt + 1) rfl (by omega) (fun v2392 hv2392 => ?_)
          refine r_goto ?_
          exact ih2310 (6 - v2392.toInt) _ _ ⟨v2392, by first | rfl | omega, hI2387, hF2391, (((hF2388.1 1 0 mf_X4_become_law_1_0).trans ((hF2380.1 1 0 mf_X0_lawAt_116_1_0).trans (hF2372.1 1 0 mf_X0_lawAt_1_1_0))).trans e2311), (((hF2388.1 1 4 mf_X4_become_law_1_4).trans ((hF2380.1 1 4 mf_X0_lawAt_116_1_4).trans (hF2372.1 1 4 mf_X0_lawAt_1_1_4))).trans e2312), (((hF2388.1 1 6 mf_X4_become_law_1_6).trans ((hF2380.1 1 6 mf_X0_lawAt_116_1_6).trans (hF2372.1 1 6 mf_X0_lawAt_1_1_6))).trans e2313), (w_p1 (by decide) (Or.inr rfl) e2314), (w_p1 (by decide) (Or.inr rfl) e2315), (w_e1 _ _ _), by omega, (by intro i i0 i1; refine (eA_ti (((hF2388.2.1 2 ma_X4_become_law_2).trans ((hF2380.2.1 2 ma_X0_lawAt_116_2).trans (hF2372.2.1 2 ma_X0_lawAt_1_2))))).trans ?_; refine ((q2318 (i) (by first | exact i0 | omega) (by first | exact i1 | omega))).trans ?_; (first | with_reducible rfl | omega | exact eA_ix (by omega) | rfl)), (by intro i i0 i1; refine (eA_ti (((hF2388.2.1 3 ma_X4_become_law_3).trans ((hF2380.2.1 3 ma_X0_lawAt_116_3).trans (hF2372.2.1 3 ma_X0_lawAt_1_3))))).trans ?_; refine ((q2319 (i) (by first | exact i0 | omega) (by first | exact i1 | omega))).trans ?_; (first | with_reducible rfl | omega | exact eA_ix (by omega) | rfl)), (by intro i i0 i1; refine (eA_ti (((hF2388.2.1 4 ma_X4_become_law_4).trans ((hF2380.2.1 4 ma_X0_lawAt_116_4).trans (hF2372.2.1 4 ma_X0_lawAt_1_4))))).trans ?_; refine ((q2320 (i) (by first | exact i0 | omega) (by first | exact i1 | omega))).trans ?_; (first | with_reducible rfl | omega | exact eA_ix (by omega) | rfl)), (by intro i i0 i1; refine (eA_ti (((hF2388.2.1 14 ma_X4_become_law_14).trans ((hF2380.2.1 14 ma_X0_lawAt_116_14).trans (hF2372.2.1 14 ma_X0_lawAt_1_14))))).trans ?_; refine ((q2321 (i) (by first | exact i0 | omega) (by first | exact i1 | omega))).trans ?_; (first | with_reducible rfl | omega | exact eA_ix (by omega) | rfl)), (by intro i i0 i1; refine (eA_ti (((hF2388.2.1 15 ma_X4_become_law_15).trans ((hF2380.2.1 15 ma_X0_lawAt_116_15).trans (hF2372.2.1 15 ma_X0_lawAt_1_15))))).trans ?_; refine ((q2322 (i) (by first | exact i0 | omega) (by first | exact i1 | omega))).trans ?_; (first | with_reducible rfl | omega | exact eA_ix (by omega) | rfl)), (by intro i i0 i1; refine (eA_ti (((hF2388.2.1 5 ma_X4_become_law_5).trans ((hF2380.2.1 5 ma_X0_lawAt_116_5).trans (hF2372.2.1 5 ma_X0_lawAt_1_5))))).trans ?_; refine ((q2323 (i) (by first | exact i0 | omega) (by first | exact i1 | omega))).trans ?_; (first | with_reducible rfl | omega | exact eA_ix (by omega) | rfl)), (BCI_s (BCI_c (BCI_c q2324 (LSA_fr hF2372 rfl) (Or.inl rfl)) (LSA_fr hF2380 rfl) (Or.inl rfl)) hr2390 (Or.inl rfl) (Or.inr (Or.inr rfl)) (by decide) (by omega) (by omega) (hr2376.2.trans (LATX_B _)) hr2384.2 (by omega))⟩ ⟨by omega, by omega⟩
      · have c2032_ : v2031.toInt = 0 := en_k_ne_f c2032
        refine At.enter rfl ?_
        refine r_aload_n rfl ?_
        refine r_bipush (-2) rfl ?_
        refine r_callV 31 rfl [.ref 0, .int (-2)] [] (Nat.le_of_ble_eq_true rfl) rfl (T_X10_refused_0 _ hI0 (-2) (by decide)) ?_
        rintro _ _ ⟨g2393, rfl, hI2394, hF2395, v2396, rfl, hr2397⟩
        refine At.sti ?_
        have hF2398 := Fr.tr hF0 hF2395 rfl rfl
        have zv2399 : ((-2) : Int32).toInt = (-2) := rfl
        refine At.enter rfl ?_
        refine r_ireti ?_
        obtain ⟨v2400, hv2400⟩ : ∃ v, gI g0 1 0 = v := ⟨_, rfl⟩
        have rv2400 := RgF.at hI0.2.1 (p := 1) (b := 0) rfl
        rw [hv2400] at rv2400
        dsimp only at rv2400
        have tv2400 := congrArg Int32.toInt hv2400
        obtain ⟨v2402, hv2402⟩ : ∃ v, gI g0 1 12 = v := ⟨_, rfl⟩
        have rv2402 := RgF.at hI0.2.1 (p := 1) (b := 12) rfl
        rw [hv2402] at rv2402
        dsimp only at rv2402
        have tv2402 := congrArg Int32.toInt hv2402
        obtain ⟨v2404, hv2404⟩ : ∃ v, gI g0 1 10 = v := ⟨_, rfl⟩
        have tv2404 := congrArg Int32.toInt hv2404
        obtain ⟨v2406, hv2406⟩ : ∃ v, gI g0 1 11 = v := ⟨_, rfl⟩
        have tv2406 := congrArg Int32.toInt hv2406
        obtain ⟨v2408, hv2408⟩ : ∃ v, gI g0 1 4 = v := ⟨_, rfl⟩
        have rv2408 := RgF.at hI0.2.1 (p := 1) (b := 4) rfl
        rw [hv2408] at rv2408
        dsimp only at rv2408
        have tv2408 := congrArg Int32.toInt hv2408
        obtain ⟨v2410, hv2410⟩ : ∃ v, gI g0 1 6 = v := ⟨_, rfl⟩
        have rv2410 := RgF.at hI0.2.1 (p := 1) (b := 6) rfl
        rw [hv2410] at rv2410
        dsimp only at rv2410
        have tv2410 := congrArg Int32.toInt hv2410
        obtain ⟨v2412, hv2412⟩ : ∃ v, gI g0 1 9 = v := ⟨_, rfl⟩
        have tv2412 := congrArg Int32.toInt hv2412
        obtain ⟨v2414, hv2414⟩ : ∃ v, gI g0 59 0 = v := ⟨_, rfl⟩
        have rv2414 := RgF.at hI0.2.1 (p := 59) (b := 0) rfl
        rw [hv2414] at rv2414
        dsimp only at rv2414
        have tv2414 := congrArg Int32.toInt hv2414
        obtain ⟨v2416, hv2416⟩ : ∃ v, gI g0 59 12 = v := ⟨_, rfl⟩
        have rv2416 := RgF.at hI0.2.1 (p := 59) (b := 12) rfl
        rw [hv2416] at rv2416
        dsimp only at rv2416
        have tv2416 := congrArg Int32.toInt hv2416
        obtain ⟨v2418, hv2418⟩ : ∃ v, gI g0 59 10 = v := ⟨_, rfl⟩
        have tv2418 := congrArg Int32.toInt hv2418
        obtain ⟨v2420, hv2420⟩ : ∃ v, gI g0 59 11 = v := ⟨_, rfl⟩
        have tv2420 := congrArg Int32.toInt hv2420
        obtain ⟨v2422, hv2422⟩ : ∃ v, gI g0 59 4 = v := ⟨_, rfl⟩
        have rv2422 := RgF.at hI0.2.1 (p := 59) (b := 4) rfl
        rw [hv2422] at rv2422
        dsimp only at rv2422
        have tv2422 := congrArg Int32.toInt hv2422
        obtain ⟨v2424, hv2424⟩ : ∃ v, gI g0 59 6 = v := ⟨_, rfl⟩
        have rv2424 := RgF.at hI0.2.1 (p := 59) (b := 6) rfl
        rw [hv2424] at rv2424
        dsimp only at rv2424
        have tv2424 := congrArg Int32.toInt hv2424
        obtain ⟨v2426, hv2426⟩ : ∃ v, gI g0 59 9 = v := ⟨_, rfl⟩
        have tv2426 := congrArg Int32.toInt hv2426
        obtain ⟨v2428, hv2428⟩ : ∃ v, gI g0 116 0 = v := ⟨_, rfl⟩
        have rv2428 := RgF.at hI0.2.1 (p := 116) (b := 0) rfl
        rw [hv2428] at rv2428
        dsimp only at rv2428
        have tv2428 := congrArg Int32.toInt hv2428
        obtain ⟨v2430, hv2430⟩ : ∃ v, gI g0 116 12 = v := ⟨_, rfl⟩
        have rv2430 := RgF.at hI0.2.1 (p := 116) (b := 12) rfl
        rw [hv2430] at rv2430
        dsimp only at rv2430
        have tv2430 := congrArg Int32.toInt hv2430
        obtain ⟨v2432, hv2432⟩ : ∃ v, gI g0 116 10 = v := ⟨_, rfl⟩
        have tv2432 := congrArg Int32.toInt hv2432
        obtain ⟨v2434, hv2434⟩ : ∃ v, gI g0 116 11 = v := ⟨_, rfl⟩
        have tv2434 := congrArg Int32.toInt hv2434
        obtain ⟨v2436, hv2436⟩ : ∃ v, gI g0 116 4 = v := ⟨_, rfl⟩
        have rv2436 := RgF.at hI0.2.1 (p := 116) (b := 4) rfl
        rw [hv2436] at rv2436
        dsimp only at rv2436
        have tv2436 := congrArg Int32.toInt hv2436
        obtain ⟨v2438, hv2438⟩ : ∃ v, gI g0 116 6 = v := ⟨_, rfl⟩
        have rv2438 := RgF.at hI0.2.1 (p := 116) (b := 6) rfl
        rw [hv2438] at rv2438
        dsimp only at rv2438
        have tv2438 := congrArg Int32.toInt hv2438
        obtain ⟨v2440, hv2440⟩ : ∃ v, gI g0 116 9 = v := ⟨_, rfl⟩
        have tv2440 := congrArg Int32.toInt hv2440
        obtain ⟨v2442, hv2442⟩ : ∃ v, eA g0 173 0 = v := ⟨_, rfl⟩
        have tv2442 := congrArg Int32.toInt hv2442
        have x2443 := HI.eqA hI0 (p := 173) (j := 0) (hv2442)
        obtain ⟨v2444, hv2444⟩ : ∃ v, eA g0 173 1 = v := ⟨_, rfl⟩
        have tv2444 := congrArg Int32.toInt hv2444
        have x2445 := HI.eqA hI0 (p := 173) (j := 1) (hv2444)
        have y2446 : (eA g0 173 1).toInt = v2031.toInt := by rw [← hv2031, show a1.toInt = 1 by omega]
        have y2447 : a1.toInt = 1 → (eA g0 173 1).toInt = v2031.toInt := fun e => by rw [← hv2031, e]
        have e : a1.toInt = 1 := by omega
        have z2448 := HI.eqI hI2394 (p := 1) (b := 0) (((hF2395.1 1 0 mf_X10_refused_0_1_0).trans hv2400))
        have z2449 := HI.eqI hI2394 (p := 1) (b := 12) (((hF2395.1 1 12 mf_X10_refused_0_1_12).trans hv2402))
        have z2450 := HI.eqI hI2394 (p := 1) (b := 10) (((hF2395.1 1 10 mf_X10_refused_0_1_10).trans hv2404))
        have z2451 := HI.eqI hI2394 (p := 1) (b := 11) (((hF2395.1 1 11 mf_X10_refused_0_1_11).trans hv2406))
        have z2452 := HI.eqI hI2394 (p := 1) (b := 4) (((hF2395.1 1 4 mf_X10_refused_0_1_4).trans hv2408))
        have z2453 := HI.eqI hI2394 (p := 1) (b := 6) (((hF2395.1 1 6 mf_X10_refused_0_1_6).trans hv2410))
        have z2454 := HI.eqI hI2394 (p := 1) (b := 9) (((hF2395.1 1 9 mf_X10_refused_0_1_9).trans hv2412))
        have x2455 := HI.eqA hI0 (p := 173) (j := 0) (hv2442)
        have x2456 := HI.eqA hI0 (p := 173) (j := 1) (hv2444)
        have y2457 : (eA g0 173 1).toInt = v2031.toInt := by rw [← hv2031, show a1.toInt = 1 by omega]
        have kn132_ : ¬ (a1.toInt = 0 ∧ (eA g0 173 0).toInt ≠ 0) := by omega
        have kn133_ : ¬ (a1.toInt = 1 ∧ (eA g0 173 1).toInt ≠ 0) := by omega
        have y2458 : a1.toInt = 0 → (eA g0 173 0).toInt = v2031.toInt := fun e => by rw [← hv2031, e]
        have y2459 : a1.toInt = 1 → (eA g0 173 1).toInt = v2031.toInt := fun e => by rw [← hv2031, e]
        exact ⟨_, rfl, hI2394, hF2398, _, rfl, by omega, ⟨⟨⟨⟨by omega, by omega, by omega, by omega, by omega⟩, (by intro i i0 i1; refine Eq.trans ?_ (if_neg kn132_).symm; refine Eq.trans ?_ (if_neg kn133_).symm; refine (eA_ti ((hF2395.2.1 2 ma_X10_refused_0_2))).trans ?_; (first | with_reducible rfl | omega | exact eA_ix (by omega) | rfl)), (by intro i i0 i1; refine Eq.trans ?_ (if_neg kn132_).symm; refine Eq.trans ?_ (if_neg kn133_).symm; refine (eA_ti ((hF2395.2.1 3 ma_X10_refused_0_3))).trans ?_; (first | with_reducible rfl | omega | exact eA_ix (by omega) | rfl)), (by intro i i0 i1; refine Eq.trans ?_ (if_neg kn132_).symm; refine Eq.trans ?_ (if_neg kn133_).symm; refine (eA_ti ((hF2395.2.1 4 ma_X10_refused_0_4))).trans ?_; (first | with_reducible rfl | omega | exact eA_ix (by omega) | rfl)), (by intro i i0 i1; refine Eq.trans ?_ (if_neg kn132_).symm; refine Eq.trans ?_ (if_neg kn133_).symm; refine (eA_ti ((hF2395.2.1 14 ma_X10_refused_0_14))).trans ?_; (first | with_reducible rfl | omega | exact eA_ix (by omega) | rfl)), (by intro i i0 i1; refine Eq.trans ?_ (if_neg kn132_).symm; refine Eq.trans ?_ (if_neg kn133_).symm; refine (eA_ti ((hF2395.2.1 15 ma_X10_refused_0_15))).trans ?_; (first | with_reducible rfl | omega | exact eA_ix (by omega) | rfl)), (by intro i i0 i1; refine Eq.trans ?_ (if_neg kn132_).symm; refine Eq.trans ?_ (if_neg kn133_).symm; refine (eA_ti ((hF2395.2.1 5 ma_X10_refused_0_5))).trans ?_; (first | with_reducible rfl | omega | exact eA_ix (by omega) | rfl))⟩, ⟨(fun h => False.elim (by omega)), (fun h => False.elim (by omega)), fun _ => (LSA_tr LSA_rf (LSA_fr hF2395 rfl))⟩⟩, ⟨(fun t => (TOLDX_fr hF2395 rfl rfl rfl rfl t)), (fun t => (SETX_fr hF2395 rfl rfl rfl rfl rfl t))⟩⟩⟩
