def F_X10_back_0 : List (Nat × Nat) := [(0, 14), (0, 17), (1, 0), (1, 4), (1, 6), (1, 9), (1, 10), (1, 11), (1, 12), (7, 0), (7, 3), (7, 4), (16, 0), (16, 3), (16, 4), (23, 0), (23, 3), (23, 4), (30, 0), (30, 3), (30, 4), (37, 0), (37, 3), (37, 4), (44, 0), (44, 3), (44, 4), (51, 0), (51, 3), (51, 4), (65, 0), (65, 3), (65, 4), (74, 0), (74, 3), (74, 4), (81, 0), (81, 3), (81, 4), (88, 0), (88, 3), (88, 4), (95, 0), (95, 3), (95, 4), (102, 0), (102, 3), (102, 4), (109, 0), (109, 3), (109, 4), (122, 0), (122, 3), (122, 4), (131, 0), (131, 3), (131, 4), (138, 0), (138, 3), (138, 4), (145, 0), (145, 3), (145, 4), (152, 0), (152, 3), (152, 4), (159, 0), (159, 3), (159, 4), (166, 0), (166, 3), (166, 4), (177, 0), (177, 3), (177, 4), (220, 2), (222, 2), (223, 5), (223, 10)]
def A_X10_back_0 : List Nat := [2, 3, 4, 5, 8, 9, 10, 11, 12, 13, 14, 15, 17, 18, 19, 20, 21, 22, 24, 25, 26, 27, 28, 29, 31, 32, 33, 34, 35, 36, 38, 39, 40, 41, 42, 43, 45, 46, 47, 48, 49, 50, 52, 53, 54, 55, 56, 57, 66, 67, 68, 69, 70, 71, 75, 76, 77, 78, 79, 80, 82, 83, 84, 85, 86, 87, 89, 90, 91, 92, 93, 94, 96, 97, 98, 99, 100, 101, 103, 104, 105, 106, 107, 108, 110, 111, 112, 113, 114, 115, 123, 124, 125, 126, 127, 128, 132, 133, 134, 135, 136, 137, 139, 140, 141, 142, 143, 144, 146, 147, 148, 149, 150, 151, 153, 154, 155, 156, 157, 158, 160, 161, 162, 163, 164, 165, 167, 168, 169, 170, 171, 172, 178, 179, 180, 181, 182, 183, 230]
theorem mf_X10_refused_0_1_6 : memF F_X10_refused_0 1 6 = false := by decide
theorem mf_X10_changed_0_1_12 : memF F_X10_changed_0 1 12 = false := by decide
theorem mf_X10_changed_0_1_6 : memF F_X10_changed_0 1 6 = false := by decide
theorem ma_X10_changed_0_14 : memA A_X10_changed_0 14 = false := by decide
theorem ma_X10_changed_0_15 : memA A_X10_changed_0 15 = false := by decide
theorem mf_X4_become_law_1_0 : memF F_X4_become_law 1 0 = false := by decide
theorem mf_X0_lawAt_59_1_0 : memF F_X0_lawAt_59 1 0 = false := by decide
theorem mf_X0_lawAt_1_1_0 : memF F_X0_lawAt_1 1 0 = false := by decide
theorem mf_X4_become_law_1_4 : memF F_X4_become_law 1 4 = false := by decide
theorem mf_X0_lawAt_59_1_4 : memF F_X0_lawAt_59 1 4 = false := by decide
theorem mf_X0_lawAt_1_1_4 : memF F_X0_lawAt_1 1 4 = false := by decide
theorem mf_X4_become_law_1_6 : memF F_X4_become_law 1 6 = false := by decide
theorem mf_X0_lawAt_59_1_6 : memF F_X0_lawAt_59 1 6 = false := by decide
theorem mf_X0_lawAt_1_1_6 : memF F_X0_lawAt_1 1 6 = false := by decide
theorem ma_X4_become_law_2 : memA A_X4_become_law 2 = false := by decide
theorem ma_X0_lawAt_59_2 : memA A_X0_lawAt_59 2 = false := by decide
theorem ma_X0_lawAt_1_2 : memA A_X0_lawAt_1 2 = false := by decide
theorem ma_X4_become_law_3 : memA A_X4_become_law 3 = false := by decide
theorem ma_X0_lawAt_59_3 : memA A_X0_lawAt_59 3 = false := by decide
theorem ma_X0_lawAt_1_3 : memA A_X0_lawAt_1 3 = false := by decide
theorem ma_X4_become_law_4 : memA A_X4_become_law 4 = false := by decide
theorem ma_X0_lawAt_59_4 : memA A_X0_lawAt_59 4 = false := by decide
theorem ma_X0_lawAt_1_4 : memA A_X0_lawAt_1 4 = false := by decide
theorem ma_X4_become_law_14 : memA A_X4_become_law 14 = false := by decide
theorem ma_X0_lawAt_59_14 : memA A_X0_lawAt_59 14 = false := by decide
theorem ma_X0_lawAt_1_14 : memA A_X0_lawAt_1 14 = false := by decide
theorem ma_X4_become_law_15 : memA A_X4_become_law 15 = false := by decide
theorem ma_X0_lawAt_59_15 : memA A_X0_lawAt_59 15 = false := by decide
theorem ma_X0_lawAt_1_15 : memA A_X0_lawAt_1 15 = false := by decide
theorem ma_X4_become_law_5 : memA A_X4_become_law 5 = false := by decide
theorem ma_X0_lawAt_59_5 : memA A_X0_lawAt_59 5 = false := by decide
theorem ma_X0_lawAt_1_5 : memA A_X0_lawAt_1 5 = false := by decide
theorem mf_X0_lawAt_116_1_0 : memF F_X0_lawAt_116 1 0 = false := by decide
theorem mf_X0_lawAt_116_1_4 : memF F_X0_lawAt_116 1 4 = false := by decide
theorem mf_X0_lawAt_116_1_6 : memF F_X0_lawAt_116 1 6 = false := by decide
theorem ma_X0_lawAt_116_2 : memA A_X0_lawAt_116 2 = false := by decide
theorem ma_X0_lawAt_116_3 : memA A_X0_lawAt_116 3 = false := by decide
theorem ma_X0_lawAt_116_4 : memA A_X0_lawAt_116 4 = false := by decide
theorem ma_X0_lawAt_116_14 : memA A_X0_lawAt_116 14 = false := by decide
theorem ma_X0_lawAt_116_15 : memA A_X0_lawAt_116 15 = false := by decide
theorem ma_X0_lawAt_116_5 : memA A_X0_lawAt_116 5 = false := by decide
set_option maxRecDepth 100000 in
set_option maxHeartbeats 4000000 in
theorem T_X10_back_0 (d : Nat) {N : Nat} {g0 : List en_E} (hI0 : HI g0) (a1 : Int32) : Ev (d + 3) 141 [.ref 0, .int a1] (g0, N) (fun w h' => ∃ g', h' = (g', N) ∧ HI g' ∧ Fr F_X10_back_0 A_X10_back_0 g0 g' ∧ ∃ r : Int32, w = some (.int r) ∧ ((-2) ≤ r.toInt ∧ r.toInt ≤ 0) ∧ ((((a1.toInt = 0 ∧ (eA g0 173 0).toInt ≠ 0 → r.toInt = 0 ∧ (gI g' 1 0).toInt = (gI g0 59 0).toInt ∧ (gI g' 1 12).toInt = (gI g0 59 12).toInt ∧ (gI g' 1 10).toInt = (gI g0 59 10).toInt ∧ (gI g' 1 11).toInt = (gI g0 59 11).toInt ∧ (gI g' 1 4).toInt = (gI g0 59 4).toInt ∧ (gI g' 1 6).toInt = (gI g0 59 6).toInt ∧ (gI g' 1 9).toInt = (gI g0 59 9).toInt) ∧ (a1.toInt = 1 ∧ (eA g0 173 1).toInt ≠ 0 → r.toInt = 0 ∧ (gI g' 1 0).toInt = (gI g0 116 0).toInt ∧ (gI g' 1 12).toInt = (gI g0 116 12).toInt ∧ (gI g' 1 10).toInt = (gI g0 116 10).toInt ∧ (gI g' 1 11).toInt = (gI g0 116 11).toInt ∧ (gI g' 1 4).toInt = (gI g0 116 4).toInt ∧ (gI g' 1 6).toInt = (gI g0 116 6).toInt ∧ (gI g' 1 9).toInt = (gI g0 116 9).toInt) ∧ (¬ (a1.toInt = 0 ∧ (eA g0 173 0).toInt ≠ 0) ∧ ¬ (a1.toInt = 1 ∧ (eA g0 173 1).toInt ≠ 0) → (gI g' 1 0).toInt = (gI g0 1 0).toInt ∧ (gI g' 1 12).toInt = (gI g0 1 12).toInt ∧ (gI g' 1 10).toInt = (gI g0 1 10).toInt ∧ (gI g' 1 11).toInt = (gI g0 1 11).toInt ∧ (gI g' 1 4).toInt = (gI g0 1 4).toInt ∧ (gI g' 1 6).toInt = (gI g0 1 6).toInt ∧ (gI g' 1 9).toInt = (gI g0 1 9).toInt) ∧ (a1.toInt < 0 ∨ 1 < a1.toInt → r.toInt = -1) ∧ (0 ≤ a1.toInt ∧ a1.toInt ≤ 1 ∧ ¬ (a1.toInt = 0 ∧ (eA g0 173 0).toInt ≠ 0) ∧ ¬ (a1.toInt = 1 ∧ (eA g0 173 1).toInt ≠ 0) → r.toInt = -2)) ∧ (∀ i : Int, 0 ≤ i → i < 12 → (eA g' 2 (i)).toInt = if a1.toInt = 0 ∧ (eA g0 173 0).toInt ≠ 0 then (eA g0 60 (i)).toInt else if a1.toInt = 1 ∧ (eA g0 173 1).toInt ≠ 0 then (eA g0 117 (i)).toInt else (eA g0 2 (i)).toInt) ∧ (∀ i : Int, 0 ≤ i → i < 12 → (eA g' 3 (i)).toInt = if a1.toInt = 0 ∧ (eA g0 173 0).toInt ≠ 0 then (eA g0 61 (i)).toInt else if a1.toInt = 1 ∧ (eA g0 173 1).toInt ≠ 0 then (eA g0 118 (i)).toInt else (eA g0 3 (i)).toInt) ∧ (∀ i : Int, 0 ≤ i → i < 12 → (eA g' 4 (i)).toInt = if a1.toInt = 0 ∧ (eA g0 173 0).toInt ≠ 0 then (eA g0 62 (i)).toInt else if a1.toInt = 1 ∧ (eA g0 173 1).toInt ≠ 0 then (eA g0 119 (i)).toInt else (eA g0 4 (i)).toInt) ∧ (∀ i : Int, 0 ≤ i → i < 8 → (eA g' 14 (i)).toInt = if a1.toInt = 0 ∧ (eA g0 173 0).toInt ≠ 0 then (eA g0 72 (i)).toInt else if a1.toInt = 1 ∧ (eA g0 173 1).toInt ≠ 0 then (eA g0 129 (i)).toInt else (eA g0 14 (i)).toInt) ∧ (∀ i : Int, 0 ≤ i → i < 8 → (eA g' 15 (i)).toInt = if a1.toInt = 0 ∧ (eA g0 173 0).toInt ≠ 0 then (eA g0 73 (i)).toInt else if a1.toInt = 1 ∧ (eA g0 173 1).toInt ≠ 0 then (eA g0 130 (i)).toInt else (eA g0 15 (i)).toInt) ∧ (∀ i : Int, 0 ≤ i → i < 48 → (eA g' 5 (i)).toInt = if a1.toInt = 0 ∧ (eA g0 173 0).toInt ≠ 0 then (eA g0 63 (i)).toInt else if a1.toInt = 1 ∧ (eA g0 173 1).toInt ≠ 0 then (eA g0 120 (i)).toInt else (eA g0 5 (i)).toInt)) ∧ SU r.toInt (gI g' 0 17).toInt)) := by
  have hF0 : Fr F_X10_back_0 A_X10_back_0 g0 g0 := Fr.rf
  refine Ev.mk rfl rfl ⟨Nat.le_of_ble_eq_true rfl, Or.inr (q_rc hI0.1 kx_0 rfl)⟩ ?_
  show At _ none _ _ (0, [(0, .ref 0), (1, .int a1)], [], (_, _)) _
  refine At.enter rfl ?_
  refine r_aload_n rfl ?_
  refine r_iload_n rfl ?_
  refine q_inlV 5 rfl [.ref 0, .int a1] [] (Nat.le_of_ble_eq_true rfl) rfl ?_
  refine Ev.mk rfl rfl ⟨Nat.le_of_ble_eq_true rfl, Or.inr (q_rc hI0.1 kx_0 rfl)⟩ ?_
  show At _ none _ _ (0, [(0, .ref 0), (1, .int a1)], [], (_, _)) _
  refine At.enter rfl ?_
  refine r_iload_n rfl ?_
  refine r_iconst 0 rfl ?_
  refine r_iconst 1 rfl ?_
  refine q_inlS 6 rfl [.int a1, .int 0, .int 1] [] (Nat.le_of_ble_eq_true rfl) rfl ?_
  refine Ev.mk rfl rfl ⟨Nat.le_of_ble_eq_true rfl, Or.inl rfl⟩ ?_
  show At _ none _ _ (0, [(0, .int a1), (1, .int 0), (2, .int 1)], [], (_, _)) _
  refine At.enter rfl ?_
  refine r_iload_n rfl ?_
  refine r_iload_n rfl ?_
  refine r_ics 5 rfl (fun c1343 => ?_) (fun c1343 => ?_)
  · have c1343_ : a1.toInt < 0 := en_i_lt_t c1343
    refine At.enter rfl ?_
    refine r_iconst 0 rfl ?_
    refine Ar.fall 15 rfl ?_
    refine At.enter rfl ?_
    refine q_iretz (by decide) ?_
    refine At.enter rfl ?_
    refine r_ift (by decide) ?_
    refine At.enter rfl ?_
    refine r_null ?_
    refine Ar.fall 19 rfl ?_
    refine At.enter rfl ?_
    refine q_zret ?_
    refine At.enter rfl ?_
    refine r_zstore_n ([(2, .null), (0, .ref 0), (1, .int a1)]) rfl ?_
    refine r_zload_n rfl ?_
    refine r_nnz 10 rfl ?_
    refine At.enter rfl ?_
    refine r_aload_n rfl ?_
    refine r_iconst (-1) rfl ?_
    refine r_callV 15 rfl [.ref 0, .int (-1)] [] (Nat.le_of_ble_eq_true rfl) rfl (T_X10_refused_0 _ hI0 (-1) (by decide)) ?_
    rintro _ _ ⟨g1344, rfl, hI1345, hF1346, v1347, rfl, hr1348⟩
    refine At.sti ?_
    have hF1349 := Fr.tr hF0 hF1346 rfl rfl
    have zv1350 : ((-1) : Int32).toInt = (-1) := rfl
    refine At.enter rfl ?_
    refine r_ireti ?_
    obtain ⟨v1351, hv1351⟩ : ∃ v, gI g0 1 0 = v := ⟨_, rfl⟩
    have rv1351 := RgF.at hI0.2.1 (p := 1) (b := 0) rfl
    rw [hv1351] at rv1351
    dsimp only at rv1351
    have tv1351 := congrArg Int32.toInt hv1351
    obtain ⟨v1353, hv1353⟩ : ∃ v, gI g0 1 12 = v := ⟨_, rfl⟩
    have rv1353 := RgF.at hI0.2.1 (p := 1) (b := 12) rfl
    rw [hv1353] at rv1353
    dsimp only at rv1353
    have tv1353 := congrArg Int32.toInt hv1353
    obtain ⟨v1355, hv1355⟩ : ∃ v, gI g0 1 10 = v := ⟨_, rfl⟩
    have tv1355 := congrArg Int32.toInt hv1355
    obtain ⟨v1357, hv1357⟩ : ∃ v, gI g0 1 11 = v := ⟨_, rfl⟩
    have tv1357 := congrArg Int32.toInt hv1357
    obtain ⟨v1359, hv1359⟩ : ∃ v, gI g0 1 4 = v := ⟨_, rfl⟩
    have rv1359 := RgF.at hI0.2.1 (p := 1) (b := 4) rfl
    rw [hv1359] at rv1359
    dsimp only at rv1359
    have tv1359 := congrArg Int32.toInt hv1359
    obtain ⟨v1361, hv1361⟩ : ∃ v, gI g0 1 6 = v := ⟨_, rfl⟩
    have rv1361 := RgF.at hI0.2.1 (p := 1) (b := 6) rfl
    rw [hv1361] at rv1361
    dsimp only at rv1361
    have tv1361 := congrArg Int32.toInt hv1361
    obtain ⟨v1363, hv1363⟩ : ∃ v, gI g0 1 9 = v := ⟨_, rfl⟩
    have tv1363 := congrArg Int32.toInt hv1363
    obtain ⟨v1365, hv1365⟩ : ∃ v, gI g0 59 0 = v := ⟨_, rfl⟩
    have rv1365 := RgF.at hI0.2.1 (p := 59) (b := 0) rfl
    rw [hv1365] at rv1365
    dsimp only at rv1365
    have tv1365 := congrArg Int32.toInt hv1365
    obtain ⟨v1367, hv1367⟩ : ∃ v, gI g0 59 12 = v := ⟨_, rfl⟩
    have rv1367 := RgF.at hI0.2.1 (p := 59) (b := 12) rfl
    rw [hv1367] at rv1367
    dsimp only at rv1367
    have tv1367 := congrArg Int32.toInt hv1367
    obtain ⟨v1369, hv1369⟩ : ∃ v, gI g0 59 10 = v := ⟨_, rfl⟩
    have tv1369 := congrArg Int32.toInt hv1369
    obtain ⟨v1371, hv1371⟩ : ∃ v, gI g0 59 11 = v := ⟨_, rfl⟩
    have tv1371 := congrArg Int32.toInt hv1371
    obtain ⟨v1373, hv1373⟩ : ∃ v, gI g0 59 4 = v := ⟨_, rfl⟩
    have rv1373 := RgF.at hI0.2.1 (p := 59) (b := 4) rfl
    rw [hv1373] at rv1373
    dsimp only at rv1373
    have tv1373 := congrArg Int32.toInt hv1373
    obtain ⟨v1375, hv1375⟩ : ∃ v, gI g0 59 6 = v := ⟨_, rfl⟩
    have rv1375 := RgF.at hI0.2.1 (p := 59) (b := 6) rfl
    rw [hv1375] at rv1375
    dsimp only at rv1375
    have tv1375 := congrArg Int32.toInt hv1375
    obtain ⟨v1377, hv1377⟩ : ∃ v, gI g0 59 9 = v := ⟨_, rfl⟩
    have tv1377 := congrArg Int32.toInt hv1377
    obtain ⟨v1379, hv1379⟩ : ∃ v, gI g0 116 0 = v := ⟨_, rfl⟩
    have rv1379 := RgF.at hI0.2.1 (p := 116) (b := 0) rfl
    rw [hv1379] at rv1379
    dsimp only at rv1379
    have tv1379 := congrArg Int32.toInt hv1379
    obtain ⟨v1381, hv1381⟩ : ∃ v, gI g0 116 12 = v := ⟨_, rfl⟩
    have rv1381 := RgF.at hI0.2.1 (p := 116) (b := 12) rfl
    rw [hv1381] at rv1381
    dsimp only at rv1381
    have tv1381 := congrArg Int32.toInt hv1381
    obtain ⟨v1383, hv1383⟩ : ∃ v, gI g0 116 10 = v := ⟨_, rfl⟩
    have tv1383 := congrArg Int32.toInt hv1383
    obtain ⟨v1385, hv1385⟩ : ∃ v, gI g0 116 11 = v := ⟨_, rfl⟩
    have tv1385 := congrArg Int32.toInt hv1385
    obtain ⟨v1387, hv1387⟩ : ∃ v, gI g0 116 4 = v := ⟨_, rfl⟩
    have rv1387 := RgF.at hI0.2.1 (p := 116) (b := 4) rfl
    rw [hv1387] at rv1387
    dsimp only at rv1387
    have tv1387 := congrArg Int32.toInt hv1387
    obtain ⟨v1389, hv1389⟩ : ∃ v, gI g0 116 6 = v := ⟨_, rfl⟩
    have rv1389 := RgF.at hI0.2.1 (p := 116) (b := 6) rfl
    rw [hv1389] at rv1389
    dsimp only at rv1389
    have tv1389 := congrArg Int32.toInt hv1389
    obtain ⟨v1391, hv1391⟩ : ∃ v, gI g0 116 9 = v := ⟨_, rfl⟩
    have tv1391 := congrArg Int32.toInt hv1391
    obtain ⟨v1393, hv1393⟩ : ∃ v, eA g0 173 0 = v := ⟨_, rfl⟩
    have tv1393 := congrArg Int32.toInt hv1393
    have x1394 := HI.eqA hI0 (p := 173) (j := 0) (hv1393)
    obtain ⟨v1395, hv1395⟩ : ∃ v, eA g0 173 1 = v := ⟨_, rfl⟩
    have tv1395 := congrArg Int32.toInt hv1395
    have x1396 := HI.eqA hI0 (p := 173) (j := 1) (hv1395)
    have x1397 := HI.eqI hI1345 (p := 1) (b := 0) (((hF1346.1 1 0 mf_X10_refused_0_1_0).trans hv1351))
    have x1398 := HI.eqI hI1345 (p := 1) (b := 12) (((hF1346.1 1 12 mf_X10_refused_0_1_12).trans hv1353))
    have x1399 := HI.eqI hI1345 (p := 1) (b := 10) (((hF1346.1 1 10 mf_X10_refused_0_1_10).trans hv1355))
    have x1400 := HI.eqI hI1345 (p := 1) (b := 11) (((hF1346.1 1 11 mf_X10_refused_0_1_11).trans hv1357))
    have x1401 := HI.eqI hI1345 (p := 1) (b := 4) (((hF1346.1 1 4 mf_X10_refused_0_1_4).trans hv1359))
    have x1402 := HI.eqI hI1345 (p := 1) (b := 6) (((hF1346.1 1 6 mf_X10_refused_0_1_6).trans hv1361))
    have x1403 := HI.eqI hI1345 (p := 1) (b := 9) (((hF1346.1 1 9 mf_X10_refused_0_1_9).trans hv1363))
    have x1404 := HI.eqA hI0 (p := 173) (j := 0) (hv1393)
    have x1405 := HI.eqA hI0 (p := 173) (j := 1) (hv1395)
    have kn114_ : ¬ (a1.toInt = 0 ∧ (eA g0 173 0).toInt ≠ 0) := by omega
    have kn115_ : ¬ (a1.toInt = 1 ∧ (eA g0 173 1).toInt ≠ 0) := by omega
    obtain ⟨v1406, hv1406⟩ : ∃ v, gI g1344 0 17 = v := ⟨_, rfl⟩
    have tv1406 := congrArg Int32.toInt hv1406
    exact ⟨_, rfl, hI1345, hF1349, _, rfl, by omega, ⟨⟨⟨by omega, by omega, by omega, by omega, by omega⟩, (by intro i i0 i1; refine Eq.trans ?_ (if_neg kn114_).symm; refine Eq.trans ?_ (if_neg kn115_).symm; refine (eA_ti ((hF1346.2.1 2 ma_X10_refused_0_2))).trans ?_; (first | with_reducible rfl | omega | exact eA_ix (by omega) | rfl)), (by intro i i0 i1; refine Eq.trans ?_ (if_neg kn114_).symm; refine Eq.trans ?_ (if_neg kn115_).symm; refine (eA_ti ((hF1346.2.1 3 ma_X10_refused_0_3))).trans ?_; (first | with_reducible rfl | omega | exact eA_ix (by omega) | rfl)), (by intro i i0 i1; refine Eq.trans ?_ (if_neg kn114_).symm; refine Eq.trans ?_ (if_neg kn115_).symm; refine (eA_ti ((hF1346.2.1 4 ma_X10_refused_0_4))).trans ?_; (first | with_reducible rfl | omega | exact eA_ix (by omega) | rfl)), (by intro i i0 i1; refine Eq.trans ?_ (if_neg kn114_).symm; refine Eq.trans ?_ (if_neg kn115_).symm; refine (eA_ti ((hF1346.2.1 14 ma_X10_refused_0_14))).trans ?_; (first | with_reducible rfl | omega | exact eA_ix (by omega) | rfl)), (by intro i i0 i1; refine Eq.trans ?_ (if_neg kn114_).symm; refine Eq.trans ?_ (if_neg kn115_).symm; refine (eA_ti ((hF1346.2.1 15 ma_X10_refused_0_15))).trans ?_; (first | with_reducible rfl | omega | exact eA_ix (by omega) | rfl)), (by intro i i0 i1; refine Eq.trans ?_ (if_neg kn114_).symm; refine Eq.trans ?_ (if_neg kn115_).symm; refine (eA_ti ((hF1346.2.1 5 ma_X10_refused_0_5))).trans ?_; (first | with_reducible rfl | omega | exact eA_ix (by omega) | rfl))⟩, (SU.mk (by omega))⟩⟩
  · have c1343_ : a1.toInt ≥ 0 := en_i_lt_f c1343
    refine At.enter rfl ?_
    refine r_iload_n rfl ?_
    refine r_iload_n rfl ?_
    refine r_ics 10 rfl (fun c1408 => ?_) (fun c1408 => ?_)
    · have c1408_ : a1.toInt > 1 := en_i_gt_t c1408
      refine At.enter rfl ?_
      refine r_iconst 0 rfl ?_
      refine Ar.fall 15 rfl ?_
      refine At.enter rfl ?_
      refine q_iretz (by decide) ?_
      refine At.enter rfl ?_
      refine r_ift (by decide) ?_
      refine At.enter rfl ?_
      refine r_null ?_
      refine Ar.fall 19 rfl ?_
      refine At.enter rfl ?_
      refine q_zret ?_
      refine At.enter rfl ?_
      refine r_zstore_n ([(2, .null), (0, .ref 0), (1, .int a1)]) rfl ?_
      refine r_zload_n rfl ?_
      refine r_nnz 10 rfl ?_
      refine At.enter rfl ?_
      refine r_aload_n rfl ?_
      refine r_iconst (-1) rfl ?_
      refine r_callV 15 rfl [.ref 0, .int (-1)] [] (Nat.le_of_ble_eq_true rfl) rfl (T_X10_refused_0 _ hI0 (-1) (by decide)) ?_
      rintro _ _ ⟨g1409, rfl, hI1410, hF1411, v1412, rfl, hr1413⟩
      refine At.sti ?_
      have hF1414 := Fr.tr hF0 hF1411 rfl rfl
      have zv1415 : ((-1) : Int32).toInt = (-1) := rfl
      refine At.enter rfl ?_
      refine r_ireti ?_
      obtain ⟨v1416, hv1416⟩ : ∃ v, gI g0 1 0 = v := ⟨_, rfl⟩
      have rv1416 := RgF.at hI0.2.1 (p := 1) (b := 0) rfl
      rw [hv1416] at rv1416
      dsimp only at rv1416
      have tv1416 := congrArg Int32.toInt hv1416
      obtain ⟨v1418, hv1418⟩ : ∃ v, gI g0 1 12 = v := ⟨_, rfl⟩
      have rv1418 := RgF.at hI0.2.1 (p := 1) (b := 12) rfl
      rw [hv1418] at rv1418
      dsimp only at rv1418
      have tv1418 := congrArg Int32.toInt hv1418
      obtain ⟨v1420, hv1420⟩ : ∃ v, gI g0 1 10 = v := ⟨_, rfl⟩
      have tv1420 := congrArg Int32.toInt hv1420
      obtain ⟨v1422, hv1422⟩ : ∃ v, gI g0 1 11 = v := ⟨_, rfl⟩
      have tv1422 := congrArg Int32.toInt hv1422
      obtain ⟨v1424, hv1424⟩ : ∃ v, gI g0 1 4 = v := ⟨_, rfl⟩
      have rv1424 := RgF.at hI0.2.1 (p := 1) (b := 4) rfl
      rw [hv1424] at rv1424
      dsimp only at rv1424
      have tv1424 := congrArg Int32.toInt hv1424
      obtain ⟨v1426, hv1426⟩ : ∃ v, gI g0 1 6 = v := ⟨_, rfl⟩
      have rv1426 := RgF.at hI0.2.1 (p := 1) (b := 6) rfl
      rw [hv1426] at rv1426
      dsimp only at rv1426
      have tv1426 := congrArg Int32.toInt hv1426
      obtain ⟨v1428, hv1428⟩ : ∃ v, gI g0 1 9 = v := ⟨_, rfl⟩
      have tv1428 := congrArg Int32.toInt hv1428
      obtain ⟨v1430, hv1430⟩ : ∃ v, gI g0 59 0 = v := ⟨_, rfl⟩
      have rv1430 := RgF.at hI0.2.1 (p := 59) (b := 0) rfl
      rw [hv1430] at rv1430
      dsimp only at rv1430
      have tv1430 := congrArg Int32.toInt hv1430
      obtain ⟨v1432, hv1432⟩ : ∃ v, gI g0 59 12 = v := ⟨_, rfl⟩
      have rv1432 := RgF.at hI0.2.1 (p := 59) (b := 12) rfl
      rw [hv1432] at rv1432
      dsimp only at rv1432
      have tv1432 := congrArg Int32.toInt hv1432
      obtain ⟨v1434, hv1434⟩ : ∃ v, gI g0 59 10 = v := ⟨_, rfl⟩
      have tv1434 := congrArg Int32.toInt hv1434
      obtain ⟨v1436, hv1436⟩ : ∃ v, gI g0 59 11 = v := ⟨_, rfl⟩
      have tv1436 := congrArg Int32.toInt hv1436
      obtain ⟨v1438, hv1438⟩ : ∃ v, gI g0 59 4 = v := ⟨_, rfl⟩
      have rv1438 := RgF.at hI0.2.1 (p := 59) (b := 4) rfl
      rw [hv1438] at rv1438
      dsimp only at rv1438
      have tv1438 := congrArg Int32.toInt hv1438
      obtain ⟨v1440, hv1440⟩ : ∃ v, gI g0 59 6 = v := ⟨_, rfl⟩
      have rv1440 := RgF.at hI0.2.1 (p := 59) (b := 6) rfl
      rw [hv1440] at rv1440
      dsimp only at rv1440
      have tv1440 := congrArg Int32.toInt hv1440
      obtain ⟨v1442, hv1442⟩ : ∃ v, gI g0 59 9 = v := ⟨_, rfl⟩
      have tv1442 := congrArg Int32.toInt hv1442
      obtain ⟨v1444, hv1444⟩ : ∃ v, gI g0 116 0 = v := ⟨_, rfl⟩
      have rv1444 := RgF.at hI0.2.1 (p := 116) (b := 0) rfl
      rw [hv1444] at rv1444
      dsimp only at rv1444
      have tv1444 := congrArg Int32.toInt hv1444
      obtain ⟨v1446, hv1446⟩ : ∃ v, gI g0 116 12 = v := ⟨_, rfl⟩
      have rv1446 := RgF.at hI0.2.1 (p := 116) (b := 12) rfl
      rw [hv1446] at rv1446
      dsimp only at rv1446
      have tv1446 := congrArg Int32.toInt hv1446
      obtain ⟨v1448, hv1448⟩ : ∃ v, gI g0 116 10 = v := ⟨_, rfl⟩
      have tv1448 := congrArg Int32.toInt hv1448
      obtain ⟨v1450, hv1450⟩ : ∃ v, gI g0 116 11 = v := ⟨_, rfl⟩
      have tv1450 := congrArg Int32.toInt hv1450
      obtain ⟨v1452, hv1452⟩ : ∃ v, gI g0 116 4 = v := ⟨_, rfl⟩
      have rv1452 := RgF.at hI0.2.1 (p := 116) (b := 4) rfl
      rw [hv1452] at rv1452
      dsimp only at rv1452
      have tv1452 := congrArg Int32.toInt hv1452
      obtain ⟨v1454, hv1454⟩ : ∃ v, gI g0 116 6 = v := ⟨_, rfl⟩
      have rv1454 := RgF.at hI0.2.1 (p := 116) (b := 6) rfl
      rw [hv1454] at rv1454
      dsimp only at rv1454
      have tv1454 := congrArg Int32.toInt hv1454
      obtain ⟨v1456, hv1456⟩ : ∃ v, gI g0 116 9 = v := ⟨_, rfl⟩
      have tv1456 := congrArg Int32.toInt hv1456
      obtain ⟨v1458, hv1458⟩ : ∃ v, eA g0 173 0 = v := ⟨_, rfl⟩
      have tv1458 := congrArg Int32.toInt hv1458
      have x1459 := HI.eqA hI0 (p := 173) (j := 0) (hv1458)
      obtain ⟨v1460, hv1460⟩ : ∃ v, eA g0 173 1 = v := ⟨_, rfl⟩
      have tv1460 := congrArg Int32.toInt hv1460
      have x1461 := HI.eqA hI0 (p := 173) (j := 1) (hv1460)
      have x1462 := HI.eqI hI1410 (p := 1) (b := 0) (((hF1411.1 1 0 mf_X10_refused_0_1_0).trans hv1416))
      have x1463 := HI.eqI hI1410 (p := 1) (b := 12) (((hF1411.1 1 12 mf_X10_refused_0_1_12).trans hv1418))
      have x1464 := HI.eqI hI1410 (p := 1) (b := 10) (((hF1411.1 1 10 mf_X10_refused_0_1_10).trans hv1420))
      have x1465 := HI.eqI hI1410 (p := 1) (b := 11) (((hF1411.1 1 11 mf_X10_refused_0_1_11).trans hv1422))
      have x1466 := HI.eqI hI1410 (p := 1) (b := 4) (((hF1411.1 1 4 mf_X10_refused_0_1_4).trans hv1424))
      have x1467 := HI.eqI hI1410 (p := 1) (b := 6) (((hF1411.1 1 6 mf_X10_refused_0_1_6).trans hv1426))
      have x1468 := HI.eqI hI1410 (p := 1) (b := 9) (((hF1411.1 1 9 mf_X10_refused_0_1_9).trans hv1428))
      have x1469 := HI.eqA hI0 (p := 173) (j := 0) (hv1458)
      have x1470 := HI.eqA hI0 (p := 173) (j := 1) (hv1460)
      have kn116_ : ¬ (a1.toInt = 0 ∧ (eA g0 173 0).toInt ≠ 0) := by omega
      have kn117_ : ¬ (a1.toInt = 1 ∧ (eA g0 173 1).toInt ≠ 0) := by omega
      obtain ⟨v1471, hv1471⟩ : ∃ v, gI g1409 0 17 = v := ⟨_, rfl⟩
      have tv1471 := congrArg Int32.toInt hv1471
      exact ⟨_, rfl, hI1410, hF1414, _, rfl, by omega, ⟨⟨⟨by omega, by omega, by omega, by omega, by omega⟩, (by intro i i0 i1; refine Eq.trans ?_ (if_neg kn116_).symm; refine Eq.trans ?_ (if_neg kn117_).symm; refine (eA_ti ((hF1411.2.1 2 ma_X10_refused_0_2))).trans ?_; (first | with_reducible rfl | omega | exact eA_ix (by omega) | rfl)), (by intro i i0 i1; refine Eq.trans ?_ (if_neg kn116_).symm; refine Eq.trans ?_ (if_neg kn117_).symm; refine (eA_ti ((hF1411.2.1 3 ma_X10_refused_0_3))).trans ?_; (first | with_reducible rfl | omega | exact eA_ix (by omega) | rfl)), (by intro i i0 i1; refine Eq.trans ?_ (if_neg kn116_).symm; refine Eq.trans ?_ (if_neg kn117_).symm; refine (eA_ti ((hF1411.2.1 4 ma_X10_refused_0_4))).trans ?_; (first | with_reducible rfl | omega | exact eA_ix (by omega) | rfl)), (by intro i i0 i1; refine Eq.trans ?_ (if_neg kn116_).symm; refine Eq.trans ?_ (if_neg kn117_).symm; refine (eA_ti ((hF1411.2.1 14 ma_X10_refused_0_14))).trans ?_; (first | with_reducible rfl | omega | exact eA_ix (by omega) | rfl)), (by intro i i0 i1; refine Eq.trans ?_ (if_neg kn116_).symm; refine Eq.trans ?_ (if_neg kn117_).symm; refine (eA_ti ((hF1411.2.1 15 ma_X10_refused_0_15))).trans ?_; (first | with_reducible rfl | omega | exact eA_ix (by omega) | rfl)), (by intro i i0 i1; refine Eq.trans ?_ (if_neg kn116_).symm; refine Eq.trans ?_ (if_neg kn117_).symm; refine (eA_ti ((hF1411.2.1 5 ma_X10_refused_0_5))).trans ?_; (first | with_reducible rfl | omega | exact eA_ix (by omega) | rfl))⟩, (SU.mk (by omega))⟩⟩
    · have c1408_ : a1.toInt ≤ 1 := en_i_gt_f c1408
      refine At.enter rfl ?_
      refine r_iconst 1 rfl ?_
      refine r_goto ?_
      refine At.enter rfl ?_
      refine q_iretz (by decide) ?_
      refine At.enter rfl ?_
      refine r_iff 9 rfl (by decide) ?_
      refine At.enter rfl ?_
      refine r_aload_n rfl ?_
      refine q_getR (Sh.ref hI0.1 kx_0 rfl) ?_
      refine r_iload_n rfl ?_
      by_cases c1473_0 : a1.toInt = 0
      · refine q_aald (Sh.rar hI0.1 ka_58) (by decide) 0 (by omega) (by decide) (some 59) rfl ?_
        refine r_goto ?_
        refine At.enter rfl ?_
        refine q_aret ?_
        refine At.enter rfl ?_
        refine r_astore_n ([(2, .ref 59), (0, .ref 0), (1, .int a1)]) rfl ?_
        refine r_aload_n rfl ?_
        refine r_nnr ?_
        refine At.enter rfl ?_
        refine r_aload_n rfl ?_
        refine q_getR (Sh.ref hI0.1 kx_0 rfl) ?_
        refine r_iload_n rfl ?_
        obtain ⟨v1474, hv1474⟩ : ∃ v, eA g0 173 a1.toInt = v := ⟨_, rfl⟩
        refine q_bald (Sh.arr hI0.1 ka_173) a1.toInt rfl (by omega) v1474 hv1474 ?_
        refine r_ifs 25 rfl (fun c1475 => ?_) (fun c1475 => ?_)
        · have c1475_ : v1474.toInt ≠ 0 := en_k_ne_t c1475
          refine At.enter rfl ?_
          refine r_aload_n rfl ?_
          refine q_getR (Sh.ref hI0.1 kx_0 rfl) ?_
          refine r_aload_n rfl ?_
          refine q_inlV 40 rfl [.ref 1, .ref 59] [] (Nat.le_of_ble_eq_true rfl) rfl ?_
          refine Ev.mk rfl rfl ⟨Nat.le_of_ble_eq_true rfl, Or.inr (q_rc hI0.1 kx_1 rfl)⟩ ?_
          show At _ none _ _ (0, [(0, .ref 1), (1, .ref 59)], [], (_, _)) _
          refine At.enter rfl ?_
          refine r_aload_n rfl ?_
          refine r_aload_n rfl ?_
          obtain ⟨v1476, hv1476⟩ : ∃ v, gI g0 59 0 = v := ⟨_, rfl⟩
          have rv1476 := RgF.at hI0.2.1 (p := 59) (b := 0) rfl
          rw [hv1476] at rv1476
          dsimp only at rv1476
          refine q_getI (Sh.int hI0.1 kx_59 rfl) v1476 hv1476 ?_
          refine q_putI (Sh.int hI0.1 kx_1 rfl) rfl ?_
          have hI1477 := HI.wI1 hI0 kx_1 rfl (p := 1) (b := 0) (v := v1476) rfl (by dsimp only; omega)
          have hF1478 := Fr.wI (p := 1) (b := 0) (v := v1476) hF0 rfl
          refine r_aload_n rfl ?_
          refine q_getR (Sh.ref hI1477.1 kx_59 rfl) ?_
          refine r_iconst 0 rfl ?_
          refine r_aload_n rfl ?_
          refine q_getR (Sh.ref hI1477.1 kx_1 rfl) ?_
          refine r_iconst 0 rfl ?_
          refine r_bipush 12 rfl ?_
          have zv1479 : (0 : Int32).toInt = 0 := rfl
          have zv1480 : (0 : Int32).toInt = 0 := rfl
          have zv1481 : (12 : Int32).toInt = 12 := rfl
          refine q_cpy rfl (Nat.le_of_ble_eq_true rfl) (Sh.arr hI1477.1 ka_60) (Sh.arr hI1477.1 ka_2) ⟨by omega, by omega, by omega, by omega, by omega⟩ ?_
          have hI1482 := HI.cpy0 hI1477 ka_60 ka_2 rfl rfl ((0 : Int32).toInt.toNat) ((0 : Int32).toInt.toNat) ((12 : Int32).toInt.toNat) (by omega) (by omega)
          have hF1483 := Fr.cpy (p0 := 60) (p1 := 2) hF1478 rfl ((0 : Int32).toInt.toNat) ((0 : Int32).toInt.toNat) ((12 : Int32).toInt.toNat)
          refine r_aload_n rfl ?_
          refine q_getR (Sh.ref hI1482.1 kx_59 rfl) ?_
          refine r_iconst 0 rfl ?_
          refine r_aload_n rfl ?_
          refine q_getR (Sh.ref hI1482.1 kx_1 rfl) ?_
          refine r_iconst 0 rfl ?_
          refine r_bipush 12 rfl ?_
          have zv1484 : (0 : Int32).toInt = 0 := rfl
          have zv1485 : (0 : Int32).toInt = 0 := rfl
          have zv1486 : (12 : Int32).toInt = 12 := rfl
          refine q_cpy rfl (Nat.le_of_ble_eq_true rfl) (Sh.arr hI1482.1 ka_61) (Sh.arr hI1482.1 ka_3) ⟨by omega, by omega, by omega, by omega, by omega⟩ ?_
          have hI1487 := HI.cpy0 hI1482 ka_61 ka_3 rfl rfl ((0 : Int32).toInt.toNat) ((0 : Int32).toInt.toNat) ((12 : Int32).toInt.toNat) (by omega) (by omega)
          have hF1488 := Fr.cpy (p0 := 61) (p1 := 3) hF1483 rfl ((0 : Int32).toInt.toNat) ((0 : Int32).toInt.toNat) ((12 : Int32).toInt.toNat)
          refine r_aload_n rfl ?_
          refine q_getR (Sh.ref hI1487.1 kx_59 rfl) ?_
          refine r_iconst 0 rfl ?_
          refine r_aload_n rfl ?_
          refine q_getR (Sh.ref hI1487.1 kx_1 rfl) ?_
          refine r_iconst 0 rfl ?_
          refine r_bipush 12 rfl ?_
          have zv1489 : (0 : Int32).toInt = 0 := rfl
          have zv1490 : (0 : Int32).toInt = 0 := rfl
          have zv1491 : (12 : Int32).toInt = 12 := rfl
          refine q_cpy rfl (Nat.le_of_ble_eq_true rfl) (Sh.arr hI1487.1 ka_62) (Sh.arr hI1487.1 ka_4) ⟨by omega, by omega, by omega, by omega, by omega⟩ ?_
          have hI1492 := HI.cpy0 hI1487 ka_62 ka_4 rfl rfl ((0 : Int32).toInt.toNat) ((0 : Int32).toInt.toNat) ((12 : Int32).toInt.toNat) (by omega) (by omega)
          have hF1493 := Fr.cpy (p0 := 62) (p1 := 4) hF1488 rfl ((0 : Int32).toInt.toNat) ((0 : Int32).toInt.toNat) ((12 : Int32).toInt.toNat)
          refine r_aload_n rfl ?_
          refine r_aload_n rfl ?_
          obtain ⟨v1494, hv1494⟩ : ∃ v, gI g0 59 4 = v := ⟨_, rfl⟩
          have rv1494 := RgF.at hI0.2.1 (p := 59) (b := 4) rfl
          rw [hv1494] at rv1494
          dsimp only at rv1494
          refine q_getI (Sh.int hI1492.1 kx_59 rfl) v1494 (((gI_sW).trans ((gI_sW).trans ((gI_sW).trans (gI_sI_ne (by decide))))).trans hv1494) ?_
          refine q_putI (Sh.int hI1492.1 kx_1 rfl) rfl ?_
          have hI1495 := HI.wI1 hI1492 kx_1 rfl (p := 1) (b := 4) (v := v1494) rfl (by dsimp only; omega)
          have hF1496 := Fr.wI (p := 1) (b := 4) (v := v1494) hF1493 rfl
          refine r_aload_n rfl ?_
          refine q_getR (Sh.ref hI1495.1 kx_59 rfl) ?_
          refine r_iconst 0 rfl ?_
          refine r_aload_n rfl ?_
          refine q_getR (Sh.ref hI1495.1 kx_1 rfl) ?_
          refine r_iconst 0 rfl ?_
          refine r_bipush 48 rfl ?_
          have zv1497 : (0 : Int32).toInt = 0 := rfl
          have zv1498 : (0 : Int32).toInt = 0 := rfl
          have zv1499 : (48 : Int32).toInt = 48 := rfl
          refine q_cpy rfl (Nat.le_of_ble_eq_true rfl) (Sh.arr hI1495.1 ka_63) (Sh.arr hI1495.1 ka_5) ⟨by omega, by omega, by omega, by omega, by omega⟩ ?_
          have hI1500 := HI.cpy0 hI1495 ka_63 ka_5 rfl rfl ((0 : Int32).toInt.toNat) ((0 : Int32).toInt.toNat) ((48 : Int32).toInt.toNat) (by omega) (by omega)
          have hF1501 := Fr.cpy (p0 := 63) (p1 := 5) hF1496 rfl ((0 : Int32).toInt.toNat) ((0 : Int32).toInt.toNat) ((48 : Int32).toInt.toNat)
          refine r_aload_n rfl ?_
          refine r_aload_n rfl ?_
          obtain ⟨v1502, hv1502⟩ : ∃ v, gI g0 59 6 = v := ⟨_, rfl⟩
          have rv1502 := RgF.at hI0.2.1 (p := 59) (b := 6) rfl
          rw [hv1502] at rv1502
          dsimp only at rv1502
          refine q_getI (Sh.int hI1500.1 kx_59 rfl) v1502 (((gI_sW).trans ((gI_sI_ne (by decide)).trans ((gI_sW).trans ((gI_sW).trans ((gI_sW).trans (gI_sI_ne (by decide))))))).trans hv1502) ?_
          refine q_putI (Sh.int hI1500.1 kx_1 rfl) rfl ?_
          have hI1503 := HI.wI1 hI1500 kx_1 rfl (p := 1) (b := 6) (v := v1502) rfl (by dsimp only; omega)
          have hF1504 := Fr.wI (p := 1) (b := 6) (v := v1502) hF1501 rfl
          refine r_iconst 0 rfl ?_
          refine r_istore_n ([(2, .int 0), (0, .ref 1), (1, .ref 59)]) rfl ?_
          refine Ar.fall 86 rfl ?_
          have z_1739 : (0 : Int32).toInt = 0 := rfl
          refine w_loopI (fun n_ l_ g_ => ∃ x1719 : Int32, n_ = 6 - x1719.toInt ∧ HI g_ ∧ Fr F_X10_back_0 A_X10_back_0 g0 g_ ∧ gI g_ 1 0 = v1476 ∧ gI g_ 1 4 = v1494 ∧ gI g_ 1 6 = v1502 ∧ en_get 0 l_ = some (.ref 1) ∧ en_get 1 l_ = some (.ref 59) ∧ en_get 2 l_ = some (.int x1719) ∧ (0 ≤ x1719.toInt ∧ x1719.toInt ≤ 6) ∧ (∀ i : Int, 0 ≤ i → i < 12 → (eA g_ 2 (i)).toInt = (eA g0 60 (i)).toInt) ∧ (∀ i : Int, 0 ≤ i → i < 12 → (eA g_ 3 (i)).toInt = (eA g0 61 (i)).toInt) ∧ (∀ i : Int, 0 ≤ i → i < 12 → (eA g_ 4 (i)).toInt = (eA g0 62 (i)).toInt) ∧ (∀ i : Int, 0 ≤ i → i < 8 → (eA g_ 14 (i)).toInt = (eA g0 14 (i)).toInt) ∧ (∀ i : Int, 0 ≤ i → i < 8 → (eA g_ 15 (i)).toInt = (eA g0 15 (i)).toInt) ∧ (∀ i : Int, 0 ≤ i → i < 48 → (eA g_ 5 (i)).toInt = (eA g0 63 (i)).toInt)) ?_ (6 - 0) ⟨0, by first | rfl | omega, hI1503, hF1504, ((gI_sI_ne (by decide)).trans ((gI_sW).trans ((gI_sI_ne (by decide)).trans ((gI_sW).trans ((gI_sW).trans ((gI_sW).trans (gI_sI_eq hI0.1 kx_1 rfl _))))))), ((gI_sI_ne (by decide)).trans ((gI_sW).trans (gI_sI_eq hI1492.1 kx_1 rfl _))), (gI_sI_eq hI1500.1 kx_1 rfl _), rfl, rfl, rfl, by decide, (by intro i i0 i1; refine (eA_tq (((gA_sI).trans ((gA_sW_ne (by decide)).trans ((gA_sI).trans ((gA_sW_ne (by decide)).trans ((gA_sW_ne (by decide)).trans ((gA_cpF hI1477.1 ka_60 ka_2 (by decide) (by decide) (by decide)).trans (gA_sI))))))))).trans ?_; (first | with_reducible rfl | omega | exact eA_ix (by omega) | rfl)), (by intro i i0 i1; refine (eA_tq (((gA_sI).trans ((gA_sW_ne (by decide)).trans ((gA_sI).trans ((gA_sW_ne (by decide)).trans ((gA_cpF hI1482.1 ka_61 ka_3 (by decide) (by decide) (by decide)).trans ((gA_sW_ne (by decide)).trans (gA_sI))))))))).trans ?_; (first | with_reducible rfl | omega | exact eA_ix (by omega) | rfl)), (by intro i i0 i1; refine (eA_tq (((gA_sI).trans ((gA_sW_ne (by decide)).trans ((gA_sI).trans ((gA_cpF hI1487.1 ka_62 ka_4 (by decide) (by decide) (by decide)).trans ((gA_sW_ne (by decide)).trans ((gA_sW_ne (by decide)).trans (gA_sI))))))))).trans ?_; (first | with_reducible rfl | omega | exact eA_ix (by omega) | rfl)), (by intro i i0 i1; refine (eA_ti (((gA_sI).trans ((gA_sW_ne (by decide)).trans ((gA_sI).trans ((gA_sW_ne (by decide)).trans ((gA_sW_ne (by decide)).trans ((gA_sW_ne (by decide)).trans (gA_sI))))))))).trans ?_; (first | with_reducible rfl | omega | exact eA_ix (by omega) | rfl)), (by intro i i0 i1; refine (eA_ti (((gA_sI).trans ((gA_sW_ne (by decide)).trans ((gA_sI).trans ((gA_sW_ne (by decide)).trans ((gA_sW_ne (by decide)).trans ((gA_sW_ne (by decide)).trans (gA_sI))))))))).trans ?_; (first | with_reducible rfl | omega | exact eA_ix (by omega) | rfl)), (by intro i i0 i1; refine (eA_tq (((gA_sI).trans ((gA_cpF hI1495.1 ka_63 ka_5 (by decide) (by decide) (by decide)).trans ((gA_sI).trans ((gA_sW_ne (by decide)).trans ((gA_sW_ne (by decide)).trans ((gA_sW_ne (by decide)).trans (gA_sI))))))))).trans ?_; (first | with_reducible rfl | omega | exact eA_ix (by omega) | rfl))⟩
          rintro n1724 l1723 g1720 ⟨x1719, hm1740, hI1721, hF1722, e1726, e1727, e1728, e1729, e1730, e1731, r1732, q1733, q1734, q1735, q1736, q1737, q1738⟩ ih1725
          have tv1741 := congrArg Int32.toInt e1726
          have tv1742 := congrArg Int32.toInt e1727
          have tv1743 := congrArg Int32.toInt e1728
          refine At.enter rfl ?_
          refine r_iload_n e1731 ?_
          refine r_bipush 6 rfl ?_
          refine r_ics 92 rfl (fun c1744 => ?_) (fun c1744 => ?_)
          · have c1744_ : x1719.toInt ≥ 6 := en_i_ge_t c1744
            refine At.enter rfl ?_
            refine r_aload_n e1729 ?_
            refine r_aload_n e1730 ?_
            obtain ⟨v1745, hv1745⟩ : ∃ v, gI g0 59 9 = v := ⟨_, rfl⟩
            refine q_getI (Sh.int hI1721.1 kx_59 rfl) v1745 ((hF1722.1 59 9 (by decide)).trans hv1745) ?_
            refine q_putI (Sh.int hI1721.1 kx_1 rfl) rfl ?_
            have hI1746 := HI.wI0 hI1721 kx_1 rfl (p := 1) (b := 9) (v := v1745) rfl
            have hF1747 := Fr.wI (p := 1) (b := 9) (v := v1745) hF1722 rfl
            refine r_aload_n e1729 ?_
            refine r_aload_n e1730 ?_
            obtain ⟨v1748, hv1748⟩ : ∃ v, gI g0 59 10 = v := ⟨_, rfl⟩
            refine q_getI (Sh.int hI1746.1 kx_59 rfl) v1748 (((gI_sI_ne (by decide)).trans (hF1722.1 59 10 (by decide))).trans hv1748) ?_
            refine q_putI (Sh.int hI1746.1 kx_1 rfl) rfl ?_
            have hI1749 := HI.wI0 hI1746 kx_1 rfl (p := 1) (b := 10) (v := v1748) rfl
            have hF1750 := Fr.wI (p := 1) (b := 10) (v := v1748) hF1747 rfl
            refine r_aload_n e1729 ?_
            refine r_aload_n e1730 ?_
            obtain ⟨v1751, hv1751⟩ : ∃ v, gI g0 59 11 = v := ⟨_, rfl⟩
            refine q_getI (Sh.int hI1749.1 kx_59 rfl) v1751 (((gI_sI_ne (by decide)).trans ((gI_sI_ne (by decide)).trans (hF1722.1 59 11 (by decide)))).trans hv1751) ?_
            refine q_putI (Sh.int hI1749.1 kx_1 rfl) rfl ?_
            have hI1752 := HI.wI0 hI1749 kx_1 rfl (p := 1) (b := 11) (v := v1751) rfl
            have hF1753 := Fr.wI (p := 1) (b := 11) (v := v1751) hF1750 rfl
            refine r_aload_n e1729 ?_
            refine r_aload_n e1730 ?_
            obtain ⟨v1754, hv1754⟩ : ∃ v, gI g0 59 12 = v := ⟨_, rfl⟩
            have rv1754 := RgF.at hI0.2.1 (p := 59) (b := 12) rfl
            rw [hv1754] at rv1754
            dsimp only at rv1754
            refine q_getI (Sh.int hI1752.1 kx_59 rfl) v1754 (((gI_sI_ne (by decide)).trans ((gI_sI_ne (by decide)).trans ((gI_sI_ne (by decide)).trans (hF1722.1 59 12 (by decide))))).trans hv1754) ?_
            refine q_putI (Sh.int hI1752.1 kx_1 rfl) rfl ?_
            have hI1755 := HI.wI1 hI1752 kx_1 rfl (p := 1) (b := 12) (v := v1754) rfl (by dsimp only; omega)
            have hF1756 := Fr.wI (p := 1) (b := 12) (v := v1754) hF1753 rfl
            refine r_aload_n e1730 ?_
            refine q_getR (Sh.ref hI1755.1 kx_59 rfl) ?_
            refine r_iconst 0 rfl ?_
            refine r_aload_n e1729 ?_
            refine q_getR (Sh.ref hI1755.1 kx_1 rfl) ?_
            refine r_iconst 0 rfl ?_
            refine r_bipush 8 rfl ?_
            have zv1757 : (0 : Int32).toInt = 0 := rfl
            have zv1758 : (0 : Int32).toInt = 0 := rfl
            have zv1759 : (8 : Int32).toInt = 8 := rfl
            refine q_cpy rfl (Nat.le_of_ble_eq_true rfl) (Sh.arr hI1755.1 ka_72) (Sh.arr hI1755.1 ka_14) ⟨by omega, by omega, by omega, by omega, by omega⟩ ?_
            have hI1760 := HI.cpy0 hI1755 ka_72 ka_14 rfl rfl ((0 : Int32).toInt.toNat) ((0 : Int32).toInt.toNat) ((8 : Int32).toInt.toNat) (by omega) (by omega)
            have hF1761 := Fr.cpy (p0 := 72) (p1 := 14) hF1756 rfl ((0 : Int32).toInt.toNat) ((0 : Int32).toInt.toNat) ((8 : Int32).toInt.toNat)
            refine r_aload_n e1730 ?_
            refine q_getR (Sh.ref hI1760.1 kx_59 rfl) ?_
            refine r_iconst 0 rfl ?_
            refine r_aload_n e1729 ?_
            refine q_getR (Sh.ref hI1760.1 kx_1 rfl) ?_
            refine r_iconst 0 rfl ?_
            refine r_bipush 8 rfl ?_
            have zv1762 : (0 : Int32).toInt = 0 := rfl
            have zv1763 : (0 : Int32).toInt = 0 := rfl
            have zv1764 : (8 : Int32).toInt = 8 := rfl
            refine q_cpy rfl (Nat.le_of_ble_eq_true rfl) (Sh.arr hI1760.1 ka_73) (Sh.arr hI1760.1 ka_15) ⟨by omega, by omega, by omega, by omega, by omega⟩ ?_
            have hI1765 := HI.cpy0 hI1760 ka_73 ka_15 rfl rfl ((0 : Int32).toInt.toNat) ((0 : Int32).toInt.toNat) ((8 : Int32).toInt.toNat) (by omega) (by omega)
            have hF1766 := Fr.cpy (p0 := 73) (p1 := 15) hF1761 rfl ((0 : Int32).toInt.toNat) ((0 : Int32).toInt.toNat) ((8 : Int32).toInt.toNat)
            refine q_vret ?_
            refine At.enter rfl ?_
            refine r_aload_n rfl ?_
            refine r_callV 44 rfl [.ref 0] [] (Nat.le_of_ble_eq_true rfl) rfl (T_X10_changed_0 _ hI1765) ?_
            rintro _ _ ⟨g1767, rfl, hI1768, hF1769, rfl⟩
            refine At.stn ?_
            have hF1772 := Fr.tr hF1766 hF1769 rfl rfl
            refine At.enter rfl ?_
            refine r_aload_n rfl ?_
            refine r_iconst 0 rfl ?_
            refine q_inlV 49 rfl [.ref 0, .int 0] [] (Nat.le_of_ble_eq_true rfl) rfl ?_
            refine Ev.mk rfl rfl ⟨Nat.le_of_ble_eq_true rfl, Or.inr (q_rc hI1768.1 kx_0 rfl)⟩ ?_
            show At _ none _ _ (0, [(0, .ref 0), (1, .int 0)], [], (_, _)) _
            refine At.enter rfl ?_
            refine r_aload_n rfl ?_
            refine r_iconst 0 rfl ?_
            refine q_putI (Sh.int hI1768.1 kx_0 rfl) rfl ?_
            have hI1773 := HI.wI0 hI1768 kx_0 rfl (p := 0) (b := 17) (v := 0) rfl
            have hF1774 := Fr.wI (p := 0) (b := 17) (v := 0) hF1772 rfl
            refine r_iload_n rfl ?_
            refine q_ireti ?_
            refine At.enter rfl ?_
            refine r_ireti ?_
            have zv1775 : (0 : Int32).toInt = 0 := rfl
            have e : a1.toInt = 0 := by omega
            have k1776_ : (eA g0 173 0).toInt = v1474.toInt := by rw [← hv1474, e]
            have k1776 : (eA g0 173 0).toInt ≠ 0 := by omega
            obtain ⟨v1777, hv1777⟩ : ∃ v, eA g0 173 0 = v := ⟨_, rfl⟩
            have tv1777 := congrArg Int32.toInt hv1777
            have x1778 := HI.eqA hI0 (p := 173) (j := 0) (hv1777)
            have y1779 : (eA g0 173 0).toInt = v1474.toInt := by rw [← hv1474, show a1.toInt = 0 by omega]
            obtain ⟨v1780, hv1780⟩ : ∃ v, eA g0 173 1 = v := ⟨_, rfl⟩
            have tv1780 := congrArg Int32.toInt hv1780
            have x1781 := HI.eqA hI0 (p := 173) (j := 1) (hv1780)
            have zv1782 : (0 : Int32).toInt = 0 := rfl
            have x1783 := HI.eqI hI1773 (p := 0) (b := 17) ((gI_sI_eq hI1768.1 kx_0 rfl _))
            have zv1784 : (0 : Int32).toInt = 0 := rfl
            exact ⟨_, rfl, hI1773, hF1774, _, rfl, by decide, ⟨⟨⟨(fun _ => ⟨(by first | rfl | decide), (HI.eqI hI1773 (p := 1) (b := 0) ((((gI_sI_ne (by decide)).trans ((hF1769.1 1 0 mf_X10_changed_0_1_0).trans ((gI_sW).trans ((gI_sW).trans ((gI_sI_ne (by decide)).trans ((gI_sI_ne (by decide)).trans ((gI_sI_ne (by decide)).trans (gI_sI_ne (by decide))))))))).trans e1726))).trans (HI.eqI hI0 (p := 59) (b := 0) (hv1476)).symm, (HI.eqI hI1773 (p := 1) (b := 12) (((gI_sI_ne (by decide)).trans ((hF1769.1 1 12 mf_X10_changed_0_1_12).trans ((gI_sW).trans ((gI_sW).trans (gI_sI_eq hI1752.1 kx_1 rfl _))))))).trans (HI.eqI hI0 (p := 59) (b := 12) (hv1754)).symm, (HI.eqI hI1773 (p := 1) (b := 10) (((gI_sI_ne (by decide)).trans ((hF1769.1 1 10 mf_X10_changed_0_1_10).trans ((gI_sW).trans ((gI_sW).trans ((gI_sI_ne (by decide)).trans ((gI_sI_ne (by decide)).trans (gI_sI_eq hI1746.1 kx_1 rfl _))))))))).trans (HI.eqI hI0 (p := 59) (b := 10) (hv1748)).symm, (HI.eqI hI1773 (p := 1) (b := 11) (((gI_sI_ne (by decide)).trans ((hF1769.1 1 11 mf_X10_changed_0_1_11).trans ((gI_sW).trans ((gI_sW).trans ((gI_sI_ne (by decide)).trans (gI_sI_eq hI1749.1 kx_1 rfl _)))))))).trans (HI.eqI hI0 (p := 59) (b := 11) (hv1751)).symm, (HI.eqI hI1773 (p := 1) (b := 4) ((((gI_sI_ne (by decide)).trans ((hF1769.1 1 4 mf_X10_changed_0_1_4).trans ((gI_sW).trans ((gI_sW).trans ((gI_sI_ne (by decide)).trans ((gI_sI_ne (by decide)).trans ((gI_sI_ne (by decide)).trans (gI_sI_ne (by decide))))))))).trans e1727))).trans (HI.eqI hI0 (p := 59) (b := 4) (hv1494)).symm, (HI.eqI hI1773 (p := 1) (b := 6) ((((gI_sI_ne (by decide)).trans ((hF1769.1 1 6 mf_X10_changed_0_1_6).trans ((gI_sW).trans ((gI_sW).trans ((gI_sI_ne (by decide)).trans ((gI_sI_ne (by decide)).trans ((gI_sI_ne (by decide)).trans (gI_sI_ne (by decide))))))))).trans e1728))).trans (HI.eqI hI0 (p := 59) (b := 6) (hv1502)).symm, (HI.eqI hI1773 (p := 1) (b := 9) (((gI_sI_ne (by decide)).trans ((hF1769.1 1 9 mf_X10_changed_0_1_9).trans ((gI_sW).trans ((gI_sW).trans ((gI_sI_ne (by decide)).trans ((gI_sI_ne (by decide)).trans ((gI_sI_ne (by decide)).trans (gI_sI_eq hI1721.1 kx_1 rfl _)))))))))).trans (HI.eqI hI0 (p := 59) (b := 9) (hv1745)).symm⟩), (fun h => absurd (e.symm.trans h.1) (by decide)), (fun h => absurd ⟨e, k1776⟩ h.1), (fun h => False.elim (by omega)), (fun h => absurd ⟨e, k1776⟩ h.2.2.1)⟩, (by intro i i0 i1; exact (Decidable.em (a1.toInt = 0 ∧ (eA g0 173 0).toInt ≠ 0)).elim (fun k118_ => by refine Eq.trans ?_ (if_pos k118_).symm; refine (eA_ti (((gA_sI).trans ((hF1769.2.1 2 ma_X10_changed_0_2).trans ((gA_sW_ne (by decide)).trans ((gA_sW_ne (by decide)).trans ((gA_sI).trans ((gA_sI).trans ((gA_sI).trans (gA_sI)))))))))).trans ?_; refine ((q1733 (i) (by first | exact i0 | omega) (by first | exact i1 | omega))).trans ?_; (first | with_reducible rfl | omega | exact eA_ix (by omega) | rfl)) (fun k118_ => by refine Eq.trans ?_ (if_neg k118_).symm; refine Eq.trans ?_ (if_neg (fun z => (show ¬ (a1.toInt = 1) from (by first | exact (fun h => absurd (e.symm.trans h) (by decide)) | omega)) z.1)).symm; refine (eA_ti (((gA_sI).trans ((hF1769.2.1 2 ma_X10_changed_0_2).trans ((gA_sW_ne (by decide)).trans ((gA_sW_ne (by decide)).trans ((gA_sI).trans ((gA_sI).trans ((gA_sI).trans (gA_sI)))))))))).trans ?_; refine ((q1733 (i) (by first | exact i0 | omega) (by first | exact i1 | omega))).trans ?_; (first | with_reducible rfl | omega | exact eA_ix (by omega) | rfl))), (by intro i i0 i1; exact (Decidable.em (a1.toInt = 0 ∧ (eA g0 173 0).toInt ≠ 0)).elim (fun k119_ => by refine Eq.trans ?_ (if_pos k119_).symm; refine (eA_ti (((gA_sI).trans ((hF1769.2.1 3 ma_X10_changed_0_3).trans ((gA_sW_ne (by decide)).trans ((gA_sW_ne (by decide)).trans ((gA_sI).trans ((gA_sI).trans ((gA_sI).trans (gA_sI)))))))))).trans ?_; refine ((q1734 (i) (by first | exact i0 | omega) (by first | exact i1 | omega))).trans ?_; (first | with_reducible rfl | omega | exact eA_ix (by omega) | rfl)) (fun k119_ => by refine Eq.trans ?_ (if_neg k119_).symm; refine Eq.trans ?_ (if_neg (fun z => (show ¬ (a1.toInt = 1) from (by first | exact (fun h => absurd (e.symm.trans h) (by decide)) | omega)) z.1)).symm; refine (eA_ti (((gA_sI).trans ((hF1769.2.1 3 ma_X10_changed_0_3).trans ((gA_sW_ne (by decide)).trans ((gA_sW_ne (by decide)).trans ((gA_sI).trans ((gA_sI).trans ((gA_sI).trans (gA_sI)))))))))).trans ?_; refine ((q1734 (i) (by first | exact i0 | omega) (by first | exact i1 | omega))).trans ?_; (first | with_reducible rfl | omega | exact eA_ix (by omega) | rfl))), (by intro i i0 i1; exact (Decidable.em (a1.toInt = 0 ∧ (eA g0 173 0).toInt ≠ 0)).elim (fun k120_ => by refine Eq.trans ?_ (if_pos k120_).symm; refine (eA_ti (((gA_sI).trans ((hF1769.2.1 4 ma_X10_changed_0_4).trans ((gA_sW_ne (by decide)).trans ((gA_sW_ne (by decide)).trans ((gA_sI).trans ((gA_sI).trans ((gA_sI).trans (gA_sI)))))))))).trans ?_; refine ((q1735 (i) (by first | exact i0 | omega) (by first | exact i1 | omega))).trans ?_; (first | with_reducible rfl | omega | exact eA_ix (by omega) | rfl)) (fun k120_ => by refine Eq.trans ?_ (if_neg k120_).symm; refine Eq.trans ?_ (if_neg (fun z => (show ¬ (a1.toInt = 1) from (by first | exact (fun h => absurd (e.symm.trans h) (by decide)) | omega)) z.1)).symm; refine (eA_ti (((gA_sI).trans ((hF1769.2.1 4 ma_X10_changed_0_4).trans ((gA_sW_ne (by decide)).trans ((gA_sW_ne (by decide)).trans ((gA_sI).trans ((gA_sI).trans ((gA_sI).trans (gA_sI)))))))))).trans ?_; refine ((q1735 (i) (by first | exact i0 | omega) (by first | exact i1 | omega))).trans ?_; (first | with_reducible rfl | omega | exact eA_ix (by omega) | rfl))), (by intro i i0 i1; exact (Decidable.em (a1.toInt = 0 ∧ (eA g0 173 0).toInt ≠ 0)).elim (fun k121_ => by refine Eq.trans ?_ (if_pos k121_).symm; refine (eA_tq (((gA_sI).trans ((hF1769.2.1 14 ma_X10_changed_0_14).trans ((gA_sW_ne (by decide)).trans ((gA_cpF hI1755.1 ka_72 ka_14 (by decide) (by decide) (by decide)).trans ((gA_sI).trans ((gA_sI).trans ((gA_sI).trans ((gA_sI).trans (hF1722.2.1 72 (by decide)))))))))))).trans ?_; (first | with_reducible rfl | omega | exact eA_ix (by omega) | rfl)) (fun k121_ => by refine Eq.trans ?_ (if_neg k121_).symm; refine Eq.trans ?_ (if_neg (fun z => (show ¬ (a1.toInt = 1) from (by first | exact (fun h => absurd (e.symm.trans h) (by decide)) | omega)) z.1)).symm; refine (eA_tq (((gA_sI).trans ((hF1769.2.1 14 ma_X10_changed_0_14).trans ((gA_sW_ne (by decide)).trans ((gA_cpF hI1755.1 ka_72 ka_14 (by decide) (by decide) (by decide)).trans ((gA_sI).trans ((gA_sI).trans ((gA_sI).trans ((gA_sI).trans (hF1722.2.1 72 (by decide)))))))))))).trans ?_; (first | with_reducible rfl | omega | exact eA_ix (by omega) | rfl))), (by intro i i0 i1; exact (Decidable.em (a1.toInt = 0 ∧ (eA g0 173 0).toInt ≠ 0)).elim (fun k122_ => by refine Eq.trans ?_ (if_pos k122_).symm; refine (eA_tq (((gA_sI).trans ((hF1769.2.1 15 ma_X10_changed_0_15).trans ((gA_cpF hI1760.1 ka_73 ka_15 (by decide) (by decide) (by decide)).trans ((gA_sW_ne (by decide)).trans ((gA_sI).trans ((gA_sI).trans ((gA_sI).trans ((gA_sI).trans (hF1722.2.1 73 (by decide)))))))))))).trans ?_; (first | with_reducible rfl | omega | exact eA_ix (by omega) | rfl)) (fun k122_ => by refine Eq.trans ?_ (if_neg k122_).symm; refine Eq.trans ?_ (if_neg (fun z => (show ¬ (a1.toInt = 1) from (by first | exact (fun h => absurd (e.symm.trans h) (by decide)) | omega)) z.1)).symm; refine (eA_tq (((gA_sI).trans ((hF1769.2.1 15 ma_X10_changed_0_15).trans ((gA_cpF hI1760.1 ka_73 ka_15 (by decide) (by decide) (by decide)).trans ((gA_sW_ne (by decide)).trans ((gA_sI).trans ((gA_sI).trans ((gA_sI).trans ((gA_sI).trans (hF1722.2.1 73 (by decide)))))))))))).trans ?_; (first | with_reducible rfl | omega | exact eA_ix (by omega) | rfl))), (by intro i i0 i1; exact (Decidable.em (a1.toInt = 0 ∧ (eA g0 173 0).toInt ≠ 0)).elim (fun k123_ => by refine Eq.trans ?_ (if_pos k123_).symm; refine (eA_ti (((gA_sI).trans ((hF1769.2.1 5 ma_X10_changed_0_5).trans ((gA_sW_ne (by decide)).trans ((gA_sW_ne (by decide)).trans ((gA_sI).trans ((gA_sI).trans ((gA_sI).trans (gA_sI)))))))))).trans ?_; refine ((q1738 (i) (by first | exact i0 | omega) (by first | exact i1 | omega))).trans ?_; (first | with_reducible rfl | omega | exact eA_ix (by omega) | rfl)) (fun k123_ => by refine Eq.trans ?_ (if_neg k123_).symm; refine Eq.trans ?_ (if_neg (fun z => (show ¬ (a1.toInt = 1) from (by first | exact (fun h => absurd (e.symm.trans h) (by decide)) | omega)) z.1)).symm; refine (eA_ti (((gA_sI).trans ((hF1769.2.1 5 ma_X10_changed_0_5).trans ((gA_sW_ne (by decide)).trans ((gA_sW_ne (by decide)).trans ((gA_sI).trans ((gA_sI).trans ((gA_sI).trans (gA_sI)))))))))).trans ?_; refine ((q1738 (i) (by first | exact i0 | omega) (by first | exact i1 | omega))).trans ?_; (first | with_reducible rfl | omega | exact eA_ix (by omega) | rfl)))⟩, (SU.mk (by omega))⟩⟩
          · have c1744_ : x1719.toInt < 6 := en_i_ge_f c1744
            refine At.enter rfl ?_
            refine r_aload_n e1729 ?_
            refine r_iload_n e1731 ?_
            refine r_callV 97 rfl [.ref 1, .int x1719] [] (Nat.le_of_ble_eq_true rfl) rfl (T_X0_lawAt_1 _ hI1721 x1719) ?_
            rintro _ _ ⟨g1785, rfl, hI1786, hF1787, v1788, rfl, hr1789⟩
            refine At.str ?_
            have hF1790 := Fr.tr hF1722 hF1787 rfl rfl
            refine At.enter rfl ?_
            refine r_aload_n e1730 ?_
            refine r_iload_n e1731 ?_
            refine r_callV 102 rfl [.ref 59, .int x1719] [.ref (v1788)] (Nat.le_of_ble_eq_true rfl) rfl (T_X0_lawAt_59 _ hI1786 x1719) ?_
            rintro _ _ ⟨g1791, rfl, hI1792, hF1793, v1794, rfl, hr1795⟩
            refine At.str ?_
            have hF1796 := Fr.tr hF1790 hF1793 rfl rfl
            refine At.enter rfl ?_
            refine r_callV 105 rfl [.ref (v1788), .ref (v1794)] [] (Nat.le_of_ble_eq_true rfl) rfl (T_X4_become_law _ hI1792 (v1788) hr1789 (v1794) hr1795) ?_
            rintro _ _ ⟨g1797, rfl, hI1798, hF1799, rfl⟩
            refine At.stn ?_
            have hF1802 := Fr.tr hF1796 hF1799 rfl rfl
            refine At.enter rfl ?_
            refine q_iinc e1731 (x1719.toInt + 1) rfl (by omega) (fun v1803 hv1803 => ?_)
            refine r_goto ?_
            exact ih1725 (6 - v1803.toInt) _ _ ⟨v1803, by first | rfl | omega, hI1798, hF1802, (((hF1799.1 1 0 mf_X4_become_law_1_0).trans ((hF1793.1 1 0 mf_X0_lawAt_59_1_0).trans (hF1787.1 1 0 mf_X0_lawAt_1_1_0))).trans e1726), (((hF1799.1 1 4 mf_X4_become_law_1_4).trans ((hF1793.1 1 4 mf_X0_lawAt_59_1_4).trans (hF1787.1 1 4 mf_X0_lawAt_1_1_4))).trans e1727), (((hF1799.1 1 6 mf_X4_become_law_1_6).trans ((hF1793.1 1 6 mf_X0_lawAt_59_1_6).trans (hF1787.1 1 6 mf_X0_lawAt_1_1_6))).trans e1728), (w_p1 (by decide) (Or.inr rfl) e1729), (w_p1 (by decide) (Or.inr rfl) e1730), (w_e1 _ _ _), by omega, (by intro i i0 i1; refine (eA_ti (((hF1799.2.1 2 ma_X4_become_law_2).trans ((hF1793.2.1 2 ma_X0_lawAt_59_2).trans (hF1787.2.1 2 ma_X0_lawAt_1_2))))).trans ?_; refine ((q1733 (i) (by first | exact i0 | omega) (by first | exact i1 | omega))).trans ?_; (first | with_reducible rfl | omega | exact eA_ix (by omega) | rfl)), (by intro i i0 i1; refine (eA_ti (((hF1799.2.1 3 ma_X4_become_law_3).trans ((hF1793.2.1 3 ma_X0_lawAt_59_3).trans (hF1787.2.1 3 ma_X0_lawAt_1_3))))).trans ?_; refine ((q1734 (i) (by first | exact i0 | omega) (by first | exact i1 | omega))).trans ?_; (first | with_reducible rfl | omega | exact eA_ix (by omega) | rfl)), (by intro i i0 i1; refine (eA_ti (((hF1799.2.1 4 ma_X4_become_law_4).trans ((hF1793.2.1 4 ma_X0_lawAt_59_4).trans (hF1787.2.1 4 ma_X0_lawAt_1_4))))).trans ?_; refine ((q1735 (i) (by first | exact i0 | omega) (by first | exact i1 | omega))).trans ?_; (first | with_reducible rfl | omega | exact eA_ix (by omega) | rfl)), (by intro i i0 i1; refine (eA_ti (((hF1799.2.1 14 ma_X4_become_law_14).trans ((hF1793.2.1 14 ma_X0_lawAt_59_14).trans (hF1787.2.1 14 ma_X0_lawAt_1_14))))).trans ?_; refine ((q1736 (i) (by first | exact i0 | omega) (by first | exact i1 | omega))).trans ?_; (first | with_reducible rfl | omega | exact eA_ix (by omega) | rfl)), (by intro i i0 i1; refine (eA_ti (((hF1799.2.1 15 ma_X4_become_law_15).trans ((hF1793.2.1 15 ma_X0_lawAt_59_15).trans (hF1787.2.1 15 ma_X0_lawAt_1_15))))).trans ?_; refine ((q1737 (i) (by first | exact i0 | omega) (by first | exact i1 | omega))).trans ?_; (first | with_reducible rfl | omega | exact eA_ix (by omega) | rfl)), (by intro i i0 i1; refine (eA_ti (((hF1799.2.1 5 ma_X4_become_law_5).trans ((hF1793.2.1 5 ma_X0_lawAt_59_5).trans (hF1787.2.1 5 ma_X0_lawAt_1_5))))).trans ?_; refine ((q1738 (i) (by first | exact i0 | omega) (by first | exact i1 | omega))).trans ?_; (first | with_reducible rfl | omega | exact eA_ix (by omega) | rfl))⟩ ⟨by omega, by omega⟩
        · have c1475_ : v1474.toInt = 0 := en_k_ne_f c1475
          refine At.enter rfl ?_
          refine r_aload_n rfl ?_
          refine r_bipush (-2) rfl ?_
          refine r_callV 31 rfl [.ref 0, .int (-2)] [] (Nat.le_of_ble_eq_true rfl) rfl (T_X10_refused_0 _ hI0 (-2) (by decide)) ?_
          rintro _ _ ⟨g1804, rfl, hI1805, hF1806, v1807, rfl, hr1808⟩
          refine At.sti ?_
          have hF1809 := Fr.tr hF0 hF1806 rfl rfl
          have zv1810 : ((-2) : Int32).toInt = (-2) := rfl
          refine At.enter rfl ?_
          refine r_ireti ?_
          obtain ⟨v1811, hv1811⟩ : ∃ v, gI g0 1 0 = v := ⟨_, rfl⟩
          have rv1811 := RgF.at hI0.2.1 (p := 1) (b := 0) rfl
          rw [hv1811] at rv1811
          dsimp only at rv1811
          have tv1811 := congrArg Int32.toInt hv1811
          obtain ⟨v1813, hv1813⟩ : ∃ v, gI g0 1 12 = v := ⟨_, rfl⟩
          have rv1813 := RgF.at hI0.2.1 (p := 1) (b := 12) rfl
          rw [hv1813] at rv1813
          dsimp only at rv1813
          have tv1813 := congrArg Int32.toInt hv1813
          obtain ⟨v1815, hv1815⟩ : ∃ v, gI g0 1 10 = v := ⟨_, rfl⟩
          have tv1815 := congrArg Int32.toInt hv1815
          obtain ⟨v1817, hv1817⟩ : ∃ v, gI g0 1 11 = v := ⟨_, rfl⟩
          have tv1817 := congrArg Int32.toInt hv1817
          obtain ⟨v1819, hv1819⟩ : ∃ v, gI g0 1 4 = v := ⟨_, rfl⟩
          have rv1819 := RgF.at hI0.2.1 (p := 1) (b := 4) rfl
          rw [hv1819] at rv1819
          dsimp only at rv1819
          have tv1819 := congrArg Int32.toInt hv1819
          obtain ⟨v1821, hv1821⟩ : ∃ v, gI g0 1 6 = v := ⟨_, rfl⟩
          have rv1821 := RgF.at hI0.2.1 (p := 1) (b := 6) rfl
          rw [hv1821] at rv1821
          dsimp only at rv1821
          have tv1821 := congrArg Int32.toInt hv1821
          obtain ⟨v1823, hv1823⟩ : ∃ v, gI g0 1 9 = v := ⟨_, rfl⟩
          have tv1823 := congrArg Int32.toInt hv1823
          obtain ⟨v1825, hv1825⟩ : ∃ v, gI g0 59 0 = v := ⟨_, rfl⟩
          have rv1825 := RgF.at hI0.2.1 (p := 59) (b := 0) rfl
          rw [hv1825] at rv1825
          dsimp only at rv1825
          have tv1825 := congrArg Int32.toInt hv1825
          obtain ⟨v1827, hv1827⟩ : ∃ v, gI g0 59 12 = v := ⟨_, rfl⟩
          have rv1827 := RgF.at hI0.2.1 (p := 59) (b := 12) rfl
          rw [hv1827] at rv1827
          dsimp only at rv1827
          have tv1827 := congrArg Int32.toInt hv1827
          obtain ⟨v1829, hv1829⟩ : ∃ v, gI g0 59 10 = v := ⟨_, rfl⟩
          have tv1829 := congrArg Int32.toInt hv1829
          obtain ⟨v1831, hv1831⟩ : ∃ v, gI g0 59 11 = v := ⟨_, rfl⟩
          have tv1831 := congrArg Int32.toInt hv1831
          obtain ⟨v1833, hv1833⟩ : ∃ v, gI g0 59 4 = v := ⟨_, rfl⟩
          have rv1833 := RgF.at hI0.2.1 (p := 59) (b := 4) rfl
          rw [hv1833] at rv1833
          dsimp only at rv1833
          have tv1833 := congrArg Int32.toInt hv1833
          obtain ⟨v1835, hv1835⟩ : ∃ v, gI g0 59 6 = v := ⟨_, rfl⟩
          have rv1835 := RgF.at hI0.2.1 (p := 59) (b := 6) rfl
          rw [hv1835] at rv1835
          dsimp only at rv1835
          have tv1835 := congrArg Int32.toInt hv1835
          obtain ⟨v1837, hv1837⟩ : ∃ v, gI g0 59 9 = v := ⟨_, rfl⟩
          have tv1837 := congrArg Int32.toInt hv1837
          obtain ⟨v1839, hv1839⟩ : ∃ v, gI g0 116 0 = v := ⟨_, rfl⟩
          have rv1839 := RgF.at hI0.2.1 (p := 116) (b := 0) rfl
          rw [hv1839] at rv1839
          dsimp only at rv1839
          have tv1839 := congrArg Int32.toInt hv1839
          obtain ⟨v1841, hv1841⟩ : ∃ v, gI g0 116 12 = v := ⟨_, rfl⟩
          have rv1841 := RgF.at hI0.2.1 (p := 116) (b := 12) rfl
          rw [hv1841] at rv1841
          dsimp only at rv1841
          have tv1841 := congrArg Int32.toInt hv1841
          obtain ⟨v1843, hv1843⟩ : ∃ v, gI g0 116 10 = v := ⟨_, rfl⟩
          have tv1843 := congrArg Int32.toInt hv1843
          obtain ⟨v1845, hv1845⟩ : ∃ v, gI g0 116 11 = v := ⟨_, rfl⟩
          have tv1845 := congrArg Int32.toInt hv1845
          obtain ⟨v1847, hv1847⟩ : ∃ v, gI g0 116 4 = v := ⟨_, rfl⟩
          have rv1847 := RgF.at hI0.2.1 (p := 116) (b := 4) rfl
          rw [hv1847] at rv1847
          dsimp only at rv1847
          have tv1847 := congrArg Int32.toInt hv1847
          obtain ⟨v1849, hv1849⟩ : ∃ v, gI g0 116 6 = v := ⟨_, rfl⟩
          have rv1849 := RgF.at hI0.2.1 (p := 116) (b := 6) rfl
          rw [hv1849] at rv1849
          dsimp only at rv1849
          have tv1849 := congrArg Int32.toInt hv1849
          obtain ⟨v1851, hv1851⟩ : ∃ v, gI g0 116 9 = v := ⟨_, rfl⟩
          have tv1851 := congrArg Int32.toInt hv1851
          obtain ⟨v1853, hv1853⟩ : ∃ v, eA g0 173 0 = v := ⟨_, rfl⟩
          have tv1853 := congrArg Int32.toInt hv1853
          have x1854 := HI.eqA hI0 (p := 173) (j := 0) (hv1853)
          have y1855 : (eA g0 173 0).toInt = v1474.toInt := by rw [← hv1474, show a1.toInt = 0 by omega]
          obtain ⟨v1856, hv1856⟩ : ∃ v, eA g0 173 1 = v := ⟨_, rfl⟩
          have tv1856 := congrArg Int32.toInt hv1856
          have x1857 := HI.eqA hI0 (p := 173) (j := 1) (hv1856)
          have y1858 : a1.toInt = 0 → (eA g0 173 0).toInt = v1474.toInt := fun e => by rw [← hv1474, e]
          have e : a1.toInt = 0 := by omega
          have z1859 := HI.eqI hI1805 (p := 1) (b := 0) (((hF1806.1 1 0 mf_X10_refused_0_1_0).trans hv1811))
          have z1860 := HI.eqI hI1805 (p := 1) (b := 12) (((hF1806.1 1 12 mf_X10_refused_0_1_12).trans hv1813))
          have z1861 := HI.eqI hI1805 (p := 1) (b := 10) (((hF1806.1 1 10 mf_X10_refused_0_1_10).trans hv1815))
          have z1862 := HI.eqI hI1805 (p := 1) (b := 11) (((hF1806.1 1 11 mf_X10_refused_0_1_11).trans hv1817))
          have z1863 := HI.eqI hI1805 (p := 1) (b := 4) (((hF1806.1 1 4 mf_X10_refused_0_1_4).trans hv1819))
          have z1864 := HI.eqI hI1805 (p := 1) (b := 6) (((hF1806.1 1 6 mf_X10_refused_0_1_6).trans hv1821))
          have z1865 := HI.eqI hI1805 (p := 1) (b := 9) (((hF1806.1 1 9 mf_X10_refused_0_1_9).trans hv1823))
          have x1866 := HI.eqA hI0 (p := 173) (j := 0) (hv1853)
          have y1867 : (eA g0 173 0).toInt = v1474.toInt := by rw [← hv1474, show a1.toInt = 0 by omega]
          have x1868 := HI.eqA hI0 (p := 173) (j := 1) (hv1856)
          have kn124_ : ¬ (a1.toInt = 0 ∧ (eA g0 173 0).toInt ≠ 0) := by omega
          have kn125_ : ¬ (a1.toInt = 1 ∧ (eA g0 173 1).toInt ≠ 0) := by omega
          obtain ⟨v1869, hv1869⟩ : ∃ v, gI g1804 0 17 = v := ⟨_, rfl⟩
          have tv1869 := congrArg Int32.toInt hv1869
          exact ⟨_, rfl, hI1805, hF1809, _, rfl, by omega, ⟨⟨⟨by omega, by omega, by omega, by omega, by omega⟩, (by intro i i0 i1; refine Eq.trans ?_ (if_neg kn124_).symm; refine Eq.trans ?_ (if_neg kn125_).symm; refine (eA_ti ((hF1806.2.1 2 ma_X10_refused_0_2))).trans ?_; (first | with_reducible rfl | omega | exact eA_ix (by omega) | rfl)), (by intro i i0 i1; refine Eq.trans ?_ (if_neg kn124_).symm; refine Eq.trans ?_ (if_neg kn125_).symm; refine (eA_ti ((hF1806.2.1 3 ma_X10_refused_0_3))).trans ?_; (first | with_reducible rfl | omega | exact eA_ix (by omega) | rfl)), (by intro i i0 i1; refine Eq.trans ?_ (if_neg kn124_).symm; refine Eq.trans ?_ (if_neg kn125_).symm; refine (eA_ti ((hF1806.2.1 4 ma_X10_refused_0_4))).trans ?_; (first | with_reducible rfl | omega | exact eA_ix (by omega) | rfl)), (by intro i i0 i1; refine Eq.trans ?_ (if_neg kn124_).symm; refine Eq.trans ?_ (if_neg kn125_).symm; refine (eA_ti ((hF1806.2.1 14 ma_X10_refused_0_14))).trans ?_; (first | with_reducible rfl | omega | exact eA_ix (by omega) | rfl)), (by intro i i0 i1; refine Eq.trans ?_ (if_neg kn124_).symm; refine Eq.trans ?_ (if_neg kn125_).symm; refine (eA_ti ((hF1806.2.1 15 ma_X10_refused_0_15))).trans ?_; (first | with_reducible rfl | omega | exact eA_ix (by omega) | rfl)), (by intro i i0 i1; refine Eq.trans ?_ (if_neg kn124_).symm; refine Eq.trans ?_ (if_neg kn125_).symm; refine (eA_ti ((hF1806.2.1 5 ma_X10_refused_0_5))).trans ?_; (first | with_reducible rfl | omega | exact eA_ix (by omega) | rfl))⟩, (SU.mk (by omega))⟩⟩
      have c1473_1 : a1.toInt = 1 := by omega
      refine q_aald (Sh.rar hI0.1 ka_58) (by decide) 1 (by omega) (by decide) (some 116) rfl ?_
      refine r_goto ?_
      refine At.enter rfl ?_
      refine q_aret ?_
      refine At.enter rfl ?_
      refine r_astore_n ([(2, .ref 116), (0, .ref 0), (1, .int a1)]) rfl ?_
      refine r_aload_n rfl ?_
      refine r_nnr ?_
      refine At.enter rfl ?_
      refine r_aload_n rfl ?_
      refine q_getR (Sh.ref hI0.1 kx_0 rfl) ?_
      refine r_iload_n rfl ?_
      obtain ⟨v1871, hv1871⟩ : ∃ v, eA g0 173 a1.toInt = v := ⟨_, rfl⟩
      refine q_bald (Sh.arr hI0.1 ka_173) a1.toInt rfl (by omega) v1871 hv1871 ?_
      refine r_ifs 25 rfl (fun c1872 => ?_) (fun c1872 => ?_)
      · have c1872_ : v1871.toInt ≠ 0 := en_k_ne_t c1872
        refine At.enter rfl ?_
        refine r_aload_n rfl ?_
        refine q_getR (Sh.ref hI0.1 kx_0 rfl) ?_
        refine r_aload_n rfl ?_
        refine q_inlV 40 rfl [.ref 1, .ref 116] [] (Nat.le_of_ble_eq_true rfl) rfl ?_
        refine Ev.mk rfl rfl ⟨Nat.le_of_ble_eq_true rfl, Or.inr (q_rc hI0.1 kx_1 rfl)⟩ ?_
        show At _ none _ _ (0, [(0, .ref 1), (1, .ref 116)], [], (_, _)) _
        refine At.enter rfl ?_
        refine r_aload_n rfl ?_
        refine r_aload_n rfl ?_
        obtain ⟨v1873, hv1873⟩ : ∃ v, gI g0 116 0 = v := ⟨_, rfl⟩
        have rv1873 := RgF.at hI0.2.1 (p := 116) (b := 0) rfl
        rw [hv1873] at rv1873
        dsimp only at rv1873
        refine q_getI (Sh.int hI0.1 kx_116 rfl) v1873 hv1873 ?_
        refine q_putI (Sh.int hI0.1 kx_1 rfl) rfl ?_
        have hI1874 := HI.wI1 hI0 kx_1 rfl (p := 1) (b := 0) (v := v1873) rfl (by dsimp only; omega)
        have hF1875 := Fr.wI (p := 1) (b := 0) (v := v1873) hF0 rfl
        refine r_aload_n rfl ?_
        refine q_getR (Sh.ref hI1874.1 kx_116 rfl) ?_
        refine r_iconst 0 rfl ?_
        refine r_aload_n rfl ?_
        refine q_getR (Sh.ref hI1874.1 kx_1 rfl) ?_
        refine r_iconst 0 rfl ?_
        refine r_bipush 12 rfl ?_
        have zv1876 : (0 : Int32).toInt = 0 := rfl
        have zv1877 : (0 : Int32).toInt = 0 := rfl
        have zv1878 : (12 : Int32).toInt = 12 := rfl
        refine q_cpy rfl (Nat.le_of_ble_eq_true rfl) (Sh.arr hI1874.1 ka_117) (Sh.arr hI1874.1 ka_2) ⟨by omega, by omega, by omega, by omega, by omega⟩ ?_
        have hI1879 := HI.cpy0 hI1874 ka_117 ka_2 rfl rfl ((0 : Int32).toInt.toNat) ((0 : Int32).toInt.toNat) ((12 : Int32).toInt.toNat) (by omega) (by omega)
        have hF1880 := Fr.cpy (p0 := 117) (p1 := 2) hF1875 rfl ((0 : Int32).toInt.toNat) ((0 : Int32).toInt.toNat) ((12 : Int32).toInt.toNat)
        refine r_aload_n rfl ?_
        refine q_getR (Sh.ref hI1879.1 kx_116 rfl) ?_
        refine r_iconst 0 rfl ?_
        refine r_aload_n rfl ?_
        refine q_getR (Sh.ref hI1879.1 kx_1 rfl) ?_
        refine r_iconst 0 rfl ?_
        refine r_bipush 12 rfl ?_
        have zv1881 : (0 : Int32).toInt = 0 := rfl
        have zv1882 : (0 : Int32).toInt = 0 := rfl
        have zv1883 : (12 : Int32).toInt = 12 := rfl
        refine q_cpy rfl (Nat.le_of_ble_eq_true rfl) (Sh.arr hI1879.1 ka_118) (Sh.arr hI1879.1 ka_3) ⟨by omega, by omega, by omega, by omega, by omega⟩ ?_
        have hI1884 := HI.cpy0 hI1879 ka_118 ka_3 rfl rfl ((0 : Int32).toInt.toNat) ((0 : Int32).toInt.toNat) ((12 : Int32).toInt.toNat) (by omega) (by omega)
        have hF1885 := Fr.cpy (p0 := 118) (p1 := 3) hF1880 rfl ((0 : Int32).toInt.toNat) ((0 : Int32).toInt.toNat) ((12 : Int32).toInt.toNat)
        refine r_aload_n rfl ?_
        refine q_getR (Sh.ref hI1884.1 kx_116 rfl) ?_
        refine r_iconst 0 rfl ?_
        refine r_aload_n rfl ?_
        refine q_getR (Sh.ref hI1884.1 kx_1 rfl) ?_
        refine r_iconst 0 rfl ?_
        refine r_bipush 12 rfl ?_
        have zv1886 : (0 : Int32).toInt = 0 := rfl
        have zv1887 : (0 : Int32).toInt = 0 := rfl
        have zv1888 : (12 : Int32).toInt = 12 := rfl
        refine q_cpy rfl (Nat.le_of_ble_eq_true rfl) (Sh.arr hI1884.1 ka_119) (Sh.arr hI1884.1 ka_4) ⟨by omega, by omega, by omega, by omega, by omega⟩ ?_
        have hI1889 := HI.cpy0 hI1884 ka_119 ka_4 rfl rfl ((0 : Int32).toInt.toNat) ((0 : Int32).toInt.toNat) ((12 : Int32).toInt.toNat) (by omega) (by omega)
        have hF1890 := Fr.cpy (p0 := 119) (p1 := 4) hF1885 rfl ((0 : Int32).toInt.toNat) ((0 : Int32).toInt.toNat) ((12 : Int32).toInt.toNat)
        refine r_aload_n rfl ?_
        refine r_aload_n rfl ?_
        obtain ⟨v1891, hv1891⟩ : ∃ v, gI g0 116 4 = v := ⟨_, rfl⟩
        have rv1891 := RgF.at hI0.2.1 (p := 116) (b := 4) rfl
        rw [hv1891] at rv1891
        dsimp only at rv1891
        refine q_getI (Sh.int hI1889.1 kx_116 rfl) v1891 (((gI_sW).trans ((gI_sW).trans ((gI_sW).trans (gI_sI_ne (by decide))))).trans hv1891) ?_
        refine q_putI (Sh.int hI1889.1 kx_1 rfl) rfl ?_
        have hI1892 := HI.wI1 hI1889 kx_1 rfl (p := 1) (b := 4) (v := v1891) rfl (by dsimp only; omega)
        have hF1893 := Fr.wI (p := 1) (b := 4) (v := v1891) hF1890 rfl
        refine r_aload_n rfl ?_
        refine q_getR (Sh.ref hI1892.1 kx_116 rfl) ?_
        refine r_iconst 0 rfl ?_
        refine r_aload_n rfl ?_
        refine q_getR (Sh.ref hI1892.1 kx_1 rfl) ?_
        refine r_iconst 0 rfl ?_
        refine r_bipush 48 rfl ?_
        have zv1894 : (0 : Int32).toInt = 0 := rfl
        have zv1895 : (0 : Int32).toInt = 0 := rfl
        have zv1896 : (48 : Int32).toInt = 48 := rfl
        refine q_cpy rfl (Nat.le_of_ble_eq_true rfl) (Sh.arr hI1892.1 ka_120) (Sh.arr hI1892.1 ka_5) ⟨by omega, by omega, by omega, by omega, by omega⟩ ?_
        have hI1897 := HI.cpy0 hI1892 ka_120 ka_5 rfl rfl ((0 : Int32).toInt.toNat) ((0 : Int32).toInt.toNat) ((48 : Int32).toInt.toNat) (by omega) (by omega)
        have hF1898 := Fr.cpy (p0 := 120) (p1 := 5) hF1893 rfl ((0 : Int32).toInt.toNat) ((0 : Int32).toInt.toNat) ((48 : Int32).toInt.toNat)
        refine r_aload_n rfl ?_
        refine r_aload_n rfl ?_
        obtain ⟨v1899, hv1899⟩ : ∃ v, gI g0 116 6 = v := ⟨_, rfl⟩
        have rv1899 := RgF.at hI0.2.1 (p := 116) (b := 6) rfl
        rw [hv1899] at rv1899
        dsimp only at rv1899
        refine q_getI (Sh.int hI1897.1 kx_116 rfl) v1899 (((gI_sW).trans ((gI_sI_ne (by decide)).trans ((gI_sW).trans ((gI_sW).trans ((gI_sW).trans (gI_sI_ne (by decide))))))).trans hv1899) ?_
        refine q_putI (Sh.int hI1897.1 kx_1 rfl) rfl ?_
        have hI1900 := HI.wI1 hI1897 kx_1 rfl (p := 1) (b := 6) (v := v1899) rfl (by dsimp only; omega)
        have hF1901 := Fr.wI (p := 1) (b := 6) (v := v1899) hF1898 rfl
        refine r_iconst 0 rfl ?_
        refine r_istore_n ([(2, .int 0), (0, .ref 1), (1, .ref 116)]) rfl ?_
        refine Ar.fall 86 rfl ?_
        have z_2136 : (0 : Int32).toInt = 0 := rfl
        refine w_loopI (fun n_ l_ g_ => ∃ x2116 : Int32, n_ = 6 - x2116.toInt ∧ HI g_ ∧ Fr F_X10_back_0 A_X10_back_0 g0 g_ ∧ gI g_ 1 0 = v1873 ∧ gI g_ 1 4 = v1891 ∧ gI g_ 1 6 = v1899 ∧ en_get 0 l_ = some (.ref 1) ∧ en_get 1 l_ = some (.ref 116) ∧ en_get 2 l_ = some (.int x2116) ∧ (0 ≤ x2116.toInt ∧ x2116.toInt ≤ 6) ∧ (∀ i : Int, 0 ≤ i → i < 12 → (eA g_ 2 (i)).toInt = (eA g0 117 (i)).toInt) ∧ (∀ i : Int, 0 ≤ i → i < 12 → (eA g_ 3 (i)).toInt = (eA g0 118 (i)).toInt) ∧ (∀ i : Int, 0 ≤ i → i < 12 → (eA g_ 4 (i)).toInt = (eA g0 119 (i)).toInt) ∧ (∀ i : Int, 0 ≤ i → i < 8 → (eA g_ 14 (i)).toInt = (eA g0 14 (i)).toInt) ∧ (∀ i : Int, 0 ≤ i → i < 8 → (eA g_ 15 (i)).toInt = (eA g0 15 (i)).toInt) ∧ (∀ i : Int, 0 ≤ i → i < 48 → (eA g_ 5 (i)).toInt = (eA g0 120 (i)).toInt)) ?_ (6 - 0) ⟨0, by first | rfl | omega, hI1900, hF1901, ((gI_sI_ne (by decide)).trans ((gI_sW).trans ((gI_sI_ne (by decide)).trans ((gI_sW).trans ((gI_sW).trans ((gI_sW).trans (gI_sI_eq hI0.1 kx_1 rfl _))))))), ((gI_sI_ne (by decide)).trans ((gI_sW).trans (gI_sI_eq hI1889.1 kx_1 rfl _))), (gI_sI_eq hI1897.1 kx_1 rfl _), rfl, rfl, rfl, by decide, (by intro i i0 i1; refine (eA_tq (((gA_sI).trans ((gA_sW_ne (by decide)).trans ((gA_sI).trans ((gA_sW_ne (by decide)).trans ((gA_sW_ne (by decide)).trans ((gA_cpF hI1874.1 ka_117 ka_2 (by decide) (by decide) (by decide)).trans (gA_sI))))))))).trans ?_; (first | with_reducible rfl | omega | exact eA_ix (by omega) | rfl)), (by intro i i0 i1; refine (eA_tq (((gA_sI).trans ((gA_sW_ne (by decide)).trans ((gA_sI).trans ((gA_sW_ne (by decide)).trans ((gA_cpF hI1879.1 ka_118 ka_3 (by decide) (by decide) (by decide)).trans ((gA_sW_ne (by decide)).trans (gA_sI))))))))).trans ?_; (first | with_reducible rfl | omega | exact eA_ix (by omega) | rfl)), (by intro i i0 i1; refine (eA_tq (((gA_sI).trans ((gA_sW_ne (by decide)).trans ((gA_sI).trans ((gA_cpF hI1884.1 ka_119 ka_4 (by decide) (by decide) (by decide)).trans ((gA_sW_ne (by decide)).trans ((gA_sW_ne (by decide)).trans (gA_sI))))))))).trans ?_; (first | with_reducible rfl | omega | exact eA_ix (by omega) | rfl)), (by intro i i0 i1; refine (eA_ti (((gA_sI).trans ((gA_sW_ne (by decide)).trans ((gA_sI).trans ((gA_sW_ne (by decide)).trans ((gA_sW_ne (by decide)).trans ((gA_sW_ne (by decide)).trans (gA_sI))))))))).trans ?_; (first | with_reducible rfl | omega | exact eA_ix (by omega) | rfl)), (by intro i i0 i1; refine (eA_ti (((gA_sI).trans ((gA_sW_ne (by decide)).trans ((gA_sI).trans ((gA_sW_ne (by decide)).trans ((gA_sW_ne (by decide)).trans ((gA_sW_ne (by decide)).trans (gA_sI))))))))).trans ?_; (first | with_reducible rfl | omega | exact eA_ix (by omega) | rfl)), (by intro i i0 i1; refine (eA_tq (((gA_sI).trans ((gA_cpF hI1892.1 ka_120 ka_5 (by decide) (by decide) (by decide)).trans ((gA_sI).trans ((gA_sW_ne (by decide)).trans ((gA_sW_ne (by decide)).trans ((gA_sW_ne (by decide)).trans (gA_sI))))))))).trans ?_; (first | with_reducible rfl | omega | exact eA_ix (by omega) | rfl))⟩
        rintro n2121 l2120 g2117 ⟨x2116, hm2137, hI2118, hF2119, e2123, e2124, e2125, e2126, e2127, e2128, r2129, q2130, q2131, q2132, q2133, q2134, q2135⟩ ih2122
        have tv2138 := congrArg Int32.toInt e2123
        have tv2139 := congrArg Int32.toInt e2124
        have tv2140 := congrArg Int32.toInt e2125
        refine At.enter rfl ?_
        refine r_iload_n e2128 ?_
        refine r_bipush 6 rfl ?_
        refine r_ics 92 rfl (fun c2141 => ?_) (fun c2141 => ?_)
        · have c2141_ : x2116.toInt ≥ 6 := en_i_ge_t c2141
          refine At.enter rfl ?_
          refine r_aload_n e2126 ?_
          refine r_aload_n e2127 ?_
          obtain ⟨v2142, hv2142⟩ : ∃ v, gI g0 116 9 = v := ⟨_, rfl⟩
          refine q_getI (Sh.int hI2118.1 kx_116 rfl) v2142 ((hF2119.1 116 9 (by decide)).trans hv2142) ?_
          refine q_putI (Sh.int hI2118.1 kx_1 rfl) rfl ?_
          have hI2143 := HI.wI0 hI2118 kx_1 rfl (p := 1) (b := 9) (v := v2142) rfl
          have hF2144 := Fr.wI (p := 1) (b := 9) (v := v2142) hF2119 rfl
          refine r_aload_n e2126 ?_
          refine r_aload_n e2127 ?_
          obtain ⟨v2145, hv2145⟩ : ∃ v, gI g0 116 10 = v := ⟨_, rfl⟩
          refine q_getI (Sh.int hI2143.1 kx_116 rfl) v2145 (((gI_sI_ne (by decide)).trans (hF2119.1 116 10 (by decide))).trans hv2145) ?_
          refine q_putI (Sh.int hI2143.1 kx_1 rfl) rfl ?_
          have hI2146 := HI.wI0 hI2143 kx_1 rfl (p := 1) (b := 10) (v := v2145) rfl
          have hF2147 := Fr.wI (p := 1) (b := 10) (v := v2145) hF2144 rfl
          refine r_aload_n e2126 ?_
          refine r_aload_n e2127 ?_
          obtain ⟨v2148, hv2148⟩ : ∃ v, gI g0 116 11 = v := ⟨_, rfl⟩
          refine q_getI (Sh.int hI2146.1 kx_116 rfl) v2148 (((gI_sI_ne (by decide)).trans ((gI_sI_ne (by decide)).trans (hF2119.1 116 11 (by decide)))).trans hv2148) ?_
          refine q_putI (Sh.int hI2146.1 kx_1 rfl) rfl ?_
          have hI2149 := HI.wI0 hI2146 kx_1 rfl (p := 1) (b := 11) (v := v2148) rfl
          have hF2150 := Fr.wI (p := 1) (b := 11) (v := v2148) hF2147 rfl
          refine r_aload_n e2126 ?_
          refine r_aload_n e2127 ?_
          obtain ⟨v2151, hv2151⟩ : ∃ v, gI g0 116 12 = v := ⟨_, rfl⟩
          have rv2151 := RgF.at hI0.2.1 (p := 116) (b := 12) rfl
          rw [hv2151] at rv2151
          dsimp only at rv2151
          refine q_getI (Sh.int hI2149.1 kx_116 rfl) v2151 (((gI_sI_ne (by decide)).trans ((gI_sI_ne (by decide)).trans ((gI_sI_ne (by decide)).trans (hF2119.1 116 12 (by decide))))).trans hv2151) ?_
          refine q_putI (Sh.int hI2149.1 kx_1 rfl) rfl ?_
          have hI2152 := HI.wI1 hI2149 kx_1 rfl (p := 1) (b := 12) (v := v2151) rfl (by dsimp only; omega)
          have hF2153 := Fr.wI (p := 1) (b := 12) (v := v2151) hF2150 rfl
          refine r_aload_n e2127 ?_
          refine q_getR (Sh.ref hI2152.1 kx_116 rfl) ?_
          refine r_iconst 0 rfl ?_
          refine r_aload_n e2126 ?_
          refine q_getR (Sh.ref hI2152.1 kx_1 rfl) ?_
          refine r_iconst 0 rfl ?_
          refine r_bipush 8 rfl ?_
          have zv2154 : (0 : Int32).toInt = 0 := rfl
          have zv2155 : (0 : Int32).toInt = 0 := rfl
          have zv2156 : (8 : Int32).toInt = 8 := rfl
          refine q_cpy rfl (Nat.le_of_ble_eq_true rfl) (Sh.arr hI2152.1 ka_129) (Sh.arr hI2152.1 ka_14) ⟨by omega, by omega, by omega, by omega, by omega⟩ ?_
          have hI2157 := HI.cpy0 hI2152 ka_129 ka_14 rfl rfl ((0 : Int32).toInt.toNat) ((0 : Int32).toInt.toNat) ((8 : Int32).toInt.toNat) (by omega) (by omega)
          have hF2158 := Fr.cpy (p0 := 129) (p1 := 14) hF2153 rfl ((0 : Int32).toInt.toNat) ((0 : Int32).toInt.toNat) ((8 : Int32).toInt.toNat)
          refine r_aload_n e2127 ?_
          refine q_getR (Sh.ref hI2157.1 kx_116 rfl) ?_
          refine r_iconst 0 rfl ?_
          refine r_aload_n e2126 ?_
          refine q_getR (Sh.ref hI2157.1 kx_1 rfl) ?_
          refine r_iconst 0 rfl ?_
          refine r_bipush 8 rfl ?_
          have zv2159 : (0 : Int32).toInt = 0 := rfl
          have zv2160 : (0 : Int32).toInt = 0 := rfl
          have zv2161 : (8 : Int32).toInt = 8 := rfl
          refine q_cpy rfl (Nat.le_of_ble_eq_true rfl) (Sh.arr hI2157.1 ka_130) (Sh.arr hI2157.1 ka_15) ⟨by omega, by omega, by omega, by omega, by omega⟩ ?_
          have hI2162 := HI.cpy0 hI2157 ka_130 ka_15 rfl rfl ((0 : Int32).toInt.toNat) ((0 : Int32).toInt.toNat) ((8 : Int32).toInt.toNat) (by omega) (by omega)
          have hF2163 := Fr.cpy (p0 := 130) (p1 := 15) hF2158 rfl ((0 : Int32).toInt.toNat) ((0 : Int32).toInt.toNat) ((8 : Int32).toInt.toNat)
          refine q_vret ?_
          refine At.enter rfl ?_
          refine r_aload_n rfl ?_
          refine r_callV 44 rfl [.ref 0] [] (Nat.le_of_ble_eq_true rfl) rfl (T_X10_changed_0 _ hI2162) ?_
          rintro _ _ ⟨g2164, rfl, hI2165, hF2166, rfl⟩
          refine At.stn ?_
          have hF2169 := Fr.tr hF2163 hF2166 rfl rfl
          refine At.enter rfl ?_
          refine r_aload_n rfl ?_
          refine r_iconst 0 rfl ?_
          refine q_inlV 49 rfl [.ref 0, .int 0] [] (Nat.le_of_ble_eq_true rfl) rfl ?_
          refine Ev.mk rfl rfl ⟨Nat.le_of_ble_eq_true rfl, Or.inr (q_rc hI2165.1 kx_0 rfl)⟩ ?_
          show At _ none _ _ (0, [(0, .ref 0), (1, .int 0)], [], (_, _)) _
          refine At.enter rfl ?_
          refine r_aload_n rfl ?_
          refine r_iconst 0 rfl ?_
          refine q_putI (Sh.int hI2165.1 kx_0 rfl) rfl ?_
          have hI2170 := HI.wI0 hI2165 kx_0 rfl (p := 0) (b := 17) (v := 0) rfl
          have hF2171 := Fr.wI (p := 0) (b := 17) (v := 0) hF2169 rfl
          refine r_iload_n rfl ?_
          refine q_ireti ?_
          refine At.enter rfl ?_
          refine r_ireti ?_
          have zv2172 : (0 : Int32).toInt = 0 := rfl
          have e : a1.toInt = 1 := by omega
          have k2173_ : (eA g0 173 1).toInt = v1871.toInt := by rw [← hv1871, e]
          have k2173 : (eA g0 173 1).toInt ≠ 0 := by omega
          obtain ⟨v2174, hv2174⟩ : ∃ v, eA g0 173 0 = v := ⟨_, rfl⟩
          have tv2174 := congrArg Int32.toInt hv2174
          have x2175 := HI.eqA hI0 (p := 173) (j := 0) (hv2174)
          obtain ⟨v2176, hv2176⟩ : ∃ v, eA g0 173 1 = v := ⟨_, rfl⟩
          have tv2176 := congrArg Int32.toInt hv2176
          have x2177 := HI.eqA hI0 (p := 173) (j := 1) (hv2176)
          have y2178 : (eA g0 173 1).toInt = v1871.toInt := by rw [← hv1871, show a1.toInt = 1 by omega]
          have zv2179 : (0 : Int32).toInt = 0 := rfl
          have x2180 := HI.eqI hI2170 (p := 0) (b := 17) ((gI_sI_eq hI2165.1 kx_0 rfl _))
          have zv2181 : (0 : Int32).toInt = 0 := rfl
          exact ⟨_, rfl, hI2170, hF2171, _, rfl, by decide, ⟨⟨⟨(fun h => absurd (e.symm.trans h.1) (by decide)), (fun _ => ⟨(by first | rfl | decide), (HI.eqI hI2170 (p := 1) (b := 0) ((((gI_sI_ne (by decide)).trans ((hF2166.1 1 0 mf_X10_changed_0_1_0).trans ((gI_sW).trans ((gI_sW).trans ((gI_sI_ne (by decide)).trans ((gI_sI_ne (by decide)).trans ((gI_sI_ne (by decide)).trans (gI_sI_ne (by decide))))))))).trans e2123))).trans (HI.eqI hI0 (p := 116) (b := 0) (hv1873)).symm, (HI.eqI hI2170 (p := 1) (b := 12) (((gI_sI_ne (by decide)).trans ((hF2166.1 1 12 mf_X10_changed_0_1_12).trans ((gI_sW).trans ((gI_sW).trans (gI_sI_eq hI2149.1 kx_1 rfl _))))))).trans (HI.eqI hI0 (p := 116) (b := 12) (hv2151)).symm, (HI.eqI hI2170 (p := 1) (b := 10) (((gI_sI_ne (by decide)).trans ((hF2166.1 1 10 mf_X10_changed_0_1_10).trans ((gI_sW).trans ((gI_sW).trans ((gI_sI_ne (by decide)).trans ((gI_sI_ne (by decide)).trans (gI_sI_eq hI2143.1 kx_1 rfl _))))))))).trans (HI.eqI hI0 (p := 116) (b := 10) (hv2145)).symm, (HI.eqI hI2170 (p := 1) (b := 11) (((gI_sI_ne (by decide)).trans ((hF2166.1 1 11 mf_X10_changed_0_1_11).trans ((gI_sW).trans ((gI_sW).trans ((gI_sI_ne (by decide)).trans (gI_sI_eq hI2146.1 kx_1 rfl _)))))))).trans (HI.eqI hI0 (p := 116) (b := 11) (hv2148)).symm, (HI.eqI hI2170 (p := 1) (b := 4) ((((gI_sI_ne (by decide)).trans ((hF2166.1 1 4 mf_X10_changed_0_1_4).trans ((gI_sW).trans ((gI_sW).trans ((gI_sI_ne (by decide)).trans ((gI_sI_ne (by decide)).trans ((gI_sI_ne (by decide)).trans (gI_sI_ne (by decide))))))))).trans e2124))).trans (HI.eqI hI0 (p := 116) (b := 4) (hv1891)).symm, (HI.eqI hI2170 (p := 1) (b := 6) ((((gI_sI_ne (by decide)).trans ((hF2166.1 1 6 mf_X10_changed_0_1_6).trans ((gI_sW).trans ((gI_sW).trans ((gI_sI_ne (by decide)).trans ((gI_sI_ne (by decide)).trans ((gI_sI_ne (by decide)).trans (gI_sI_ne (by decide))))))))).trans e2125))).trans (HI.eqI hI0 (p := 116) (b := 6) (hv1899)).symm, (HI.eqI hI2170 (p := 1) (b := 9) (((gI_sI_ne (by decide)).trans ((hF2166.1 1 9 mf_X10_changed_0_1_9).trans ((gI_sW).trans ((gI_sW).trans ((gI_sI_ne (by decide)).trans ((gI_sI_ne (by decide)).trans ((gI_sI_ne (by decide)).trans (gI_sI_eq hI2118.1 kx_1 rfl _)))))))))).trans (HI.eqI hI0 (p := 116) (b := 9) (hv2142)).symm⟩), (fun h => absurd ⟨e, k2173⟩ h.2), (fun h => False.elim (by omega)), (fun h => absurd ⟨e, k2173⟩ h.2.2.2)⟩, (by intro i i0 i1; refine Eq.trans ?_ (if_neg (fun z => (show ¬ (a1.toInt = 0) from (by first | exact (fun h => absurd (e.symm.trans h) (by decide)) | omega)) z.1)).symm; exact (Decidable.em (a1.toInt = 1 ∧ (eA g0 173 1).toInt ≠ 0)).elim (fun k126_ => by refine Eq.trans ?_ (if_pos k126_).symm; refine (eA_ti (((gA_sI).trans ((hF2166.2.1 2 ma_X10_changed_0_2).trans ((gA_sW_ne (by decide)).trans ((gA_sW_ne (by decide)).trans ((gA_sI).trans ((gA_sI).trans ((gA_sI).trans (gA_sI)))))))))).trans ?_; refine ((q2130 (i) (by first | exact i0 | omega) (by first | exact i1 | omega))).trans ?_; (first | with_reducible rfl | omega | exact eA_ix (by omega) | rfl)) (fun k126_ => by refine Eq.trans ?_ (if_neg k126_).symm; refine (eA_ti (((gA_sI).trans ((hF2166.2.1 2 ma_X10_changed_0_2).trans ((gA_sW_ne (by decide)).trans ((gA_sW_ne (by decide)).trans ((gA_sI).trans ((gA_sI).trans ((gA_sI).trans (gA_sI)))))))))).trans ?_; refine ((q2130 (i) (by first | exact i0 | omega) (by first | exact i1 | omega))).trans ?_; (first | with_reducible rfl | omega | exact eA_ix (by omega) | rfl))), (by intro i i0 i1; refine Eq.trans ?_ (if_neg (fun z => (show ¬ (a1.toInt = 0) from (by first | exact (fun h => absurd (e.symm.trans h) (by decide)) | omega)) z.1)).symm; exact (Decidable.em (a1.toInt = 1 ∧ (eA g0 173 1).toInt ≠ 0)).elim (fun k127_ => by refine Eq.trans ?_ (if_pos k127_).symm; refine (eA_ti (((gA_sI).trans ((hF2166.2.1 3 ma_X10_changed_0_3).trans ((gA_sW_ne (by decide)).trans ((gA_sW_ne (by decide)).trans ((gA_sI).trans ((gA_sI).trans ((gA_sI).trans (gA_sI)))))))))).trans ?_; refine ((q2131 (i) (by first | exact i0 | omega) (by first | exact i1 | omega))).trans ?_; (first | with_reducible rfl | omega | exact eA_ix (by omega) | rfl)) (fun k127_ => by refine Eq.trans ?_ (if_neg k127_).symm; refine (eA_ti (((gA_sI).trans ((hF2166.2.1 3 ma_X10_changed_0_3).trans ((gA_sW_ne (by decide)).trans ((gA_sW_ne (by decide)).trans ((gA_sI).trans ((gA_sI).trans ((gA_sI).trans (gA_sI)))))))))).trans ?_; refine ((q2131 (i) (by first | exact i0 | omega) (by first | exact i1 | omega))).trans ?_; (first | with_reducible rfl | omega | exact eA_ix (by omega) | rfl))), (by intro i i0 i1; refine Eq.trans ?_ (if_neg (fun z => (show ¬ (a1.toInt = 0) from (by first | exact (fun h => absurd (e.symm.trans h) (by decide)) | omega)) z.1)).symm; exact (Decidable.em (a1.toInt = 1 ∧ (eA g0 173 1).toInt ≠ 0)).elim (fun k128_ => by refine Eq.trans ?_ (if_pos k128_).symm; refine (eA_ti (((gA_sI).trans ((hF2166.2.1 4 ma_X10_changed_0_4).trans ((gA_sW_ne (by decide)).trans ((gA_sW_ne (by decide)).trans ((gA_sI).trans ((gA_sI).trans ((gA_sI).trans (gA_sI)))))))))).trans ?_; refine ((q2132 (i) (by first | exact i0 | omega) (by first | exact i1 | omega))).trans ?_; (first | with_reducible rfl | omega | exact eA_ix (by omega) | rfl)) (fun k128_ => by refine Eq.trans ?_ (if_neg k128_).symm; refine (eA_ti (((gA_sI).trans ((hF2166.2.1 4 ma_X10_changed_0_4).trans ((gA_sW_ne (by decide)).trans ((gA_sW_ne (by decide)).trans ((gA_sI).trans ((gA_sI).trans ((gA_sI).trans (gA_sI)))))))))).trans ?_; refine ((q2132 (i) (by first | exact i0 | omega) (by first | exact i1 | omega))).trans ?_; (first | with_reducible rfl | omega | exact eA_ix (by omega) | rfl))), (by intro i i0 i1; refine Eq.trans ?_ (if_neg (fun z => (show ¬ (a1.toInt = 0) from (by first | exact (fun h => absurd (e.symm.trans h) (by decide)) | omega)) z.1)).symm; exact (Decidable.em (a1.toInt = 1 ∧ (eA g0 173 1).toInt ≠ 0)).elim (fun k129_ => by refine Eq.trans ?_ (if_pos k129_).symm; refine (eA_tq (((gA_sI).trans ((hF2166.2.1 14 ma_X10_changed_0_14).trans ((gA_sW_ne (by decide)).trans ((gA_cpF hI2152.1 ka_129 ka_14 (by decide) (by decide) (by decide)).trans ((gA_sI).trans ((gA_sI).trans ((gA_sI).trans ((gA_sI).trans (hF2119.2.1 129 (by decide)))))))))))).trans ?_; (first | with_reducible rfl | omega | exact eA_ix (by omega) | rfl)) (fun k129_ => by refine Eq.trans ?_ (if_neg k129_).symm; refine (eA_tq (((gA_sI).trans ((hF2166.2.1 14 ma_X10_changed_0_14).trans ((gA_sW_ne (by decide)).trans ((gA_cpF hI2152.1 ka_129 ka_14 (by decide) (by decide) (by decide)).trans ((gA_sI).trans ((gA_sI).trans ((gA_sI).trans ((gA_sI).trans (hF2119.2.1 129 (by decide)))))))))))).trans ?_; (first | with_reducible rfl | omega | exact eA_ix (by omega) | rfl))), (by intro i i0 i1; refine Eq.trans ?_ (if_neg (fun z => (show ¬ (a1.toInt = 0) from (by first | exact (fun h => absurd (e.symm.trans h) (by decide)) | omega)) z.1)).symm; exact (Decidable.em (a1.toInt = 1 ∧ (eA g0 173 1).toInt ≠ 0)).elim (fun k130_ => by refine Eq.trans ?_ (if_pos k130_).symm; refine (eA_tq (((gA_sI).trans ((hF2166.2.1 15 ma_X10_changed_0_15).trans ((gA_cpF hI2157.1 ka_130 ka_15 (by decide) (by decide) (by decide)).trans ((gA_sW_ne (by decide)).trans ((gA_sI).trans ((gA_sI).trans ((gA_sI).trans ((gA_sI).trans (hF2119.2.1 130 (by decide)))))))))))).trans ?_; (first | with_reducible rfl | omega | exact eA_ix (by omega) | rfl)) (fun k130_ => by refine Eq.trans ?_ (if_neg k130_).symm; refine (eA_tq (((gA_sI).trans ((hF2166.2.1 15 ma_X10_changed_0_15).trans ((gA_cpF hI2157.1 ka_130 ka_15 (by decide) (by decide) (by decide)).trans ((gA_sW_ne (by decide)).trans ((gA_sI).trans ((gA_sI).trans ((gA_sI).trans ((gA_sI).trans (hF2119.2.1 130 (by decide)))))))))))).trans ?_; (first | with_reducible rfl | omega | exact eA_ix (by omega) | rfl))), (by intro i i0 i1; refine Eq.trans ?_ (if_neg (fun z => (show ¬ (a1.toInt = 0) from (by first | exact (fun h => absurd (e.symm.trans h) (by decide)) | omega)) z.1)).symm; exact (Decidable.em (a1.toInt = 1 ∧ (eA g0 173 1).toInt ≠ 0)).elim (fun k131_ => by refine Eq.trans ?_ (if_pos k131_).symm; refine (eA_ti (((gA_sI).trans ((hF2166.2.1 5 ma_X10_changed_0_5).trans ((gA_sW_ne (by decide)).trans ((gA_sW_ne (by decide)).trans ((gA_sI).trans ((gA_sI).trans ((gA_sI).trans (gA_sI)))))))))).trans ?_; refine ((q2135 (i) (by first | exact i0 | omega) (by first | exact i1 | omega))).trans ?_; (first | with_reducible rfl | omega | exact eA_ix (by omega) | rfl)) (fun k131_ => by refine Eq.trans ?_ (if_neg k131_).symm; refine (eA_ti (((gA_sI).trans ((hF2166.2.1 5 ma_X10_changed_0_5).trans ((gA_sW_ne (by decide)).trans ((gA_sW_ne (by decide)).trans ((gA_sI).trans ((gA_sI).trans ((gA_sI).trans (gA_sI)))))))))).trans ?_; refine ((q2135 (i) (by first | exact i0 | omega) (by first | exact i1 | omega))).trans ?_; (first | with_reducible rfl | omega | exact eA_ix (by omega) | rfl)))⟩, (SU.mk (by omega))⟩⟩
        · have c2141_ : x2116.toInt < 6 := en_i_ge_f c2141
          refine At.enter rfl ?_
          refine r_aload_n e2126 ?_
          refine r_iload_n e2128 ?_
          refine r_callV 97 rfl [.ref 1, .int x2116] [] (Nat.le_of_ble_eq_true rfl) rfl (T_X0_lawAt_1 _ hI2118 x2116) ?_
          rintro _ _ ⟨g2182, rfl, hI2183, hF2184, v2185, rfl, hr2186⟩
          refine At.str ?_
          have hF2187 := Fr.tr hF2119 hF2184 rfl rfl
          refine At.enter rfl ?_
          refine r_aload_n e2127 ?_
          refine r_iload_n e2128 ?_
          refine r_callV 102 rfl [.ref 116, .int x2116] [.ref (v2185)] (Nat.le_of_ble_eq_true rfl) rfl (T_X0_lawAt_116 _ hI2183 x2116) ?_
          rintro _ _ ⟨g2188, rfl, hI2189, hF2190, v2191, rfl, hr2192⟩
          refine At.str ?_
          have hF2193 := Fr.tr hF2187 hF2190 rfl rfl
          refine At.enter rfl ?_
          refine r_callV 105 rfl [.ref (v2185), .ref (v2191)] [] (Nat.le_of_ble_eq_true rfl) rfl (T_X4_become_law _ hI2189 (v2185) hr2186 (v2191) hr2192) ?_
          rintro _ _ ⟨g2194, rfl, hI2195, hF2196, rfl⟩
          refine At.stn ?_
          have hF2199 := Fr.tr hF2193 hF2196 rfl rfl
          refine At.enter rfl ?_
          refine q_iinc e2128 (x2116.toInt + 1) rfl (by omega) (fun v2200 hv2200 => ?_)
          refine r_goto ?_
          exact ih2122 (6 - v2200.toInt) _ _ ⟨v2200, by first | rfl | omega, hI2195, hF2199, (((hF2196.1 1 0 mf_X4_become_law_1_0).trans ((hF2190.1 1 0 mf_X0_lawAt_116_1_0).trans (hF2184.1 1 0 mf_X0_lawAt_1_1_0))).trans e2123), (((hF2196.1 1 4 mf_X4_become_law_1_4).trans ((hF2190.1 1 4 mf_X0_lawAt_116_1_4).trans (hF2184.1 1 4 mf_X0_lawAt_1_1_4))).trans e2124), (((hF2196.1 1 6 mf_X4_become_law_1_6).trans ((hF2190.1 1 6 mf_X0_lawAt_116_1_6).trans (hF2184.1 1 6 mf_X0_lawAt_1_1_6))).trans e2125), (w_p1 (by decide) (Or.inr rfl) e2126), (w_p1 (by decide) (Or.inr rfl) e2127), (w_e1 _ _ _), by omega, (by intro i i0 i1; refine (eA_ti (((hF2196.2.1 2 ma_X4_become_law_2).trans ((hF2190.2.1 2 ma_X0_lawAt_116_2).trans (hF2184.2.1 2 ma_X0_lawAt_1_2))))).trans ?_; refine ((q2130 (i) (by first | exact i0 | omega) (by first | exact i1 | omega))).trans ?_; (first | with_reducible rfl | omega | exact eA_ix (by omega) | rfl)), (by intro i i0 i1; refine (eA_ti (((hF2196.2.1 3 ma_X4_become_law_3).trans ((hF2190.2.1 3 ma_X0_lawAt_116_3).trans (hF2184.2.1 3 ma_X0_lawAt_1_3))))).trans ?_; refine ((q2131 (i) (by first | exact i0 | omega) (by first | exact i1 | omega))).trans ?_; (first | with_reducible rfl | omega | exact eA_ix (by omega) | rfl)), (by intro i i0 i1; refine (eA_ti (((hF2196.2.1 4 ma_X4_become_law_4).trans ((hF2190.2.1 4 ma_X0_lawAt_116_4).trans (hF2184.2.1 4 ma_X0_lawAt_1_4))))).trans ?_; refine ((q2132 (i) (by first | exact i0 | omega) (by first | exact i1 | omega))).trans ?_; (first | with_reducible rfl | omega | exact eA_ix (by omega) | rfl)), (by intro i i0 i1; refine (eA_ti (((hF2196.2.1 14 ma_X4_become_law_14).trans ((hF2190.2.1 14 ma_X0_lawAt_116_14).trans (hF2184.2.1 14 ma_X0_lawAt_1_14))))).trans ?_; refine ((q2133 (i) (by first | exact i0 | omega) (by first | exact i1 | omega))).trans ?_; (first | with_reducible rfl | omega | exact eA_ix (by omega) | rfl)), (by intro i i0 i1; refine (eA_ti (((hF2196.2.1 15 ma_X4_become_law_15).trans ((hF2190.2.1 15 ma_X0_lawAt_116_15).trans (hF2184.2.1 15 ma_X0_lawAt_1_15))))).trans ?_; refine ((q2134 (i) (by first | exact i0 | omega) (by first | exact i1 | omega))).trans ?_; (first | with_reducible rfl | omega | exact eA_ix (by omega) | rfl)), (by intro i i0 i1; refine (eA_ti (((hF2196.2.1 5 ma_X4_become_law_5).trans ((hF2190.2.1 5 ma_X0_lawAt_116_5).trans (hF2184.2.1 5 ma_X0_lawAt_1_5))))).trans ?_; refine ((q2135 (i) (by first | exact i0 | omega) (by first | exact i1 | omega))).trans ?_; (first | with_reducible rfl | omega | exact eA_ix (by omega) | rfl))⟩ ⟨by omega, by omega⟩
      · have c1872_ : v1871.toInt = 0 := en_k_ne_f c1872
        refine At.enter rfl ?_
        refine r_aload_n rfl ?_
        refine r_bipush (-2) rfl ?_
        refine r_callV 31 rfl [.ref 0, .int (-2)] [] (Nat.le_of_ble_eq_true rfl) rfl (T_X10_refused_0 _ hI0 (-2) (by decide)) ?_
        rintro _ _ ⟨g2201, rfl, hI2202, hF2203, v2204, rfl, hr2205⟩
        refine At.sti ?_
        have hF2206 := Fr.tr hF0 hF2203 rfl rfl
        have zv2207 : ((-2) : Int32).toInt = (-2) := rfl
        refine At.enter rfl ?_
        refine r_ireti ?_
        obtain ⟨v2208, hv2208⟩ : ∃ v, gI g0 1 0 = v := ⟨_, rfl⟩
        have rv2208 := RgF.at hI0.2.1 (p := 1) (b := 0) rfl
        rw [hv2208] at rv2208
        dsimp only at rv2208
        have tv2208 := congrArg Int32.toInt hv2208
        obtain ⟨v2210, hv2210⟩ : ∃ v, gI g0 1 12 = v := ⟨_, rfl⟩
        have rv2210 := RgF.at hI0.2.1 (p := 1) (b := 12) rfl
        rw [hv2210] at rv2210
        dsimp only at rv2210
        have tv2210 := congrArg Int32.toInt hv2210
        obtain ⟨v2212, hv2212⟩ : ∃ v, gI g0 1 10 = v := ⟨_, rfl⟩
        have tv2212 := congrArg Int32.toInt hv2212
        obtain ⟨v2214, hv2214⟩ : ∃ v, gI g0 1 11 = v := ⟨_, rfl⟩
        have tv2214 := congrArg Int32.toInt hv2214
        obtain ⟨v2216, hv2216⟩ : ∃ v, gI g0 1 4 = v := ⟨_, rfl⟩
        have rv2216 := RgF.at hI0.2.1 (p := 1) (b := 4) rfl
        rw [hv2216] at rv2216
        dsimp only at rv2216
        have tv2216 := congrArg Int32.toInt hv2216
        obtain ⟨v2218, hv2218⟩ : ∃ v, gI g0 1 6 = v := ⟨_, rfl⟩
        have rv2218 := RgF.at hI0.2.1 (p := 1) (b := 6) rfl
        rw [hv2218] at rv2218
        dsimp only at rv2218
        have tv2218 := congrArg Int32.toInt hv2218
        obtain ⟨v2220, hv2220⟩ : ∃ v, gI g0 1 9 = v := ⟨_, rfl⟩
        have tv2220 := congrArg Int32.toInt hv2220
        obtain ⟨v2222, hv2222⟩ : ∃ v, gI g0 59 0 = v := ⟨_, rfl⟩
        have rv2222 := RgF.at hI0.2.1 (p := 59) (b := 0) rfl
        rw [hv2222] at rv2222
        dsimp only at rv2222
        have tv2222 := congrArg Int32.toInt hv2222
        obtain ⟨v2224, hv2224⟩ : ∃ v, gI g0 59 12 = v := ⟨_, rfl⟩
        have rv2224 := RgF.at hI0.2.1 (p := 59) (b := 12) rfl
        rw [hv2224] at rv2224
        dsimp only at rv2224
        have tv2224 := congrArg Int32.toInt hv2224
        obtain ⟨v2226, hv2226⟩ : ∃ v, gI g0 59 10 = v := ⟨_, rfl⟩
        have tv2226 := congrArg Int32.toInt hv2226
        obtain ⟨v2228, hv2228⟩ : ∃ v, gI g0 59 11 = v := ⟨_, rfl⟩
        have tv2228 := congrArg Int32.toInt hv2228
        obtain ⟨v2230, hv2230⟩ : ∃ v, gI g0 59 4 = v := ⟨_, rfl⟩
        have rv2230 := RgF.at hI0.2.1 (p := 59) (b := 4) rfl
        rw [hv2230] at rv2230
        dsimp only at rv2230
        have tv2230 := congrArg Int32.toInt hv2230
        obtain ⟨v2232, hv2232⟩ : ∃ v, gI g0 59 6 = v := ⟨_, rfl⟩
        have rv2232 := RgF.at hI0.2.1 (p := 59) (b := 6) rfl
        rw [hv2232] at rv2232
        dsimp only at rv2232
        have tv2232 := congrArg Int32.toInt hv2232
        obtain ⟨v2234, hv2234⟩ : ∃ v, gI g0 59 9 = v := ⟨_, rfl⟩
        have tv2234 := congrArg Int32.toInt hv2234
        obtain ⟨v2236, hv2236⟩ : ∃ v, gI g0 116 0 = v := ⟨_, rfl⟩
        have rv2236 := RgF.at hI0.2.1 (p := 116) (b := 0) rfl
        rw [hv2236] at rv2236
        dsimp only at rv2236
        have tv2236 := congrArg Int32.toInt hv2236
        obtain ⟨v2238, hv2238⟩ : ∃ v, gI g0 116 12 = v := ⟨_, rfl⟩
        have rv2238 := RgF.at hI0.2.1 (p := 116) (b := 12) rfl
        rw [hv2238] at rv2238
        dsimp only at rv2238
        have tv2238 := congrArg Int32.toInt hv2238
        obtain ⟨v2240, hv2240⟩ : ∃ v, gI g0 116 10 = v := ⟨_, rfl⟩
        have tv2240 := congrArg Int32.toInt hv2240
        obtain ⟨v2242, hv2242⟩ : ∃ v, gI g0 116 11 = v := ⟨_, rfl⟩
        have tv2242 := congrArg Int32.toInt hv2242
        obtain ⟨v2244, hv2244⟩ : ∃ v, gI g0 116 4 = v := ⟨_, rfl⟩
        have rv2244 := RgF.at hI0.2.1 (p := 116) (b := 4) rfl
        rw [hv2244] at rv2244
        dsimp only at rv2244
        have tv2244 := congrArg Int32.toInt hv2244
        obtain ⟨v2246, hv2246⟩ : ∃ v, gI g0 116 6 = v := ⟨_, rfl⟩
        have rv2246 := RgF.at hI0.2.1 (p := 116) (b := 6) rfl
        rw [hv2246] at rv2246
        dsimp only at rv2246
        have tv2246 := congrArg Int32.toInt hv2246
        obtain ⟨v2248, hv2248⟩ : ∃ v, gI g0 116 9 = v := ⟨_, rfl⟩
        have tv2248 := congrArg Int32.toInt hv2248
        obtain ⟨v2250, hv2250⟩ : ∃ v, eA g0 173 0 = v := ⟨_, rfl⟩
        have tv2250 := congrArg Int32.toInt hv2250
        have x2251 := HI.eqA hI0 (p := 173) (j := 0) (hv2250)
        obtain ⟨v2252, hv2252⟩ : ∃ v, eA g0 173 1 = v := ⟨_, rfl⟩
        have tv2252 := congrArg Int32.toInt hv2252
        have x2253 := HI.eqA hI0 (p := 173) (j := 1) (hv2252)
        have y2254 : (eA g0 173 1).toInt = v1871.toInt := by rw [← hv1871, show a1.toInt = 1 by omega]
        have y2255 : a1.toInt = 1 → (eA g0 173 1).toInt = v1871.toInt := fun e => by rw [← hv1871, e]
        have e : a1.toInt = 1 := by omega
        have z2256 := HI.eqI hI2202 (p := 1) (b := 0) (((hF2203.1 1 0 mf_X10_refused_0_1_0).trans hv2208))
        have z2257 := HI.eqI hI2202 (p := 1) (b := 12) (((hF2203.1 1 12 mf_X10_refused_0_1_12).trans hv2210))
        have z2258 := HI.eqI hI2202 (p := 1) (b := 10) (((hF2203.1 1 10 mf_X10_refused_0_1_10).trans hv2212))
        have z2259 := HI.eqI hI2202 (p := 1) (b := 11) (((hF2203.1 1 11 mf_X10_refused_0_1_11).trans hv2214))
        have z2260 := HI.eqI hI2202 (p := 1) (b := 4) (((hF2203.1 1 4 mf_X10_refused_0_1_4).trans hv2216))
        have z2261 := HI.eqI hI2202 (p := 1) (b := 6) (((hF2203.1 1 6 mf_X10_refused_0_1_6).trans hv2218))
        have z2262 := HI.eqI hI2202 (p := 1) (b := 9) (((hF2203.1 1 9 mf_X10_refused_0_1_9).trans hv2220))
        have x2263 := HI.eqA hI0 (p := 173) (j := 0) (hv2250)
        have x2264 := HI.eqA hI0 (p := 173) (j := 1) (hv2252)
        have y2265 : (eA g0 173 1).toInt = v1871.toInt := by rw [← hv1871, show a1.toInt = 1 by omega]
        have kn132_ : ¬ (a1.toInt = 0 ∧ (eA g0 173 0).toInt ≠ 0) := by omega
        have kn133_ : ¬ (a1.toInt = 1 ∧ (eA g0 173 1).toInt ≠ 0) := by omega
        obtain ⟨v2266, hv2266⟩ : ∃ v, gI g2201 0 17 = v := ⟨_, rfl⟩
        have tv2266 := congrArg Int32.toInt hv2266
        exact ⟨_, rfl, hI2202, hF2206, _, rfl, by omega, ⟨⟨⟨by omega, by omega, by omega, by omega, by omega⟩, (by intro i i0 i1; refine Eq.trans ?_ (if_neg kn132_).symm; refine Eq.trans ?_ (if_neg kn133_).symm; refine (eA_ti ((hF2203.2.1 2 ma_X10_refused_0_2))).trans ?_; (first | with_reducible rfl | omega | exact eA_ix (by omega) | rfl)), (by intro i i0 i1; refine Eq.trans ?_ (if_neg kn132_).symm; refine Eq.trans ?_ (if_neg kn133_).symm; refine (eA_ti ((hF2203.2.1 3 ma_X10_refused_0_3))).trans ?_; (first | with_reducible rfl | omega | exact eA_ix (by omega) | rfl)), (by intro i i0 i1; refine Eq.trans ?_ (if_neg kn132_).symm; refine Eq.trans ?_ (if_neg kn133_).symm; refine (eA_ti ((hF2203.2.1 4 ma_X10_refused_0_4))).trans ?_; (first | with_reducible rfl | omega | exact eA_ix (by omega) | rfl)), (by intro i i0 i1; refine Eq.trans ?_ (if_neg kn132_).symm; refine Eq.trans ?_ (if_neg kn133_).symm; refine (eA_ti ((hF2203.2.1 14 ma_X10_refused_0_14))).trans ?_; (first | with_reducible rfl | omega | exact eA_ix (by omega) | rfl)), (by intro i i0 i1; refine Eq.trans ?_ (if_neg kn132_).symm; refine Eq.trans ?_ (if_neg kn133_).symm; refine (eA_ti ((hF2203.2.1 15 ma_X10_refused_0_15))).trans ?_; (first | with_reducible rfl | omega | exact eA_ix (by omega) | rfl)), (by intro i i0 i1; refine Eq.trans ?_ (if_neg kn132_).symm; refine Eq.trans ?_ (if_neg kn133_).symm; refine (eA_ti ((hF2203.2.1 5 ma_X10_refused_0_5))).trans ?_; (first | with_reducible rfl | omega | exact eA_ix (by omega) | rfl))⟩, (SU.mk (by omega))⟩⟩
