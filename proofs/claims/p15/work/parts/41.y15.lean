def F_X10_back_0 : List (Nat × Nat) := [(0, 14), (0, 17), (1, 0), (1, 4), (1, 6), (1, 9), (1, 10), (1, 11), (1, 12), (7, 0), (7, 3), (7, 4), (16, 0), (16, 3), (16, 4), (23, 0), (23, 3), (23, 4), (30, 0), (30, 3), (30, 4), (37, 0), (37, 3), (37, 4), (44, 0), (44, 3), (44, 4), (51, 0), (51, 3), (51, 4), (65, 0), (65, 3), (65, 4), (74, 0), (74, 3), (74, 4), (81, 0), (81, 3), (81, 4), (88, 0), (88, 3), (88, 4), (95, 0), (95, 3), (95, 4), (102, 0), (102, 3), (102, 4), (109, 0), (109, 3), (109, 4), (122, 0), (122, 3), (122, 4), (131, 0), (131, 3), (131, 4), (138, 0), (138, 3), (138, 4), (145, 0), (145, 3), (145, 4), (152, 0), (152, 3), (152, 4), (159, 0), (159, 3), (159, 4), (166, 0), (166, 3), (166, 4), (177, 0), (177, 3), (177, 4), (220, 2), (222, 2), (223, 5), (223, 10)]
def A_X10_back_0 : List Nat := [2, 3, 4, 5, 8, 9, 10, 11, 12, 13, 14, 15, 17, 18, 19, 20, 21, 22, 24, 25, 26, 27, 28, 29, 31, 32, 33, 34, 35, 36, 38, 39, 40, 41, 42, 43, 45, 46, 47, 48, 49, 50, 52, 53, 54, 55, 56, 57, 66, 67, 68, 69, 70, 71, 75, 76, 77, 78, 79, 80, 82, 83, 84, 85, 86, 87, 89, 90, 91, 92, 93, 94, 96, 97, 98, 99, 100, 101, 103, 104, 105, 106, 107, 108, 110, 111, 112, 113, 114, 115, 123, 124, 125, 126, 127, 128, 132, 133, 134, 135, 136, 137, 139, 140, 141, 142, 143, 144, 146, 147, 148, 149, 150, 151, 153, 154, 155, 156, 157, 158, 160, 161, 162, 163, 164, 165, 167, 168, 169, 170, 171, 172, 178, 179, 180, 181, 182, 183, 230]
theorem mf_X10_refused_0_1_6 : memF F_X10_refused_0 1 6 = false := by decide
theorem mf_X10_changed_0_1_12 : memF F_X10_changed_0 1 12 = false := by decide
theorem mf_X10_changed_0_1_6 : memF F_X10_changed_0 1 6 = false := by decide
theorem mf_X4_become_law_1_0 : memF F_X4_become_law 1 0 = false := by decide
theorem mf_X0_lawAt_59_1_0 : memF F_X0_lawAt_59 1 0 = false := by decide
theorem mf_X0_lawAt_1_1_0 : memF F_X0_lawAt_1 1 0 = false := by decide
theorem mf_X4_become_law_1_6 : memF F_X4_become_law 1 6 = false := by decide
theorem mf_X0_lawAt_59_1_6 : memF F_X0_lawAt_59 1 6 = false := by decide
theorem mf_X0_lawAt_1_1_6 : memF F_X0_lawAt_1 1 6 = false := by decide
theorem mf_X0_lawAt_116_1_0 : memF F_X0_lawAt_116 1 0 = false := by decide
theorem mf_X0_lawAt_116_1_6 : memF F_X0_lawAt_116 1 6 = false := by decide
set_option maxRecDepth 100000 in
set_option maxHeartbeats 4000000 in
theorem T_X10_back_0 (d : Nat) {N : Nat} {g0 : List en_E} (hI0 : HI g0) (a1 : Int32) : Ev (d + 3) 141 [.ref 0, .int a1] (g0, N) (fun w h' => ∃ g', h' = (g', N) ∧ HI g' ∧ Fr F_X10_back_0 A_X10_back_0 g0 g' ∧ ∃ r : Int32, w = some (.int r) ∧ ((-2) ≤ r.toInt ∧ r.toInt ≤ 0) ∧ ((a1.toInt = 0 ∧ (eA g0 173 0).toInt ≠ 0 → r.toInt = 0 ∧ (gI g' 1 0).toInt = (gI g0 59 0).toInt ∧ (gI g' 1 12).toInt = (gI g0 59 12).toInt ∧ (gI g' 1 10).toInt = (gI g0 59 10).toInt ∧ (gI g' 1 11).toInt = (gI g0 59 11).toInt ∧ (gI g' 1 6).toInt = (gI g0 59 6).toInt ∧ (gI g' 1 9).toInt = (gI g0 59 9).toInt) ∧ (a1.toInt = 1 ∧ (eA g0 173 1).toInt ≠ 0 → r.toInt = 0 ∧ (gI g' 1 0).toInt = (gI g0 116 0).toInt ∧ (gI g' 1 12).toInt = (gI g0 116 12).toInt ∧ (gI g' 1 10).toInt = (gI g0 116 10).toInt ∧ (gI g' 1 11).toInt = (gI g0 116 11).toInt ∧ (gI g' 1 6).toInt = (gI g0 116 6).toInt ∧ (gI g' 1 9).toInt = (gI g0 116 9).toInt) ∧ (¬ (a1.toInt = 0 ∧ (eA g0 173 0).toInt ≠ 0) ∧ ¬ (a1.toInt = 1 ∧ (eA g0 173 1).toInt ≠ 0) → (gI g' 1 0).toInt = (gI g0 1 0).toInt ∧ (gI g' 1 12).toInt = (gI g0 1 12).toInt ∧ (gI g' 1 10).toInt = (gI g0 1 10).toInt ∧ (gI g' 1 11).toInt = (gI g0 1 11).toInt ∧ (gI g' 1 6).toInt = (gI g0 1 6).toInt ∧ (gI g' 1 9).toInt = (gI g0 1 9).toInt) ∧ (a1.toInt < 0 ∨ 1 < a1.toInt → r.toInt = -1) ∧ (0 ≤ a1.toInt ∧ a1.toInt ≤ 1 ∧ ¬ (a1.toInt = 0 ∧ (eA g0 173 0).toInt ≠ 0) ∧ ¬ (a1.toInt = 1 ∧ (eA g0 173 1).toInt ≠ 0) → r.toInt = -2))) := by
  have hF0 : Fr F_X10_back_0 A_X10_back_0 g0 g0 := Fr.rf
  refine Ev.mk rfl rfl ⟨Nat.le_of_ble_eq_true rfl, Or.inr (q_rc hI0.1 kx_0 rfl)⟩ ?_
  show At _ none _ _ (0, [(0, .ref 0), (1, .int a1)], [], (_, _)) _
  refine At.enter rfl ?_
  refine r_aload_n rfl ?_
  refine r_iload_n rfl ?_
  refine q_inlV 5 rfl [.ref 0, .int a1] [] (Nat.le_of_ble_eq_true rfl) rfl ?_
  refine Ev.mk rfl rfl ⟨Nat.le_of_ble_eq_true rfl, Or.inr (q_rc hI0.1 kx_0 rfl)⟩ ?_
  show At _ none _ _ (0, [(0, .ref 0), (1, .int a1)], [], (_, _)) _
  refine At.enter rfl ?_
  refine r_iload_n rfl ?_
  refine r_iconst 0 rfl ?_
  refine r_iconst 1 rfl ?_
  refine q_inlS 6 rfl [.int a1, .int 0, .int 1] [] (Nat.le_of_ble_eq_true rfl) rfl ?_
  refine Ev.mk rfl rfl ⟨Nat.le_of_ble_eq_true rfl, Or.inl rfl⟩ ?_
  show At _ none _ _ (0, [(0, .int a1), (1, .int 0), (2, .int 1)], [], (_, _)) _
  refine At.enter rfl ?_
  refine r_iload_n rfl ?_
  refine r_iload_n rfl ?_
  refine r_ics 5 rfl (fun c1311 => ?_) (fun c1311 => ?_)
  · have c1311_ : a1.toInt < 0 := en_i_lt_t c1311
    refine At.enter rfl ?_
    refine r_iconst 0 rfl ?_
    refine Ar.fall 15 rfl ?_
    refine At.enter rfl ?_
    refine q_iretz (by decide) ?_
    refine At.enter rfl ?_
    refine r_ift (by decide) ?_
    refine At.enter rfl ?_
    refine r_null ?_
    refine Ar.fall 19 rfl ?_
    refine At.enter rfl ?_
    refine q_zret ?_
    refine At.enter rfl ?_
    refine r_zstore_n ([(2, .null), (0, .ref 0), (1, .int a1)]) rfl ?_
    refine r_zload_n rfl ?_
    refine r_nnz 10 rfl ?_
    refine At.enter rfl ?_
    refine r_aload_n rfl ?_
    refine r_iconst (-1) rfl ?_
    refine r_callV 15 rfl [.ref 0, .int (-1)] [] (Nat.le_of_ble_eq_true rfl) rfl (T_X10_refused_0 _ hI0 (-1) (by decide)) ?_
    rintro _ _ ⟨g1312, rfl, hI1313, hF1314, v1315, rfl, hr1316⟩
    refine At.sti ?_
    have hF1317 := Fr.tr hF0 hF1314 rfl rfl
    have zv1318 : ((-1) : Int32).toInt = (-1) := rfl
    refine At.enter rfl ?_
    refine r_ireti ?_
    obtain ⟨v1319, hv1319⟩ : ∃ v, gI g0 1 0 = v := ⟨_, rfl⟩
    have rv1319 := RgF.at hI0.2.1 (p := 1) (b := 0) rfl
    rw [hv1319] at rv1319
    dsimp only at rv1319
    have tv1319 := congrArg Int32.toInt hv1319
    obtain ⟨v1321, hv1321⟩ : ∃ v, gI g0 1 12 = v := ⟨_, rfl⟩
    have rv1321 := RgF.at hI0.2.1 (p := 1) (b := 12) rfl
    rw [hv1321] at rv1321
    dsimp only at rv1321
    have tv1321 := congrArg Int32.toInt hv1321
    obtain ⟨v1323, hv1323⟩ : ∃ v, gI g0 1 10 = v := ⟨_, rfl⟩
    have tv1323 := congrArg Int32.toInt hv1323
    obtain ⟨v1325, hv1325⟩ : ∃ v, gI g0 1 11 = v := ⟨_, rfl⟩
    have tv1325 := congrArg Int32.toInt hv1325
    obtain ⟨v1327, hv1327⟩ : ∃ v, gI g0 1 6 = v := ⟨_, rfl⟩
    have rv1327 := RgF.at hI0.2.1 (p := 1) (b := 6) rfl
    rw [hv1327] at rv1327
    dsimp only at rv1327
    have tv1327 := congrArg Int32.toInt hv1327
    obtain ⟨v1329, hv1329⟩ : ∃ v, gI g0 1 9 = v := ⟨_, rfl⟩
    have tv1329 := congrArg Int32.toInt hv1329
    obtain ⟨v1331, hv1331⟩ : ∃ v, gI g0 59 0 = v := ⟨_, rfl⟩
    have rv1331 := RgF.at hI0.2.1 (p := 59) (b := 0) rfl
    rw [hv1331] at rv1331
    dsimp only at rv1331
    have tv1331 := congrArg Int32.toInt hv1331
    obtain ⟨v1333, hv1333⟩ : ∃ v, gI g0 59 12 = v := ⟨_, rfl⟩
    have rv1333 := RgF.at hI0.2.1 (p := 59) (b := 12) rfl
    rw [hv1333] at rv1333
    dsimp only at rv1333
    have tv1333 := congrArg Int32.toInt hv1333
    obtain ⟨v1335, hv1335⟩ : ∃ v, gI g0 59 10 = v := ⟨_, rfl⟩
    have tv1335 := congrArg Int32.toInt hv1335
    obtain ⟨v1337, hv1337⟩ : ∃ v, gI g0 59 11 = v := ⟨_, rfl⟩
    have tv1337 := congrArg Int32.toInt hv1337
    obtain ⟨v1339, hv1339⟩ : ∃ v, gI g0 59 6 = v := ⟨_, rfl⟩
    have rv1339 := RgF.at hI0.2.1 (p := 59) (b := 6) rfl
    rw [hv1339] at rv1339
    dsimp only at rv1339
    have tv1339 := congrArg Int32.toInt hv1339
    obtain ⟨v1341, hv1341⟩ : ∃ v, gI g0 59 9 = v := ⟨_, rfl⟩
    have tv1341 := congrArg Int32.toInt hv1341
    obtain ⟨v1343, hv1343⟩ : ∃ v, gI g0 116 0 = v := ⟨_, rfl⟩
    have rv1343 := RgF.at hI0.2.1 (p := 116) (b := 0) rfl
    rw [hv1343] at rv1343
    dsimp only at rv1343
    have tv1343 := congrArg Int32.toInt hv1343
    obtain ⟨v1345, hv1345⟩ : ∃ v, gI g0 116 12 = v := ⟨_, rfl⟩
    have rv1345 := RgF.at hI0.2.1 (p := 116) (b := 12) rfl
    rw [hv1345] at rv1345
    dsimp only at rv1345
    have tv1345 := congrArg Int32.toInt hv1345
    obtain ⟨v1347, hv1347⟩ : ∃ v, gI g0 116 10 = v := ⟨_, rfl⟩
    have tv1347 := congrArg Int32.toInt hv1347
    obtain ⟨v1349, hv1349⟩ : ∃ v, gI g0 116 11 = v := ⟨_, rfl⟩
    have tv1349 := congrArg Int32.toInt hv1349
    obtain ⟨v1351, hv1351⟩ : ∃ v, gI g0 116 6 = v := ⟨_, rfl⟩
    have rv1351 := RgF.at hI0.2.1 (p := 116) (b := 6) rfl
    rw [hv1351] at rv1351
    dsimp only at rv1351
    have tv1351 := congrArg Int32.toInt hv1351
    obtain ⟨v1353, hv1353⟩ : ∃ v, gI g0 116 9 = v := ⟨_, rfl⟩
    have tv1353 := congrArg Int32.toInt hv1353
    obtain ⟨v1355, hv1355⟩ : ∃ v, eA g0 173 0 = v := ⟨_, rfl⟩
    have tv1355 := congrArg Int32.toInt hv1355
    have x1356 := HI.eqA hI0 (p := 173) (j := 0) (hv1355)
    obtain ⟨v1357, hv1357⟩ : ∃ v, eA g0 173 1 = v := ⟨_, rfl⟩
    have tv1357 := congrArg Int32.toInt hv1357
    have x1358 := HI.eqA hI0 (p := 173) (j := 1) (hv1357)
    have x1359 := HI.eqI hI1313 (p := 1) (b := 0) (((hF1314.1 1 0 mf_X10_refused_0_1_0).trans hv1319))
    have x1360 := HI.eqI hI1313 (p := 1) (b := 12) (((hF1314.1 1 12 mf_X10_refused_0_1_12).trans hv1321))
    have x1361 := HI.eqI hI1313 (p := 1) (b := 10) (((hF1314.1 1 10 mf_X10_refused_0_1_10).trans hv1323))
    have x1362 := HI.eqI hI1313 (p := 1) (b := 11) (((hF1314.1 1 11 mf_X10_refused_0_1_11).trans hv1325))
    have x1363 := HI.eqI hI1313 (p := 1) (b := 6) (((hF1314.1 1 6 mf_X10_refused_0_1_6).trans hv1327))
    have x1364 := HI.eqI hI1313 (p := 1) (b := 9) (((hF1314.1 1 9 mf_X10_refused_0_1_9).trans hv1329))
    exact ⟨_, rfl, hI1313, hF1317, _, rfl, by omega, ⟨by omega, by omega, by omega, by omega, by omega⟩⟩
  · have c1311_ : a1.toInt ≥ 0 := en_i_lt_f c1311
    refine At.enter rfl ?_
    refine r_iload_n rfl ?_
    refine r_iload_n rfl ?_
    refine r_ics 10 rfl (fun c1365 => ?_) (fun c1365 => ?_)
    · have c1365_ : a1.toInt > 1 := en_i_gt_t c1365
      refine At.enter rfl ?_
      refine r_iconst 0 rfl ?_
      refine Ar.fall 15 rfl ?_
      refine At.enter rfl ?_
      refine q_iretz (by decide) ?_
      refine At.enter rfl ?_
      refine r_ift (by decide) ?_
      refine At.enter rfl ?_
      refine r_null ?_
      refine Ar.fall 19 rfl ?_
      refine At.enter rfl ?_
      refine q_zret ?_
      refine At.enter rfl ?_
      refine r_zstore_n ([(2, .null), (0, .ref 0), (1, .int a1)]) rfl ?_
      refine r_zload_n rfl ?_
      refine r_nnz 10 rfl ?_
      refine At.enter rfl ?_
      refine r_aload_n rfl ?_
      refine r_iconst (-1) rfl ?_
      refine r_callV 15 rfl [.ref 0, .int (-1)] [] (Nat.le_of_ble_eq_true rfl) rfl (T_X10_refused_0 _ hI0 (-1) (by decide)) ?_
      rintro _ _ ⟨g1366, rfl, hI1367, hF1368, v1369, rfl, hr1370⟩
      refine At.sti ?_
      have hF1371 := Fr.tr hF0 hF1368 rfl rfl
      have zv1372 : ((-1) : Int32).toInt = (-1) := rfl
      refine At.enter rfl ?_
      refine r_ireti ?_
      obtain ⟨v1373, hv1373⟩ : ∃ v, gI g0 1 0 = v := ⟨_, rfl⟩
      have rv1373 := RgF.at hI0.2.1 (p := 1) (b := 0) rfl
      rw [hv1373] at rv1373
      dsimp only at rv1373
      have tv1373 := congrArg Int32.toInt hv1373
      obtain ⟨v1375, hv1375⟩ : ∃ v, gI g0 1 12 = v := ⟨_, rfl⟩
      have rv1375 := RgF.at hI0.2.1 (p := 1) (b := 12) rfl
      rw [hv1375] at rv1375
      dsimp only at rv1375
      have tv1375 := congrArg Int32.toInt hv1375
      obtain ⟨v1377, hv1377⟩ : ∃ v, gI g0 1 10 = v := ⟨_, rfl⟩
      have tv1377 := congrArg Int32.toInt hv1377
      obtain ⟨v1379, hv1379⟩ : ∃ v, gI g0 1 11 = v := ⟨_, rfl⟩
      have tv1379 := congrArg Int32.toInt hv1379
      obtain ⟨v1381, hv1381⟩ : ∃ v, gI g0 1 6 = v := ⟨_, rfl⟩
      have rv1381 := RgF.at hI0.2.1 (p := 1) (b := 6) rfl
      rw [hv1381] at rv1381
      dsimp only at rv1381
      have tv1381 := congrArg Int32.toInt hv1381
      obtain ⟨v1383, hv1383⟩ : ∃ v, gI g0 1 9 = v := ⟨_, rfl⟩
      have tv1383 := congrArg Int32.toInt hv1383
      obtain ⟨v1385, hv1385⟩ : ∃ v, gI g0 59 0 = v := ⟨_, rfl⟩
      have rv1385 := RgF.at hI0.2.1 (p := 59) (b := 0) rfl
      rw [hv1385] at rv1385
      dsimp only at rv1385
      have tv1385 := congrArg Int32.toInt hv1385
      obtain ⟨v1387, hv1387⟩ : ∃ v, gI g0 59 12 = v := ⟨_, rfl⟩
      have rv1387 := RgF.at hI0.2.1 (p := 59) (b := 12) rfl
      rw [hv1387] at rv1387
      dsimp only at rv1387
      have tv1387 := congrArg Int32.toInt hv1387
      obtain ⟨v1389, hv1389⟩ : ∃ v, gI g0 59 10 = v := ⟨_, rfl⟩
      have tv1389 := congrArg Int32.toInt hv1389
      obtain ⟨v1391, hv1391⟩ : ∃ v, gI g0 59 11 = v := ⟨_, rfl⟩
      have tv1391 := congrArg Int32.toInt hv1391
      obtain ⟨v1393, hv1393⟩ : ∃ v, gI g0 59 6 = v := ⟨_, rfl⟩
      have rv1393 := RgF.at hI0.2.1 (p := 59) (b := 6) rfl
      rw [hv1393] at rv1393
      dsimp only at rv1393
      have tv1393 := congrArg Int32.toInt hv1393
      obtain ⟨v1395, hv1395⟩ : ∃ v, gI g0 59 9 = v := ⟨_, rfl⟩
      have tv1395 := congrArg Int32.toInt hv1395
      obtain ⟨v1397, hv1397⟩ : ∃ v, gI g0 116 0 = v := ⟨_, rfl⟩
      have rv1397 := RgF.at hI0.2.1 (p := 116) (b := 0) rfl
      rw [hv1397] at rv1397
      dsimp only at rv1397
      have tv1397 := congrArg Int32.toInt hv1397
      obtain ⟨v1399, hv1399⟩ : ∃ v, gI g0 116 12 = v := ⟨_, rfl⟩
      have rv1399 := RgF.at hI0.2.1 (p := 116) (b := 12) rfl
      rw [hv1399] at rv1399
      dsimp only at rv1399
      have tv1399 := congrArg Int32.toInt hv1399
      obtain ⟨v1401, hv1401⟩ : ∃ v, gI g0 116 10 = v := ⟨_, rfl⟩
      have tv1401 := congrArg Int32.toInt hv1401
      obtain ⟨v1403, hv1403⟩ : ∃ v, gI g0 116 11 = v := ⟨_, rfl⟩
      have tv1403 := congrArg Int32.toInt hv1403
      obtain ⟨v1405, hv1405⟩ : ∃ v, gI g0 116 6 = v := ⟨_, rfl⟩
      have rv1405 := RgF.at hI0.2.1 (p := 116) (b := 6) rfl
      rw [hv1405] at rv1405
      dsimp only at rv1405
      have tv1405 := congrArg Int32.toInt hv1405
      obtain ⟨v1407, hv1407⟩ : ∃ v, gI g0 116 9 = v := ⟨_, rfl⟩
      have tv1407 := congrArg Int32.toInt hv1407
      obtain ⟨v1409, hv1409⟩ : ∃ v, eA g0 173 0 = v := ⟨_, rfl⟩
      have tv1409 := congrArg Int32.toInt hv1409
      have x1410 := HI.eqA hI0 (p := 173) (j := 0) (hv1409)
      obtain ⟨v1411, hv1411⟩ : ∃ v, eA g0 173 1 = v := ⟨_, rfl⟩
      have tv1411 := congrArg Int32.toInt hv1411
      have x1412 := HI.eqA hI0 (p := 173) (j := 1) (hv1411)
      have x1413 := HI.eqI hI1367 (p := 1) (b := 0) (((hF1368.1 1 0 mf_X10_refused_0_1_0).trans hv1373))
      have x1414 := HI.eqI hI1367 (p := 1) (b := 12) (((hF1368.1 1 12 mf_X10_refused_0_1_12).trans hv1375))
      have x1415 := HI.eqI hI1367 (p := 1) (b := 10) (((hF1368.1 1 10 mf_X10_refused_0_1_10).trans hv1377))
      have x1416 := HI.eqI hI1367 (p := 1) (b := 11) (((hF1368.1 1 11 mf_X10_refused_0_1_11).trans hv1379))
      have x1417 := HI.eqI hI1367 (p := 1) (b := 6) (((hF1368.1 1 6 mf_X10_refused_0_1_6).trans hv1381))
      have x1418 := HI.eqI hI1367 (p := 1) (b := 9) (((hF1368.1 1 9 mf_X10_refused_0_1_9).trans hv1383))
      exact ⟨_, rfl, hI1367, hF1371, _, rfl, by omega, ⟨by omega, by omega, by omega, by omega, by omega⟩⟩
    · have c1365_ : a1.toInt ≤ 1 := en_i_gt_f c1365
      refine At.enter rfl ?_
      refine r_iconst 1 rfl ?_
      refine r_goto ?_
      refine At.enter rfl ?_
      refine q_iretz (by decide) ?_
      refine At.enter rfl ?_
      refine r_iff 9 rfl (by decide) ?_
      refine At.enter rfl ?_
      refine r_aload_n rfl ?_
      refine q_getR (Sh.ref hI0.1 kx_0 rfl) ?_
      refine r_iload_n rfl ?_
      by_cases c1419_0 : a1.toInt = 0
      · refine q_aald (Sh.rar hI0.1 ka_58) (by decide) 0 (by omega) (by decide) (some 59) rfl ?_
        refine r_goto ?_
        refine At.enter rfl ?_
        refine q_aret ?_
        refine At.enter rfl ?_
        refine r_astore_n ([(2, .ref 59), (0, .ref 0), (1, .int a1)]) rfl ?_
        refine r_aload_n rfl ?_
        refine r_nnr ?_
        refine At.enter rfl ?_
        refine r_aload_n rfl ?_
        refine q_getR (Sh.ref hI0.1 kx_0 rfl) ?_
        refine r_iload_n rfl ?_
        obtain ⟨v1420, hv1420⟩ : ∃ v, eA g0 173 a1.toInt = v := ⟨_, rfl⟩
        refine q_bald (Sh.arr hI0.1 ka_173) a1.toInt rfl (by omega) v1420 hv1420 ?_
        refine r_ifs 25 rfl (fun c1421 => ?_) (fun c1421 => ?_)
        · have c1421_ : v1420.toInt ≠ 0 := en_k_ne_t c1421
          refine At.enter rfl ?_
          refine r_aload_n rfl ?_
          refine q_getR (Sh.ref hI0.1 kx_0 rfl) ?_
          refine r_aload_n rfl ?_
          refine q_inlV 40 rfl [.ref 1, .ref 59] [] (Nat.le_of_ble_eq_true rfl) rfl ?_
          refine Ev.mk rfl rfl ⟨Nat.le_of_ble_eq_true rfl, Or.inr (q_rc hI0.1 kx_1 rfl)⟩ ?_
          show At _ none _ _ (0, [(0, .ref 1), (1, .ref 59)], [], (_, _)) _
          refine At.enter rfl ?_
          refine r_aload_n rfl ?_
          refine r_aload_n rfl ?_
          obtain ⟨v1422, hv1422⟩ : ∃ v, gI g0 59 0 = v := ⟨_, rfl⟩
          have rv1422 := RgF.at hI0.2.1 (p := 59) (b := 0) rfl
          rw [hv1422] at rv1422
          dsimp only at rv1422
          refine q_getI (Sh.int hI0.1 kx_59 rfl) v1422 hv1422 ?_
          refine q_putI (Sh.int hI0.1 kx_1 rfl) rfl ?_
          have hI1423 := HI.wI1 hI0 kx_1 rfl (p := 1) (b := 0) (v := v1422) rfl (by dsimp only; omega)
          have hF1424 := Fr.wI (p := 1) (b := 0) (v := v1422) hF0 rfl
          refine r_aload_n rfl ?_
          refine q_getR (Sh.ref hI1423.1 kx_59 rfl) ?_
          refine r_iconst 0 rfl ?_
          refine r_aload_n rfl ?_
          refine q_getR (Sh.ref hI1423.1 kx_1 rfl) ?_
          refine r_iconst 0 rfl ?_
          refine r_bipush 12 rfl ?_
          have zv1425 : (0 : Int32).toInt = 0 := rfl
          have zv1426 : (0 : Int32).toInt = 0 := rfl
          have zv1427 : (12 : Int32).toInt = 12 := rfl
          refine q_cpy rfl (Nat.le_of_ble_eq_true rfl) (Sh.arr hI1423.1 ka_60) (Sh.arr hI1423.1 ka_2) ⟨by omega, by omega, by omega, by omega, by omega⟩ ?_
          have hI1428 := HI.cpy0 hI1423 ka_60 ka_2 rfl rfl ((0 : Int32).toInt.toNat) ((0 : Int32).toInt.toNat) ((12 : Int32).toInt.toNat) (by omega) (by omega)
          have hF1429 := Fr.cpy (p0 := 60) (p1 := 2) hF1424 rfl ((0 : Int32).toInt.toNat) ((0 : Int32).toInt.toNat) ((12 : Int32).toInt.toNat)
          refine r_aload_n rfl ?_
          refine q_getR (Sh.ref hI1428.1 kx_59 rfl) ?_
          refine r_iconst 0 rfl ?_
          refine r_aload_n rfl ?_
          refine q_getR (Sh.ref hI1428.1 kx_1 rfl) ?_
          refine r_iconst 0 rfl ?_
          refine r_bipush 12 rfl ?_
          have zv1430 : (0 : Int32).toInt = 0 := rfl
          have zv1431 : (0 : Int32).toInt = 0 := rfl
          have zv1432 : (12 : Int32).toInt = 12 := rfl
          refine q_cpy rfl (Nat.le_of_ble_eq_true rfl) (Sh.arr hI1428.1 ka_61) (Sh.arr hI1428.1 ka_3) ⟨by omega, by omega, by omega, by omega, by omega⟩ ?_
          have hI1433 := HI.cpy0 hI1428 ka_61 ka_3 rfl rfl ((0 : Int32).toInt.toNat) ((0 : Int32).toInt.toNat) ((12 : Int32).toInt.toNat) (by omega) (by omega)
          have hF1434 := Fr.cpy (p0 := 61) (p1 := 3) hF1429 rfl ((0 : Int32).toInt.toNat) ((0 : Int32).toInt.toNat) ((12 : Int32).toInt.toNat)
          refine r_aload_n rfl ?_
          refine q_getR (Sh.ref hI1433.1 kx_59 rfl) ?_
          refine r_iconst 0 rfl ?_
          refine r_aload_n rfl ?_
          refine q_getR (Sh.ref hI1433.1 kx_1 rfl) ?_
          refine r_iconst 0 rfl ?_
          refine r_bipush 12 rfl ?_
          have zv1435 : (0 : Int32).toInt = 0 := rfl
          have zv1436 : (0 : Int32).toInt = 0 := rfl
          have zv1437 : (12 : Int32).toInt = 12 := rfl
          refine q_cpy rfl (Nat.le_of_ble_eq_true rfl) (Sh.arr hI1433.1 ka_62) (Sh.arr hI1433.1 ka_4) ⟨by omega, by omega, by omega, by omega, by omega⟩ ?_
          have hI1438 := HI.cpy0 hI1433 ka_62 ka_4 rfl rfl ((0 : Int32).toInt.toNat) ((0 : Int32).toInt.toNat) ((12 : Int32).toInt.toNat) (by omega) (by omega)
          have hF1439 := Fr.cpy (p0 := 62) (p1 := 4) hF1434 rfl ((0 : Int32).toInt.toNat) ((0 : Int32).toInt.toNat) ((12 : Int32).toInt.toNat)
          refine r_aload_n rfl ?_
          refine r_aload_n rfl ?_
          obtain ⟨v1440, hv1440⟩ : ∃ v, gI g0 59 4 = v := ⟨_, rfl⟩
          have rv1440 := RgF.at hI0.2.1 (p := 59) (b := 4) rfl
          rw [hv1440] at rv1440
          dsimp only at rv1440
          refine q_getI (Sh.int hI1438.1 kx_59 rfl) v1440 (((gI_sW).trans ((gI_sW).trans ((gI_sW).trans (gI_sI_ne (by decide))))).trans hv1440) ?_
          refine q_putI (Sh.int hI1438.1 kx_1 rfl) rfl ?_
          have hI1441 := HI.wI1 hI1438 kx_1 rfl (p := 1) (b := 4) (v := v1440) rfl (by dsimp only; omega)
          have hF1442 := Fr.wI (p := 1) (b := 4) (v := v1440) hF1439 rfl
          refine r_aload_n rfl ?_
          refine q_getR (Sh.ref hI1441.1 kx_59 rfl) ?_
          refine r_iconst 0 rfl ?_
          refine r_aload_n rfl ?_
          refine q_getR (Sh.ref hI1441.1 kx_1 rfl) ?_
          refine r_iconst 0 rfl ?_
          refine r_bipush 48 rfl ?_
          have zv1443 : (0 : Int32).toInt = 0 := rfl
          have zv1444 : (0 : Int32).toInt = 0 := rfl
          have zv1445 : (48 : Int32).toInt = 48 := rfl
          refine q_cpy rfl (Nat.le_of_ble_eq_true rfl) (Sh.arr hI1441.1 ka_63) (Sh.arr hI1441.1 ka_5) ⟨by omega, by omega, by omega, by omega, by omega⟩ ?_
          have hI1446 := HI.cpy0 hI1441 ka_63 ka_5 rfl rfl ((0 : Int32).toInt.toNat) ((0 : Int32).toInt.toNat) ((48 : Int32).toInt.toNat) (by omega) (by omega)
          have hF1447 := Fr.cpy (p0 := 63) (p1 := 5) hF1442 rfl ((0 : Int32).toInt.toNat) ((0 : Int32).toInt.toNat) ((48 : Int32).toInt.toNat)
          refine r_aload_n rfl ?_
          refine r_aload_n rfl ?_
          obtain ⟨v1448, hv1448⟩ : ∃ v, gI g0 59 6 = v := ⟨_, rfl⟩
          have rv1448 := RgF.at hI0.2.1 (p := 59) (b := 6) rfl
          rw [hv1448] at rv1448
          dsimp only at rv1448
          refine q_getI (Sh.int hI1446.1 kx_59 rfl) v1448 (((gI_sW).trans ((gI_sI_ne (by decide)).trans ((gI_sW).trans ((gI_sW).trans ((gI_sW).trans (gI_sI_ne (by decide))))))).trans hv1448) ?_
          refine q_putI (Sh.int hI1446.1 kx_1 rfl) rfl ?_
          have hI1449 := HI.wI1 hI1446 kx_1 rfl (p := 1) (b := 6) (v := v1448) rfl (by dsimp only; omega)
          have hF1450 := Fr.wI (p := 1) (b := 6) (v := v1448) hF1447 rfl
          refine r_iconst 0 rfl ?_
          refine r_istore_n ([(2, .int 0), (0, .ref 1), (1, .ref 59)]) rfl ?_
          refine Ar.fall 86 rfl ?_
          have z_1678 : (0 : Int32).toInt = 0 := rfl
          refine w_loopI (fun n_ l_ g_ => ∃ x1665 : Int32, n_ = 6 - x1665.toInt ∧ HI g_ ∧ Fr F_X10_back_0 A_X10_back_0 g0 g_ ∧ gI g_ 1 0 = v1422 ∧ gI g_ 1 6 = v1448 ∧ en_get 0 l_ = some (.ref 1) ∧ en_get 1 l_ = some (.ref 59) ∧ en_get 2 l_ = some (.int x1665) ∧ (0 ≤ x1665.toInt ∧ x1665.toInt ≤ 6)) ?_ (6 - 0) ⟨0, by first | rfl | omega, hI1449, hF1450, ((gI_sI_ne (by decide)).trans ((gI_sW).trans ((gI_sI_ne (by decide)).trans ((gI_sW).trans ((gI_sW).trans ((gI_sW).trans (gI_sI_eq hI0.1 kx_1 rfl _))))))), (gI_sI_eq hI1446.1 kx_1 rfl _), rfl, rfl, rfl, by decide⟩
          rintro n1670 l1669 g1666 ⟨x1665, hm1679, hI1667, hF1668, e1672, e1673, e1674, e1675, e1676, r1677⟩ ih1671
          have tv1680 := congrArg Int32.toInt e1672
          have tv1681 := congrArg Int32.toInt e1673
          refine At.enter rfl ?_
          refine r_iload_n e1676 ?_
          refine r_bipush 6 rfl ?_
          refine r_ics 92 rfl (fun c1682 => ?_) (fun c1682 => ?_)
          · have c1682_ : x1665.toInt ≥ 6 := en_i_ge_t c1682
            refine At.enter rfl ?_
            refine r_aload_n e1674 ?_
            refine r_aload_n e1675 ?_
            obtain ⟨v1683, hv1683⟩ : ∃ v, gI g0 59 9 = v := ⟨_, rfl⟩
            refine q_getI (Sh.int hI1667.1 kx_59 rfl) v1683 ((hF1668.1 59 9 (by decide)).trans hv1683) ?_
            refine q_putI (Sh.int hI1667.1 kx_1 rfl) rfl ?_
            have hI1684 := HI.wI0 hI1667 kx_1 rfl (p := 1) (b := 9) (v := v1683) rfl
            have hF1685 := Fr.wI (p := 1) (b := 9) (v := v1683) hF1668 rfl
            refine r_aload_n e1674 ?_
            refine r_aload_n e1675 ?_
            obtain ⟨v1686, hv1686⟩ : ∃ v, gI g0 59 10 = v := ⟨_, rfl⟩
            refine q_getI (Sh.int hI1684.1 kx_59 rfl) v1686 (((gI_sI_ne (by decide)).trans (hF1668.1 59 10 (by decide))).trans hv1686) ?_
            refine q_putI (Sh.int hI1684.1 kx_1 rfl) rfl ?_
            have hI1687 := HI.wI0 hI1684 kx_1 rfl (p := 1) (b := 10) (v := v1686) rfl
            have hF1688 := Fr.wI (p := 1) (b := 10) (v := v1686) hF1685 rfl
            refine r_aload_n e1674 ?_
            refine r_aload_n e1675 ?_
            obtain ⟨v1689, hv1689⟩ : ∃ v, gI g0 59 11 = v := ⟨_, rfl⟩
            refine q_getI (Sh.int hI1687.1 kx_59 rfl) v1689 (((gI_sI_ne (by decide)).trans ((gI_sI_ne (by decide)).trans (hF1668.1 59 11 (by decide)))).trans hv1689) ?_
            refine q_putI (Sh.int hI1687.1 kx_1 rfl) rfl ?_
            have hI1690 := HI.wI0 hI1687 kx_1 rfl (p := 1) (b := 11) (v := v1689) rfl
            have hF1691 := Fr.wI (p := 1) (b := 11) (v := v1689) hF1688 rfl
            refine r_aload_n e1674 ?_
            refine r_aload_n e1675 ?_
            obtain ⟨v1692, hv1692⟩ : ∃ v, gI g0 59 12 = v := ⟨_, rfl⟩
            have rv1692 := RgF.at hI0.2.1 (p := 59) (b := 12) rfl
            rw [hv1692] at rv1692
            dsimp only at rv1692
            refine q_getI (Sh.int hI1690.1 kx_59 rfl) v1692 (((gI_sI_ne (by decide)).trans ((gI_sI_ne (by decide)).trans ((gI_sI_ne (by decide)).trans (hF1668.1 59 12 (by decide))))).trans hv1692) ?_
            refine q_putI (Sh.int hI1690.1 kx_1 rfl) rfl ?_
            have hI1693 := HI.wI1 hI1690 kx_1 rfl (p := 1) (b := 12) (v := v1692) rfl (by dsimp only; omega)
            have hF1694 := Fr.wI (p := 1) (b := 12) (v := v1692) hF1691 rfl
            refine r_aload_n e1675 ?_
            refine q_getR (Sh.ref hI1693.1 kx_59 rfl) ?_
            refine r_iconst 0 rfl ?_
            refine r_aload_n e1674 ?_
            refine q_getR (Sh.ref hI1693.1 kx_1 rfl) ?_
            refine r_iconst 0 rfl ?_
            refine r_bipush 8 rfl ?_
            have zv1695 : (0 : Int32).toInt = 0 := rfl
            have zv1696 : (0 : Int32).toInt = 0 := rfl
            have zv1697 : (8 : Int32).toInt = 8 := rfl
            refine q_cpy rfl (Nat.le_of_ble_eq_true rfl) (Sh.arr hI1693.1 ka_72) (Sh.arr hI1693.1 ka_14) ⟨by omega, by omega, by omega, by omega, by omega⟩ ?_
            have hI1698 := HI.cpy0 hI1693 ka_72 ka_14 rfl rfl ((0 : Int32).toInt.toNat) ((0 : Int32).toInt.toNat) ((8 : Int32).toInt.toNat) (by omega) (by omega)
            have hF1699 := Fr.cpy (p0 := 72) (p1 := 14) hF1694 rfl ((0 : Int32).toInt.toNat) ((0 : Int32).toInt.toNat) ((8 : Int32).toInt.toNat)
            refine r_aload_n e1675 ?_
            refine q_getR (Sh.ref hI1698.1 kx_59 rfl) ?_
            refine r_iconst 0 rfl ?_
            refine r_aload_n e1674 ?_
            refine q_getR (Sh.ref hI1698.1 kx_1 rfl) ?_
            refine r_iconst 0 rfl ?_
            refine r_bipush 8 rfl ?_
            have zv1700 : (0 : Int32).toInt = 0 := rfl
            have zv1701 : (0 : Int32).toInt = 0 := rfl
            have zv1702 : (8 : Int32).toInt = 8 := rfl
            refine q_cpy rfl (Nat.le_of_ble_eq_true rfl) (Sh.arr hI1698.1 ka_73) (Sh.arr hI1698.1 ka_15) ⟨by omega, by omega, by omega, by omega, by omega⟩ ?_
            have hI1703 := HI.cpy0 hI1698 ka_73 ka_15 rfl rfl ((0 : Int32).toInt.toNat) ((0 : Int32).toInt.toNat) ((8 : Int32).toInt.toNat) (by omega) (by omega)
            have hF1704 := Fr.cpy (p0 := 73) (p1 := 15) hF1699 rfl ((0 : Int32).toInt.toNat) ((0 : Int32).toInt.toNat) ((8 : Int32).toInt.toNat)
            refine q_vret ?_
            refine At.enter rfl ?_
            refine r_aload_n rfl ?_
            refine r_callV 44 rfl [.ref 0] [] (Nat.le_of_ble_eq_true rfl) rfl (T_X10_changed_0 _ hI1703) ?_
            rintro _ _ ⟨g1705, rfl, hI1706, hF1707, rfl⟩
            refine At.stn ?_
            have hF1710 := Fr.tr hF1704 hF1707 rfl rfl
            refine At.enter rfl ?_
            refine r_aload_n rfl ?_
            refine r_iconst 0 rfl ?_
            refine q_inlV 49 rfl [.ref 0, .int 0] [] (Nat.le_of_ble_eq_true rfl) rfl ?_
            refine Ev.mk rfl rfl ⟨Nat.le_of_ble_eq_true rfl, Or.inr (q_rc hI1706.1 kx_0 rfl)⟩ ?_
            show At _ none _ _ (0, [(0, .ref 0), (1, .int 0)], [], (_, _)) _
            refine At.enter rfl ?_
            refine r_aload_n rfl ?_
            refine r_iconst 0 rfl ?_
            refine q_putI (Sh.int hI1706.1 kx_0 rfl) rfl ?_
            have hI1711 := HI.wI0 hI1706 kx_0 rfl (p := 0) (b := 17) (v := 0) rfl
            have hF1712 := Fr.wI (p := 0) (b := 17) (v := 0) hF1710 rfl
            refine r_iload_n rfl ?_
            refine q_ireti ?_
            refine At.enter rfl ?_
            refine r_ireti ?_
            have zv1713 : (0 : Int32).toInt = 0 := rfl
            have e : a1.toInt = 0 := by omega
            have k1714_ : (eA g0 173 0).toInt = v1420.toInt := by rw [← hv1420, e]
            have k1714 : (eA g0 173 0).toInt ≠ 0 := by omega
            exact ⟨_, rfl, hI1711, hF1712, _, rfl, by decide, ⟨(fun _ => ⟨(by first | rfl | decide), (HI.eqI hI1711 (p := 1) (b := 0) ((((gI_sI_ne (by decide)).trans ((hF1707.1 1 0 mf_X10_changed_0_1_0).trans ((gI_sW).trans ((gI_sW).trans ((gI_sI_ne (by decide)).trans ((gI_sI_ne (by decide)).trans ((gI_sI_ne (by decide)).trans (gI_sI_ne (by decide))))))))).trans e1672))).trans (HI.eqI hI0 (p := 59) (b := 0) (hv1422)).symm, (HI.eqI hI1711 (p := 1) (b := 12) (((gI_sI_ne (by decide)).trans ((hF1707.1 1 12 mf_X10_changed_0_1_12).trans ((gI_sW).trans ((gI_sW).trans (gI_sI_eq hI1690.1 kx_1 rfl _))))))).trans (HI.eqI hI0 (p := 59) (b := 12) (hv1692)).symm, (HI.eqI hI1711 (p := 1) (b := 10) (((gI_sI_ne (by decide)).trans ((hF1707.1 1 10 mf_X10_changed_0_1_10).trans ((gI_sW).trans ((gI_sW).trans ((gI_sI_ne (by decide)).trans ((gI_sI_ne (by decide)).trans (gI_sI_eq hI1684.1 kx_1 rfl _))))))))).trans (HI.eqI hI0 (p := 59) (b := 10) (hv1686)).symm, (HI.eqI hI1711 (p := 1) (b := 11) (((gI_sI_ne (by decide)).trans ((hF1707.1 1 11 mf_X10_changed_0_1_11).trans ((gI_sW).trans ((gI_sW).trans ((gI_sI_ne (by decide)).trans (gI_sI_eq hI1687.1 kx_1 rfl _)))))))).trans (HI.eqI hI0 (p := 59) (b := 11) (hv1689)).symm, (HI.eqI hI1711 (p := 1) (b := 6) ((((gI_sI_ne (by decide)).trans ((hF1707.1 1 6 mf_X10_changed_0_1_6).trans ((gI_sW).trans ((gI_sW).trans ((gI_sI_ne (by decide)).trans ((gI_sI_ne (by decide)).trans ((gI_sI_ne (by decide)).trans (gI_sI_ne (by decide))))))))).trans e1673))).trans (HI.eqI hI0 (p := 59) (b := 6) (hv1448)).symm, (HI.eqI hI1711 (p := 1) (b := 9) (((gI_sI_ne (by decide)).trans ((hF1707.1 1 9 mf_X10_changed_0_1_9).trans ((gI_sW).trans ((gI_sW).trans ((gI_sI_ne (by decide)).trans ((gI_sI_ne (by decide)).trans ((gI_sI_ne (by decide)).trans (gI_sI_eq hI1667.1 kx_1 rfl _)))))))))).trans (HI.eqI hI0 (p := 59) (b := 9) (hv1683)).symm⟩), (fun h => absurd (e.symm.trans h.1) (by decide)), (fun h => absurd ⟨e, k1714⟩ h.1), (fun h => False.elim (by omega)), (fun h => absurd ⟨e, k1714⟩ h.2.2.1)⟩⟩
          · have c1682_ : x1665.toInt < 6 := en_i_ge_f c1682
            refine At.enter rfl ?_
            refine r_aload_n e1674 ?_
            refine r_iload_n e1676 ?_
            refine r_callV 97 rfl [.ref 1, .int x1665] [] (Nat.le_of_ble_eq_true rfl) rfl (T_X0_lawAt_1 _ hI1667 x1665) ?_
            rintro _ _ ⟨g1715, rfl, hI1716, hF1717, v1718, rfl, hr1719⟩
            refine At.str ?_
            have hF1720 := Fr.tr hF1668 hF1717 rfl rfl
            refine At.enter rfl ?_
            refine r_aload_n e1675 ?_
            refine r_iload_n e1676 ?_
            refine r_callV 102 rfl [.ref 59, .int x1665] [.ref (v1718)] (Nat.le_of_ble_eq_true rfl) rfl (T_X0_lawAt_59 _ hI1716 x1665) ?_
            rintro _ _ ⟨g1721, rfl, hI1722, hF1723, v1724, rfl, hr1725⟩
            refine At.str ?_
            have hF1726 := Fr.tr hF1720 hF1723 rfl rfl
            refine At.enter rfl ?_
            refine r_callV 105 rfl [.ref (v1718), .ref (v1724)] [] (Nat.le_of_ble_eq_true rfl) rfl (T_X4_become_law _ hI1722 (v1718) hr1719 (v1724) hr1725) ?_
            rintro _ _ ⟨g1727, rfl, hI1728, hF1729, rfl⟩
            refine At.stn ?_
            have hF1732 := Fr.tr hF1726 hF1729 rfl rfl
            refine At.enter rfl ?_
            refine q_iinc e1676 (x1665.toInt + 1) rfl (by omega) (fun v1733 hv1733 => ?_)
            refine r_goto ?_
            exact ih1671 (6 - v1733.toInt) _ _ ⟨v1733, by first | rfl | omega, hI1728, hF1732, (((hF1729.1 1 0 mf_X4_become_law_1_0).trans ((hF1723.1 1 0 mf_X0_lawAt_59_1_0).trans (hF1717.1 1 0 mf_X0_lawAt_1_1_0))).trans e1672), (((hF1729.1 1 6 mf_X4_become_law_1_6).trans ((hF1723.1 1 6 mf_X0_lawAt_59_1_6).trans (hF1717.1 1 6 mf_X0_lawAt_1_1_6))).trans e1673), (w_p1 (by decide) (Or.inr rfl) e1674), (w_p1 (by decide) (Or.inr rfl) e1675), (w_e1 _ _ _), by omega⟩ ⟨by omega, by omega⟩
        · have c1421_ : v1420.toInt = 0 := en_k_ne_f c1421
          refine At.enter rfl ?_
          refine r_aload_n rfl ?_
          refine r_bipush (-2) rfl ?_
          refine r_callV 31 rfl [.ref 0, .int (-2)] [] (Nat.le_of_ble_eq_true rfl) rfl (T_X10_refused_0 _ hI0 (-2) (by decide)) ?_
          rintro _ _ ⟨g1734, rfl, hI1735, hF1736, v1737, rfl, hr1738⟩
          refine At.sti ?_
          have hF1739 := Fr.tr hF0 hF1736 rfl rfl
          have zv1740 : ((-2) : Int32).toInt = (-2) := rfl
          refine At.enter rfl ?_
          refine r_ireti ?_
          obtain ⟨v1741, hv1741⟩ : ∃ v, gI g0 1 0 = v := ⟨_, rfl⟩
          have rv1741 := RgF.at hI0.2.1 (p := 1) (b := 0) rfl
          rw [hv1741] at rv1741
          dsimp only at rv1741
          have tv1741 := congrArg Int32.toInt hv1741
          obtain ⟨v1743, hv1743⟩ : ∃ v, gI g0 1 12 = v := ⟨_, rfl⟩
          have rv1743 := RgF.at hI0.2.1 (p := 1) (b := 12) rfl
          rw [hv1743] at rv1743
          dsimp only at rv1743
          have tv1743 := congrArg Int32.toInt hv1743
          obtain ⟨v1745, hv1745⟩ : ∃ v, gI g0 1 10 = v := ⟨_, rfl⟩
          have tv1745 := congrArg Int32.toInt hv1745
          obtain ⟨v1747, hv1747⟩ : ∃ v, gI g0 1 11 = v := ⟨_, rfl⟩
          have tv1747 := congrArg Int32.toInt hv1747
          obtain ⟨v1749, hv1749⟩ : ∃ v, gI g0 1 6 = v := ⟨_, rfl⟩
          have rv1749 := RgF.at hI0.2.1 (p := 1) (b := 6) rfl
          rw [hv1749] at rv1749
          dsimp only at rv1749
          have tv1749 := congrArg Int32.toInt hv1749
          obtain ⟨v1751, hv1751⟩ : ∃ v, gI g0 1 9 = v := ⟨_, rfl⟩
          have tv1751 := congrArg Int32.toInt hv1751
          obtain ⟨v1753, hv1753⟩ : ∃ v, gI g0 59 0 = v := ⟨_, rfl⟩
          have rv1753 := RgF.at hI0.2.1 (p := 59) (b := 0) rfl
          rw [hv1753] at rv1753
          dsimp only at rv1753
          have tv1753 := congrArg Int32.toInt hv1753
          obtain ⟨v1755, hv1755⟩ : ∃ v, gI g0 59 12 = v := ⟨_, rfl⟩
          have rv1755 := RgF.at hI0.2.1 (p := 59) (b := 12) rfl
          rw [hv1755] at rv1755
          dsimp only at rv1755
          have tv1755 := congrArg Int32.toInt hv1755
          obtain ⟨v1757, hv1757⟩ : ∃ v, gI g0 59 10 = v := ⟨_, rfl⟩
          have tv1757 := congrArg Int32.toInt hv1757
          obtain ⟨v1759, hv1759⟩ : ∃ v, gI g0 59 11 = v := ⟨_, rfl⟩
          have tv1759 := congrArg Int32.toInt hv1759
          obtain ⟨v1761, hv1761⟩ : ∃ v, gI g0 59 6 = v := ⟨_, rfl⟩
          have rv1761 := RgF.at hI0.2.1 (p := 59) (b := 6) rfl
          rw [hv1761] at rv1761
          dsimp only at rv1761
          have tv1761 := congrArg Int32.toInt hv1761
          obtain ⟨v1763, hv1763⟩ : ∃ v, gI g0 59 9 = v := ⟨_, rfl⟩
          have tv1763 := congrArg Int32.toInt hv1763
          obtain ⟨v1765, hv1765⟩ : ∃ v, gI g0 116 0 = v := ⟨_, rfl⟩
          have rv1765 := RgF.at hI0.2.1 (p := 116) (b := 0) rfl
          rw [hv1765] at rv1765
          dsimp only at rv1765
          have tv1765 := congrArg Int32.toInt hv1765
          obtain ⟨v1767, hv1767⟩ : ∃ v, gI g0 116 12 = v := ⟨_, rfl⟩
          have rv1767 := RgF.at hI0.2.1 (p := 116) (b := 12) rfl
          rw [hv1767] at rv1767
          dsimp only at rv1767
          have tv1767 := congrArg Int32.toInt hv1767
          obtain ⟨v1769, hv1769⟩ : ∃ v, gI g0 116 10 = v := ⟨_, rfl⟩
          have tv1769 := congrArg Int32.toInt hv1769
          obtain ⟨v1771, hv1771⟩ : ∃ v, gI g0 116 11 = v := ⟨_, rfl⟩
          have tv1771 := congrArg Int32.toInt hv1771
          obtain ⟨v1773, hv1773⟩ : ∃ v, gI g0 116 6 = v := ⟨_, rfl⟩
          have rv1773 := RgF.at hI0.2.1 (p := 116) (b := 6) rfl
          rw [hv1773] at rv1773
          dsimp only at rv1773
          have tv1773 := congrArg Int32.toInt hv1773
          obtain ⟨v1775, hv1775⟩ : ∃ v, gI g0 116 9 = v := ⟨_, rfl⟩
          have tv1775 := congrArg Int32.toInt hv1775
          obtain ⟨v1777, hv1777⟩ : ∃ v, eA g0 173 0 = v := ⟨_, rfl⟩
          have tv1777 := congrArg Int32.toInt hv1777
          have x1778 := HI.eqA hI0 (p := 173) (j := 0) (hv1777)
          have y1779 : (eA g0 173 0).toInt = v1420.toInt := by rw [← hv1420, show a1.toInt = 0 by omega]
          obtain ⟨v1780, hv1780⟩ : ∃ v, eA g0 173 1 = v := ⟨_, rfl⟩
          have tv1780 := congrArg Int32.toInt hv1780
          have x1781 := HI.eqA hI0 (p := 173) (j := 1) (hv1780)
          have y1782 : a1.toInt = 0 → (eA g0 173 0).toInt = v1420.toInt := fun e => by rw [← hv1420, e]
          have e : a1.toInt = 0 := by omega
          have z1783 := HI.eqI hI1735 (p := 1) (b := 0) (((hF1736.1 1 0 mf_X10_refused_0_1_0).trans hv1741))
          have z1784 := HI.eqI hI1735 (p := 1) (b := 12) (((hF1736.1 1 12 mf_X10_refused_0_1_12).trans hv1743))
          have z1785 := HI.eqI hI1735 (p := 1) (b := 10) (((hF1736.1 1 10 mf_X10_refused_0_1_10).trans hv1745))
          have z1786 := HI.eqI hI1735 (p := 1) (b := 11) (((hF1736.1 1 11 mf_X10_refused_0_1_11).trans hv1747))
          have z1787 := HI.eqI hI1735 (p := 1) (b := 6) (((hF1736.1 1 6 mf_X10_refused_0_1_6).trans hv1749))
          have z1788 := HI.eqI hI1735 (p := 1) (b := 9) (((hF1736.1 1 9 mf_X10_refused_0_1_9).trans hv1751))
          exact ⟨_, rfl, hI1735, hF1739, _, rfl, by omega, ⟨by omega, by omega, by omega, by omega, by omega⟩⟩
      have c1419_1 : a1.toInt = 1 := by omega
      refine q_aald (Sh.rar hI0.1 ka_58) (by decide) 1 (by omega) (by decide) (some 116) rfl ?_
      refine r_goto ?_
      refine At.enter rfl ?_
      refine q_aret ?_
      refine At.enter rfl ?_
      refine r_astore_n ([(2, .ref 116), (0, .ref 0), (1, .int a1)]) rfl ?_
      refine r_aload_n rfl ?_
      refine r_nnr ?_
      refine At.enter rfl ?_
      refine r_aload_n rfl ?_
      refine q_getR (Sh.ref hI0.1 kx_0 rfl) ?_
      refine r_iload_n rfl ?_
      obtain ⟨v1789, hv1789⟩ : ∃ v, eA g0 173 a1.toInt = v := ⟨_, rfl⟩
      refine q_bald (Sh.arr hI0.1 ka_173) a1.toInt rfl (by omega) v1789 hv1789 ?_
      refine r_ifs 25 rfl (fun c1790 => ?_) (fun c1790 => ?_)
      · have c1790_ : v1789.toInt ≠ 0 := en_k_ne_t c1790
        refine At.enter rfl ?_
        refine r_aload_n rfl ?_
        refine q_getR (Sh.ref hI0.1 kx_0 rfl) ?_
        refine r_aload_n rfl ?_
        refine q_inlV 40 rfl [.ref 1, .ref 116] [] (Nat.le_of_ble_eq_true rfl) rfl ?_
        refine Ev.mk rfl rfl ⟨Nat.le_of_ble_eq_true rfl, Or.inr (q_rc hI0.1 kx_1 rfl)⟩ ?_
        show At _ none _ _ (0, [(0, .ref 1), (1, .ref 116)], [], (_, _)) _
        refine At.enter rfl ?_
        refine r_aload_n rfl ?_
        refine r_aload_n rfl ?_
        obtain ⟨v1791, hv1791⟩ : ∃ v, gI g0 116 0 = v := ⟨_, rfl⟩
        have rv1791 := RgF.at hI0.2.1 (p := 116) (b := 0) rfl
        rw [hv1791] at rv1791
        dsimp only at rv1791
        refine q_getI (Sh.int hI0.1 kx_116 rfl) v1791 hv1791 ?_
        refine q_putI (Sh.int hI0.1 kx_1 rfl) rfl ?_
        have hI1792 := HI.wI1 hI0 kx_1 rfl (p := 1) (b := 0) (v := v1791) rfl (by dsimp only; omega)
        have hF1793 := Fr.wI (p := 1) (b := 0) (v := v1791) hF0 rfl
        refine r_aload_n rfl ?_
        refine q_getR (Sh.ref hI1792.1 kx_116 rfl) ?_
        refine r_iconst 0 rfl ?_
        refine r_aload_n rfl ?_
        refine q_getR (Sh.ref hI1792.1 kx_1 rfl) ?_
        refine r_iconst 0 rfl ?_
        refine r_bipush 12 rfl ?_
        have zv1794 : (0 : Int32).toInt = 0 := rfl
        have zv1795 : (0 : Int32).toInt = 0 := rfl
        have zv1796 : (12 : Int32).toInt = 12 := rfl
        refine q_cpy rfl (Nat.le_of_ble_eq_true rfl) (Sh.arr hI1792.1 ka_117) (Sh.arr hI1792.1 ka_2) ⟨by omega, by omega, by omega, by omega, by omega⟩ ?_
        have hI1797 := HI.cpy0 hI1792 ka_117 ka_2 rfl rfl ((0 : Int32).toInt.toNat) ((0 : Int32).toInt.toNat) ((12 : Int32).toInt.toNat) (by omega) (by omega)
        have hF1798 := Fr.cpy (p0 := 117) (p1 := 2) hF1793 rfl ((0 : Int32).toInt.toNat) ((0 : Int32).toInt.toNat) ((12 : Int32).toInt.toNat)
        refine r_aload_n rfl ?_
        refine q_getR (Sh.ref hI1797.1 kx_116 rfl) ?_
        refine r_iconst 0 rfl ?_
        refine r_aload_n rfl ?_
        refine q_getR (Sh.ref hI1797.1 kx_1 rfl) ?_
        refine r_iconst 0 rfl ?_
        refine r_bipush 12 rfl ?_
        have zv1799 : (0 : Int32).toInt = 0 := rfl
        have zv1800 : (0 : Int32).toInt = 0 := rfl
        have zv1801 : (12 : Int32).toInt = 12 := rfl
        refine q_cpy rfl (Nat.le_of_ble_eq_true rfl) (Sh.arr hI1797.1 ka_118) (Sh.arr hI1797.1 ka_3) ⟨by omega, by omega, by omega, by omega, by omega⟩ ?_
        have hI1802 := HI.cpy0 hI1797 ka_118 ka_3 rfl rfl ((0 : Int32).toInt.toNat) ((0 : Int32).toInt.toNat) ((12 : Int32).toInt.toNat) (by omega) (by omega)
        have hF1803 := Fr.cpy (p0 := 118) (p1 := 3) hF1798 rfl ((0 : Int32).toInt.toNat) ((0 : Int32).toInt.toNat) ((12 : Int32).toInt.toNat)
        refine r_aload_n rfl ?_
        refine q_getR (Sh.ref hI1802.1 kx_116 rfl) ?_
        refine r_iconst 0 rfl ?_
        refine r_aload_n rfl ?_
        refine q_getR (Sh.ref hI1802.1 kx_1 rfl) ?_
        refine r_iconst 0 rfl ?_
        refine r_bipush 12 rfl ?_
        have zv1804 : (0 : Int32).toInt = 0 := rfl
        have zv1805 : (0 : Int32).toInt = 0 := rfl
        have zv1806 : (12 : Int32).toInt = 12 := rfl
        refine q_cpy rfl (Nat.le_of_ble_eq_true rfl) (Sh.arr hI1802.1 ka_119) (Sh.arr hI1802.1 ka_4) ⟨by omega, by omega, by omega, by omega, by omega⟩ ?_
        have hI1807 := HI.cpy0 hI1802 ka_119 ka_4 rfl rfl ((0 : Int32).toInt.toNat) ((0 : Int32).toInt.toNat) ((12 : Int32).toInt.toNat) (by omega) (by omega)
        have hF1808 := Fr.cpy (p0 := 119) (p1 := 4) hF1803 rfl ((0 : Int32).toInt.toNat) ((0 : Int32).toInt.toNat) ((12 : Int32).toInt.toNat)
        refine r_aload_n rfl ?_
        refine r_aload_n rfl ?_
        obtain ⟨v1809, hv1809⟩ : ∃ v, gI g0 116 4 = v := ⟨_, rfl⟩
        have rv1809 := RgF.at hI0.2.1 (p := 116) (b := 4) rfl
        rw [hv1809] at rv1809
        dsimp only at rv1809
        refine q_getI (Sh.int hI1807.1 kx_116 rfl) v1809 (((gI_sW).trans ((gI_sW).trans ((gI_sW).trans (gI_sI_ne (by decide))))).trans hv1809) ?_
        refine q_putI (Sh.int hI1807.1 kx_1 rfl) rfl ?_
        have hI1810 := HI.wI1 hI1807 kx_1 rfl (p := 1) (b := 4) (v := v1809) rfl (by dsimp only; omega)
        have hF1811 := Fr.wI (p := 1) (b := 4) (v := v1809) hF1808 rfl
        refine r_aload_n rfl ?_
        refine q_getR (Sh.ref hI1810.1 kx_116 rfl) ?_
        refine r_iconst 0 rfl ?_
        refine r_aload_n rfl ?_
        refine q_getR (Sh.ref hI1810.1 kx_1 rfl) ?_
        refine r_iconst 0 rfl ?_
        refine r_bipush 48 rfl ?_
        have zv1812 : (0 : Int32).toInt = 0 := rfl
        have zv1813 : (0 : Int32).toInt = 0 := rfl
        have zv1814 : (48 : Int32).toInt = 48 := rfl
        refine q_cpy rfl (Nat.le_of_ble_eq_true rfl) (Sh.arr hI1810.1 ka_120) (Sh.arr hI1810.1 ka_5) ⟨by omega, by omega, by omega, by omega, by omega⟩ ?_
        have hI1815 := HI.cpy0 hI1810 ka_120 ka_5 rfl rfl ((0 : Int32).toInt.toNat) ((0 : Int32).toInt.toNat) ((48 : Int32).toInt.toNat) (by omega) (by omega)
        have hF1816 := Fr.cpy (p0 := 120) (p1 := 5) hF1811 rfl ((0 : Int32).toInt.toNat) ((0 : Int32).toInt.toNat) ((48 : Int32).toInt.toNat)
        refine r_aload_n rfl ?_
        refine r_aload_n rfl ?_
        obtain ⟨v1817, hv1817⟩ : ∃ v, gI g0 116 6 = v := ⟨_, rfl⟩
        have rv1817 := RgF.at hI0.2.1 (p := 116) (b := 6) rfl
        rw [hv1817] at rv1817
        dsimp only at rv1817
        refine q_getI (Sh.int hI1815.1 kx_116 rfl) v1817 (((gI_sW).trans ((gI_sI_ne (by decide)).trans ((gI_sW).trans ((gI_sW).trans ((gI_sW).trans (gI_sI_ne (by decide))))))).trans hv1817) ?_
        refine q_putI (Sh.int hI1815.1 kx_1 rfl) rfl ?_
        have hI1818 := HI.wI1 hI1815 kx_1 rfl (p := 1) (b := 6) (v := v1817) rfl (by dsimp only; omega)
        have hF1819 := Fr.wI (p := 1) (b := 6) (v := v1817) hF1816 rfl
        refine r_iconst 0 rfl ?_
        refine r_istore_n ([(2, .int 0), (0, .ref 1), (1, .ref 116)]) rfl ?_
        refine Ar.fall 86 rfl ?_
        have z_2047 : (0 : Int32).toInt = 0 := rfl
        refine w_loopI (fun n_ l_ g_ => ∃ x2034 : Int32, n_ = 6 - x2034.toInt ∧ HI g_ ∧ Fr F_X10_back_0 A_X10_back_0 g0 g_ ∧ gI g_ 1 0 = v1791 ∧ gI g_ 1 6 = v1817 ∧ en_get 0 l_ = some (.ref 1) ∧ en_get 1 l_ = some (.ref 116) ∧ en_get 2 l_ = some (.int x2034) ∧ (0 ≤ x2034.toInt ∧ x2034.toInt ≤ 6)) ?_ (6 - 0) ⟨0, by first | rfl | omega, hI1818, hF1819, ((gI_sI_ne (by decide)).trans ((gI_sW).trans ((gI_sI_ne (by decide)).trans ((gI_sW).trans ((gI_sW).trans ((gI_sW).trans (gI_sI_eq hI0.1 kx_1 rfl _))))))), (gI_sI_eq hI1815.1 kx_1 rfl _), rfl, rfl, rfl, by decide⟩
        rintro n2039 l2038 g2035 ⟨x2034, hm2048, hI2036, hF2037, e2041, e2042, e2043, e2044, e2045, r2046⟩ ih2040
        have tv2049 := congrArg Int32.toInt e2041
        have tv2050 := congrArg Int32.toInt e2042
        refine At.enter rfl ?_
        refine r_iload_n e2045 ?_
        refine r_bipush 6 rfl ?_
        refine r_ics 92 rfl (fun c2051 => ?_) (fun c2051 => ?_)
        · have c2051_ : x2034.toInt ≥ 6 := en_i_ge_t c2051
          refine At.enter rfl ?_
          refine r_aload_n e2043 ?_
          refine r_aload_n e2044 ?_
          obtain ⟨v2052, hv2052⟩ : ∃ v, gI g0 116 9 = v := ⟨_, rfl⟩
          refine q_getI (Sh.int hI2036.1 kx_116 rfl) v2052 ((hF2037.1 116 9 (by decide)).trans hv2052) ?_
          refine q_putI (Sh.int hI2036.1 kx_1 rfl) rfl ?_
          have hI2053 := HI.wI0 hI2036 kx_1 rfl (p := 1) (b := 9) (v := v2052) rfl
          have hF2054 := Fr.wI (p := 1) (b := 9) (v := v2052) hF2037 rfl
          refine r_aload_n e2043 ?_
          refine r_aload_n e2044 ?_
          obtain ⟨v2055, hv2055⟩ : ∃ v, gI g0 116 10 = v := ⟨_, rfl⟩
          refine q_getI (Sh.int hI2053.1 kx_116 rfl) v2055 (((gI_sI_ne (by decide)).trans (hF2037.1 116 10 (by decide))).trans hv2055) ?_
          refine q_putI (Sh.int hI2053.1 kx_1 rfl) rfl ?_
          have hI2056 := HI.wI0 hI2053 kx_1 rfl (p := 1) (b := 10) (v := v2055) rfl
          have hF2057 := Fr.wI (p := 1) (b := 10) (v := v2055) hF2054 rfl
          refine r_aload_n e2043 ?_
          refine r_aload_n e2044 ?_
          obtain ⟨v2058, hv2058⟩ : ∃ v, gI g0 116 11 = v := ⟨_, rfl⟩
          refine q_getI (Sh.int hI2056.1 kx_116 rfl) v2058 (((gI_sI_ne (by decide)).trans ((gI_sI_ne (by decide)).trans (hF2037.1 116 11 (by decide)))).trans hv2058) ?_
          refine q_putI (Sh.int hI2056.1 kx_1 rfl) rfl ?_
          have hI2059 := HI.wI0 hI2056 kx_1 rfl (p := 1) (b := 11) (v := v2058) rfl
          have hF2060 := Fr.wI (p := 1) (b := 11) (v := v2058) hF2057 rfl
          refine r_aload_n e2043 ?_
          refine r_aload_n e2044 ?_
          obtain ⟨v2061, hv2061⟩ : ∃ v, gI g0 116 12 = v := ⟨_, rfl⟩
          have rv2061 := RgF.at hI0.2.1 (p := 116) (b := 12) rfl
          rw [hv2061] at rv2061
          dsimp only at rv2061
          refine q_getI (Sh.int hI2059.1 kx_116 rfl) v2061 (((gI_sI_ne (by decide)).trans ((gI_sI_ne (by decide)).trans ((gI_sI_ne (by decide)).trans (hF2037.1 116 12 (by decide))))).trans hv2061) ?_
          refine q_putI (Sh.int hI2059.1 kx_1 rfl) rfl ?_
          have hI2062 := HI.wI1 hI2059 kx_1 rfl (p := 1) (b := 12) (v := v2061) rfl (by dsimp only; omega)
          have hF2063 := Fr.wI (p := 1) (b := 12) (v := v2061) hF2060 rfl
          refine r_aload_n e2044 ?_
          refine q_getR (Sh.ref hI2062.1 kx_116 rfl) ?_
          refine r_iconst 0 rfl ?_
          refine r_aload_n e2043 ?_
          refine q_getR (Sh.ref hI2062.1 kx_1 rfl) ?_
          refine r_iconst 0 rfl ?_
          refine r_bipush 8 rfl ?_
          have zv2064 : (0 : Int32).toInt = 0 := rfl
          have zv2065 : (0 : Int32).toInt = 0 := rfl
          have zv2066 : (8 : Int32).toInt = 8 := rfl
          refine q_cpy rfl (Nat.le_of_ble_eq_true rfl) (Sh.arr hI2062.1 ka_129) (Sh.arr hI2062.1 ka_14) ⟨by omega, by omega, by omega, by omega, by omega⟩ ?_
          have hI2067 := HI.cpy0 hI2062 ka_129 ka_14 rfl rfl ((0 : Int32).toInt.toNat) ((0 : Int32).toInt.toNat) ((8 : Int32).toInt.toNat) (by omega) (by omega)
          have hF2068 := Fr.cpy (p0 := 129) (p1 := 14) hF2063 rfl ((0 : Int32).toInt.toNat) ((0 : Int32).toInt.toNat) ((8 : Int32).toInt.toNat)
          refine r_aload_n e2044 ?_
          refine q_getR (Sh.ref hI2067.1 kx_116 rfl) ?_
          refine r_iconst 0 rfl ?_
          refine r_aload_n e2043 ?_
          refine q_getR (Sh.ref hI2067.1 kx_1 rfl) ?_
          refine r_iconst 0 rfl ?_
          refine r_bipush 8 rfl ?_
          have zv2069 : (0 : Int32).toInt = 0 := rfl
          have zv2070 : (0 : Int32).toInt = 0 := rfl
          have zv2071 : (8 : Int32).toInt = 8 := rfl
          refine q_cpy rfl (Nat.le_of_ble_eq_true rfl) (Sh.arr hI2067.1 ka_130) (Sh.arr hI2067.1 ka_15) ⟨by omega, by omega, by omega, by omega, by omega⟩ ?_
          have hI2072 := HI.cpy0 hI2067 ka_130 ka_15 rfl rfl ((0 : Int32).toInt.toNat) ((0 : Int32).toInt.toNat) ((8 : Int32).toInt.toNat) (by omega) (by omega)
          have hF2073 := Fr.cpy (p0 := 130) (p1 := 15) hF2068 rfl ((0 : Int32).toInt.toNat) ((0 : Int32).toInt.toNat) ((8 : Int32).toInt.toNat)
          refine q_vret ?_
          refine At.enter rfl ?_
          refine r_aload_n rfl ?_
          refine r_callV 44 rfl [.ref 0] [] (Nat.le_of_ble_eq_true rfl) rfl (T_X10_changed_0 _ hI2072) ?_
          rintro _ _ ⟨g2074, rfl, hI2075, hF2076, rfl⟩
          refine At.stn ?_
          have hF2079 := Fr.tr hF2073 hF2076 rfl rfl
          refine At.enter rfl ?_
          refine r_aload_n rfl ?_
          refine r_iconst 0 rfl ?_
          refine q_inlV 49 rfl [.ref 0, .int 0] [] (Nat.le_of_ble_eq_true rfl) rfl ?_
          refine Ev.mk rfl rfl ⟨Nat.le_of_ble_eq_true rfl, Or.inr (q_rc hI2075.1 kx_0 rfl)⟩ ?_
          show At _ none _ _ (0, [(0, .ref 0), (1, .int 0)], [], (_, _)) _
          refine At.enter rfl ?_
          refine r_aload_n rfl ?_
          refine r_iconst 0 rfl ?_
          refine q_putI (Sh.int hI2075.1 kx_0 rfl) rfl ?_
          have hI2080 := HI.wI0 hI2075 kx_0 rfl (p := 0) (b := 17) (v := 0) rfl
          have hF2081 := Fr.wI (p := 0) (b := 17) (v := 0) hF2079 rfl
          refine r_iload_n rfl ?_
          refine q_ireti ?_
          refine At.enter rfl ?_
          refine r_ireti ?_
          have zv2082 : (0 : Int32).toInt = 0 := rfl
          have e : a1.toInt = 1 := by omega
          have k2083_ : (eA g0 173 1).toInt = v1789.toInt := by rw [← hv1789, e]
          have k2083 : (eA g0 173 1).toInt ≠ 0 := by omega
          exact ⟨_, rfl, hI2080, hF2081, _, rfl, by decide, ⟨(fun h => absurd (e.symm.trans h.1) (by decide)), (fun _ => ⟨(by first | rfl | decide), (HI.eqI hI2080 (p := 1) (b := 0) ((((gI_sI_ne (by decide)).trans ((hF2076.1 1 0 mf_X10_changed_0_1_0).trans ((gI_sW).trans ((gI_sW).trans ((gI_sI_ne (by decide)).trans ((gI_sI_ne (by decide)).trans ((gI_sI_ne (by decide)).trans (gI_sI_ne (by decide))))))))).trans e2041))).trans (HI.eqI hI0 (p := 116) (b := 0) (hv1791)).symm, (HI.eqI hI2080 (p := 1) (b := 12) (((gI_sI_ne (by decide)).trans ((hF2076.1 1 12 mf_X10_changed_0_1_12).trans ((gI_sW).trans ((gI_sW).trans (gI_sI_eq hI2059.1 kx_1 rfl _))))))).trans (HI.eqI hI0 (p := 116) (b := 12) (hv2061)).symm, (HI.eqI hI2080 (p := 1) (b := 10) (((gI_sI_ne (by decide)).trans ((hF2076.1 1 10 mf_X10_changed_0_1_10).trans ((gI_sW).trans ((gI_sW).trans ((gI_sI_ne (by decide)).trans ((gI_sI_ne (by decide)).trans (gI_sI_eq hI2053.1 kx_1 rfl _))))))))).trans (HI.eqI hI0 (p := 116) (b := 10) (hv2055)).symm, (HI.eqI hI2080 (p := 1) (b := 11) (((gI_sI_ne (by decide)).trans ((hF2076.1 1 11 mf_X10_changed_0_1_11).trans ((gI_sW).trans ((gI_sW).trans ((gI_sI_ne (by decide)).trans (gI_sI_eq hI2056.1 kx_1 rfl _)))))))).trans (HI.eqI hI0 (p := 116) (b := 11) (hv2058)).symm, (HI.eqI hI2080 (p := 1) (b := 6) ((((gI_sI_ne (by decide)).trans ((hF2076.1 1 6 mf_X10_changed_0_1_6).trans ((gI_sW).trans ((gI_sW).trans ((gI_sI_ne (by decide)).trans ((gI_sI_ne (by decide)).trans ((gI_sI_ne (by decide)).trans (gI_sI_ne (by decide))))))))).trans e2042))).trans (HI.eqI hI0 (p := 116) (b := 6) (hv1817)).symm, (HI.eqI hI2080 (p := 1) (b := 9) (((gI_sI_ne (by decide)).trans ((hF2076.1 1 9 mf_X10_changed_0_1_9).trans ((gI_sW).trans ((gI_sW).trans ((gI_sI_ne (by decide)).trans ((gI_sI_ne (by decide)).trans ((gI_sI_ne (by decide)).trans (gI_sI_eq hI2036.1 kx_1 rfl _)))))))))).trans (HI.eqI hI0 (p := 116) (b := 9) (hv2052)).symm⟩), (fun h => absurd ⟨e, k2083⟩ h.2), (fun h => False.elim (by omega)), (fun h => absurd ⟨e, k2083⟩ h.2.2.2)⟩⟩
        · have c2051_ : x2034.toInt < 6 := en_i_ge_f c2051
          refine At.enter rfl ?_
          refine r_aload_n e2043 ?_
          refine r_iload_n e2045 ?_
          refine r_callV 97 rfl [.ref 1, .int x2034] [] (Nat.le_of_ble_eq_true rfl) rfl (T_X0_lawAt_1 _ hI2036 x2034) ?_
          rintro _ _ ⟨g2084, rfl, hI2085, hF2086, v2087, rfl, hr2088⟩
          refine At.str ?_
          have hF2089 := Fr.tr hF2037 hF2086 rfl rfl
          refine At.enter rfl ?_
          refine r_aload_n e2044 ?_
          refine r_iload_n e2045 ?_
          refine r_callV 102 rfl [.ref 116, .int x2034] [.ref (v2087)] (Nat.le_of_ble_eq_true rfl) rfl (T_X0_lawAt_116 _ hI2085 x2034) ?_
          rintro _ _ ⟨g2090, rfl, hI2091, hF2092, v2093, rfl, hr2094⟩
          refine At.str ?_
          have hF2095 := Fr.tr hF2089 hF2092 rfl rfl
          refine At.enter rfl ?_
          refine r_callV 105 rfl [.ref (v2087), .ref (v2093)] [] (Nat.le_of_ble_eq_true rfl) rfl (T_X4_become_law _ hI2091 (v2087) hr2088 (v2093) hr2094) ?_
          rintro _ _ ⟨g2096, rfl, hI2097, hF2098, rfl⟩
          refine At.stn ?_
          have hF2101 := Fr.tr hF2095 hF2098 rfl rfl
          refine At.enter rfl ?_
          refine q_iinc e2045 (x2034.toInt + 1) rfl (by omega) (fun v2102 hv2102 => ?_)
          refine r_goto ?_
          exact ih2040 (6 - v2102.toInt) _ _ ⟨v2102, by first | rfl | omega, hI2097, hF2101, (((hF2098.1 1 0 mf_X4_become_law_1_0).trans ((hF2092.1 1 0 mf_X0_lawAt_116_1_0).trans (hF2086.1 1 0 mf_X0_lawAt_1_1_0))).trans e2041), (((hF2098.1 1 6 mf_X4_become_law_1_6).trans ((hF2092.1 1 6 mf_X0_lawAt_116_1_6).trans (hF2086.1 1 6 mf_X0_lawAt_1_1_6))).trans e2042), (w_p1 (by decide) (Or.inr rfl) e2043), (w_p1 (by decide) (Or.inr rfl) e2044), (w_e1 _ _ _), by omega⟩ ⟨by omega, by omega⟩
      · have c1790_ : v1789.toInt = 0 := en_k_ne_f c1790
        refine At.enter rfl ?_
        refine r_aload_n rfl ?_
        refine r_bipush (-2) rfl ?_
        refine r_callV 31 rfl [.ref 0, .int (-2)] [] (Nat.le_of_ble_eq_true rfl) rfl (T_X10_refused_0 _ hI0 (-2) (by decide)) ?_
        rintro _ _ ⟨g2103, rfl, hI2104, hF2105, v2106, rfl, hr2107⟩
        refine At.sti ?_
        have hF2108 := Fr.tr hF0 hF2105 rfl rfl
        have zv2109 : ((-2) : Int32).toInt = (-2) := rfl
        refine At.enter rfl ?_
        refine r_ireti ?_
        obtain ⟨v2110, hv2110⟩ : ∃ v, gI g0 1 0 = v := ⟨_, rfl⟩
        have rv2110 := RgF.at hI0.2.1 (p := 1) (b := 0) rfl
        rw [hv2110] at rv2110
        dsimp only at rv2110
        have tv2110 := congrArg Int32.toInt hv2110
        obtain ⟨v2112, hv2112⟩ : ∃ v, gI g0 1 12 = v := ⟨_, rfl⟩
        have rv2112 := RgF.at hI0.2.1 (p := 1) (b := 12) rfl
        rw [hv2112] at rv2112
        dsimp only at rv2112
        have tv2112 := congrArg Int32.toInt hv2112
        obtain ⟨v2114, hv2114⟩ : ∃ v, gI g0 1 10 = v := ⟨_, rfl⟩
        have tv2114 := congrArg Int32.toInt hv2114
        obtain ⟨v2116, hv2116⟩ : ∃ v, gI g0 1 11 = v := ⟨_, rfl⟩
        have tv2116 := congrArg Int32.toInt hv2116
        obtain ⟨v2118, hv2118⟩ : ∃ v, gI g0 1 6 = v := ⟨_, rfl⟩
        have rv2118 := RgF.at hI0.2.1 (p := 1) (b := 6) rfl
        rw [hv2118] at rv2118
        dsimp only at rv2118
        have tv2118 := congrArg Int32.toInt hv2118
        obtain ⟨v2120, hv2120⟩ : ∃ v, gI g0 1 9 = v := ⟨_, rfl⟩
        have tv2120 := congrArg Int32.toInt hv2120
        obtain ⟨v2122, hv2122⟩ : ∃ v, gI g0 59 0 = v := ⟨_, rfl⟩
        have rv2122 := RgF.at hI0.2.1 (p := 59) (b := 0) rfl
        rw [hv2122] at rv2122
        dsimp only at rv2122
        have tv2122 := congrArg Int32.toInt hv2122
        obtain ⟨v2124, hv2124⟩ : ∃ v, gI g0 59 12 = v := ⟨_, rfl⟩
        have rv2124 := RgF.at hI0.2.1 (p := 59) (b := 12) rfl
        rw [hv2124] at rv2124
        dsimp only at rv2124
        have tv2124 := congrArg Int32.toInt hv2124
        obtain ⟨v2126, hv2126⟩ : ∃ v, gI g0 59 10 = v := ⟨_, rfl⟩
        have tv2126 := congrArg Int32.toInt hv2126
        obtain ⟨v2128, hv2128⟩ : ∃ v, gI g0 59 11 = v := ⟨_, rfl⟩
        have tv2128 := congrArg Int32.toInt hv2128
        obtain ⟨v2130, hv2130⟩ : ∃ v, gI g0 59 6 = v := ⟨_, rfl⟩
        have rv2130 := RgF.at hI0.2.1 (p := 59) (b := 6) rfl
        rw [hv2130] at rv2130
        dsimp only at rv2130
        have tv2130 := congrArg Int32.toInt hv2130
        obtain ⟨v2132, hv2132⟩ : ∃ v, gI g0 59 9 = v := ⟨_, rfl⟩
        have tv2132 := congrArg Int32.toInt hv2132
        obtain ⟨v2134, hv2134⟩ : ∃ v, gI g0 116 0 = v := ⟨_, rfl⟩
        have rv2134 := RgF.at hI0.2.1 (p := 116) (b := 0) rfl
        rw [hv2134] at rv2134
        dsimp only at rv2134
        have tv2134 := congrArg Int32.toInt hv2134
        obtain ⟨v2136, hv2136⟩ : ∃ v, gI g0 116 12 = v := ⟨_, rfl⟩
        have rv2136 := RgF.at hI0.2.1 (p := 116) (b := 12) rfl
        rw [hv2136] at rv2136
        dsimp only at rv2136
        have tv2136 := congrArg Int32.toInt hv2136
        obtain ⟨v2138, hv2138⟩ : ∃ v, gI g0 116 10 = v := ⟨_, rfl⟩
        have tv2138 := congrArg Int32.toInt hv2138
        obtain ⟨v2140, hv2140⟩ : ∃ v, gI g0 116 11 = v := ⟨_, rfl⟩
        have tv2140 := congrArg Int32.toInt hv2140
        obtain ⟨v2142, hv2142⟩ : ∃ v, gI g0 116 6 = v := ⟨_, rfl⟩
        have rv2142 := RgF.at hI0.2.1 (p := 116) (b := 6) rfl
        rw [hv2142] at rv2142
        dsimp only at rv2142
        have tv2142 := congrArg Int32.toInt hv2142
        obtain ⟨v2144, hv2144⟩ : ∃ v, gI g0 116 9 = v := ⟨_, rfl⟩
        have tv2144 := congrArg Int32.toInt hv2144
        obtain ⟨v2146, hv2146⟩ : ∃ v, eA g0 173 0 = v := ⟨_, rfl⟩
        have tv2146 := congrArg Int32.toInt hv2146
        have x2147 := HI.eqA hI0 (p := 173) (j := 0) (hv2146)
        obtain ⟨v2148, hv2148⟩ : ∃ v, eA g0 173 1 = v := ⟨_, rfl⟩
        have tv2148 := congrArg Int32.toInt hv2148
        have x2149 := HI.eqA hI0 (p := 173) (j := 1) (hv2148)
        have y2150 : (eA g0 173 1).toInt = v1789.toInt := by rw [← hv1789, show a1.toInt = 1 by omega]
        have y2151 : a1.toInt = 1 → (eA g0 173 1).toInt = v1789.toInt := fun e => by rw [← hv1789, e]
        have e : a1.toInt = 1 := by omega
        have z2152 := HI.eqI hI2104 (p := 1) (b := 0) (((hF2105.1 1 0 mf_X10_refused_0_1_0).trans hv2110))
        have z2153 := HI.eqI hI2104 (p := 1) (b := 12) (((hF2105.1 1 12 mf_X10_refused_0_1_12).trans hv2112))
        have z2154 := HI.eqI hI2104 (p := 1) (b := 10) (((hF2105.1 1 10 mf_X10_refused_0_1_10).trans hv2114))
        have z2155 := HI.eqI hI2104 (p := 1) (b := 11) (((hF2105.1 1 11 mf_X10_refused_0_1_11).trans hv2116))
        have z2156 := HI.eqI hI2104 (p := 1) (b := 6) (((hF2105.1 1 6 mf_X10_refused_0_1_6).trans hv2118))
        have z2157 := HI.eqI hI2104 (p := 1) (b := 9) (((hF2105.1 1 9 mf_X10_refused_0_1_9).trans hv2120))
        exact ⟨_, rfl, hI2104, hF2108, _, rfl, by omega, ⟨by omega, by omega, by omega, by omega, by omega⟩⟩
