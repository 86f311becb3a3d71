def F_X10_back_0 : List (Nat × Nat) := [(0, 14), (0, 17), (1, 0), (1, 4), (1, 6), (1, 9), (1, 10), (1, 11), (1, 12), (7, 0), (7, 3), (7, 4), (16, 0), (16, 3), (16, 4), (23, 0), (23, 3), (23, 4), (30, 0), (30, 3), (30, 4), (37, 0), (37, 3), (37, 4), (44, 0), (44, 3), (44, 4), (51, 0), (51, 3), (51, 4), (65, 0), (65, 3), (65, 4), (74, 0), (74, 3), (74, 4), (81, 0), (81, 3), (81, 4), (88, 0), (88, 3), (88, 4), (95, 0), (95, 3), (95, 4), (102, 0), (102, 3), (102, 4), (109, 0), (109, 3), (109, 4), (122, 0), (122, 3), (122, 4), (131, 0), (131, 3), (131, 4), (138, 0), (138, 3), (138, 4), (145, 0), (145, 3), (145, 4), (152, 0), (152, 3), (152, 4), (159, 0), (159, 3), (159, 4), (166, 0), (166, 3), (166, 4), (177, 0), (177, 3), (177, 4), (220, 2), (222, 2), (223, 5), (223, 10)]
def A_X10_back_0 : List Nat := [2, 3, 4, 5, 8, 9, 10, 11, 12, 13, 14, 15, 17, 18, 19, 20, 21, 22, 24, 25, 26, 27, 28, 29, 31, 32, 33, 34, 35, 36, 38, 39, 40, 41, 42, 43, 45, 46, 47, 48, 49, 50, 52, 53, 54, 55, 56, 57, 66, 67, 68, 69, 70, 71, 75, 76, 77, 78, 79, 80, 82, 83, 84, 85, 86, 87, 89, 90, 91, 92, 93, 94, 96, 97, 98, 99, 100, 101, 103, 104, 105, 106, 107, 108, 110, 111, 112, 113, 114, 115, 123, 124, 125, 126, 127, 128, 132, 133, 134, 135, 136, 137, 139, 140, 141, 142, 143, 144, 146, 147, 148, 149, 150, 151, 153, 154, 155, 156, 157, 158, 160, 161, 162, 163, 164, 165, 167, 168, 169, 170, 171, 172, 178, 179, 180, 181, 182, 183, 230]
set_option maxRecDepth 100000 in
set_option maxHeartbeats 4000000 in
theorem T_X10_back_0 (d : Nat) {N : Nat} {g0 : List en_E} (hI0 : HI g0) (a1 : Int32) : Ev (d + 3) 141 [.ref 0, .int a1] (g0, N) (fun w h' => ∃ g', h' = (g', N) ∧ HI g' ∧ Fr F_X10_back_0 A_X10_back_0 g0 g' ∧ ∃ r : Int32, w = some (.int r) ∧ ((-2) ≤ r.toInt ∧ r.toInt ≤ 0) ∧ (((a1.toInt = 0 ∧ (eA g0 173 0).toInt ≠ 0 → r.toInt = 0 ∧ (gI g' 1 0).toInt = (gI g0 59 0).toInt ∧ (gI g' 1 12).toInt = (gI g0 59 12).toInt ∧ (gI g' 1 10).toInt = (gI g0 59 10).toInt ∧ (gI g' 1 11).toInt = (gI g0 59 11).toInt) ∧ (a1.toInt = 1 ∧ (eA g0 173 1).toInt ≠ 0 → r.toInt = 0 ∧ (gI g' 1 0).toInt = (gI g0 116 0).toInt ∧ (gI g' 1 12).toInt = (gI g0 116 12).toInt ∧ (gI g' 1 10).toInt = (gI g0 116 10).toInt ∧ (gI g' 1 11).toInt = (gI g0 116 11).toInt) ∧ (¬ (a1.toInt = 0 ∧ (eA g0 173 0).toInt ≠ 0) ∧ ¬ (a1.toInt = 1 ∧ (eA g0 173 1).toInt ≠ 0) → (gI g' 1 0).toInt = (gI g0 1 0).toInt ∧ (gI g' 1 12).toInt = (gI g0 1 12).toInt ∧ (gI g' 1 10).toInt = (gI g0 1 10).toInt ∧ (gI g' 1 11).toInt = (gI g0 1 11).toInt) ∧ (a1.toInt < 0 ∨ 1 < a1.toInt → r.toInt = -1) ∧ (0 ≤ a1.toInt ∧ a1.toInt ≤ 1 ∧ ¬ (a1.toInt = 0 ∧ (eA g0 173 0).toInt ≠ 0) ∧ ¬ (a1.toInt = 1 ∧ (eA g0 173 1).toInt ≠ 0) → r.toInt = -2)) ∧ (∀ i : Int, 0 ≤ i → i < 12 → (eA g' 2 (i)).toInt = if a1.toInt = 0 ∧ (eA g0 173 0).toInt ≠ 0 then (eA g0 60 (i)).toInt else if a1.toInt = 1 ∧ (eA g0 173 1).toInt ≠ 0 then (eA g0 117 (i)).toInt else (eA g0 2 (i)).toInt) ∧ (∀ i : Int, 0 ≤ i → i < 12 → (eA g' 3 (i)).toInt = if a1.toInt = 0 ∧ (eA g0 173 0).toInt ≠ 0 then (eA g0 61 (i)).toInt else if a1.toInt = 1 ∧ (eA g0 173 1).toInt ≠ 0 then (eA g0 118 (i)).toInt else (eA g0 3 (i)).toInt) ∧ (∀ i : Int, 0 ≤ i → i < 12 → (eA g' 4 (i)).toInt = if a1.toInt = 0 ∧ (eA g0 173 0).toInt ≠ 0 then (eA g0 62 (i)).toInt else if a1.toInt = 1 ∧ (eA g0 173 1).toInt ≠ 0 then (eA g0 119 (i)).toInt else (eA g0 4 (i)).toInt) ∧ (∀ i : Int, 0 ≤ i → i < 8 → (eA g' 14 (i)).toInt = if a1.toInt = 0 ∧ (eA g0 173 0).toInt ≠ 0 then (eA g0 72 (i)).toInt else if a1.toInt = 1 ∧ (eA g0 173 1).toInt ≠ 0 then (eA g0 129 (i)).toInt else (eA g0 14 (i)).toInt) ∧ (∀ i : Int, 0 ≤ i → i < 8 → (eA g' 15 (i)).toInt = if a1.toInt = 0 ∧ (eA g0 173 0).toInt ≠ 0 then (eA g0 73 (i)).toInt else if a1.toInt = 1 ∧ (eA g0 173 1).toInt ≠ 0 then (eA g0 130 (i)).toInt else (eA g0 15 (i)).toInt))) := by
  have hF0 : Fr F_X10_back_0 A_X10_back_0 g0 g0 := Fr.rf
  refine Ev.mk rfl rfl ⟨Nat.le_of_ble_eq_true rfl, Or.inr (q_rc hI0.1 kx_0 rfl)⟩ ?_
  show At _ none _ _ (0, [(0, .ref 0), (1, .int a1)], [], (_, _)) _
  refine At.enter rfl ?_
  refine r_aload_n rfl ?_
  refine r_iload_n rfl ?_
  refine q_inlV 5 rfl [.ref 0, .int a1] [] (Nat.le_of_ble_eq_true rfl) rfl ?_
  refine Ev.mk rfl rfl ⟨Nat.le_of_ble_eq_true rfl, Or.inr (q_rc hI0.1 kx_0 rfl)⟩ ?_
  show At _ none _ _ (0, [(0, .ref 0), (1, .int a1)], [], (_, _)) _
  refine At.enter rfl ?_
  refine r_iload_n rfl ?_
  refine r_iconst 0 rfl ?_
  refine r_iconst 1 rfl ?_
  refine q_inlS 6 rfl [.int a1, .int 0, .int 1] [] (Nat.le_of_ble_eq_true rfl) rfl ?_
  refine Ev.mk rfl rfl ⟨Nat.le_of_ble_eq_true rfl, Or.inl rfl⟩ ?_
  show At _ none _ _ (0, [(0, .int a1), (1, .int 0), (2, .int 1)], [], (_, _)) _
  refine At.enter rfl ?_
  refine r_iload_n rfl ?_
  refine r_iload_n rfl ?_
  refine r_ics 5 rfl (fun c1323 => ?_) (fun c1323 => ?_)
  · have c1323_ : a1.toInt < 0 := en_i_lt_t c1323
    refine At.enter rfl ?_
    refine r_iconst 0 rfl ?_
    refine Ar.fall 15 rfl ?_
    refine At.enter rfl ?_
    refine q_iretz (by decide) ?_
    refine At.enter rfl ?_
    refine r_ift (by decide) ?_
    refine At.enter rfl ?_
    refine r_null ?_
    refine Ar.fall 19 rfl ?_
    refine At.enter rfl ?_
    refine q_zret ?_
    refine At.enter rfl ?_
    refine r_zstore_n ([(2, .null), (0, .ref 0), (1, .int a1)]) rfl ?_
    refine r_zload_n rfl ?_
    refine r_nnz 10 rfl ?_
    refine At.enter rfl ?_
    refine r_aload_n rfl ?_
    refine r_iconst (-1) rfl ?_
    refine r_callV 15 rfl [.ref 0, .int (-1)] [] (Nat.le_of_ble_eq_true rfl) rfl (T_X10_refused_0 _ hI0 (-1) (by decide)) ?_
    rintro _ _ ⟨g1324, rfl, hI1325, hF1326, v1327, rfl, hr1328⟩
    refine At.sti ?_
    have hF1329 := Fr.tr hF0 hF1326 rfl rfl
    have zv1330 : ((-1) : Int32).toInt = (-1) := rfl
    refine At.enter rfl ?_
    refine r_ireti ?_
    obtain ⟨v1331, hv1331⟩ : ∃ v, gI g0 1 0 = v := ⟨_, rfl⟩
    have rv1331 := RgF.at hI0.2.1 (p := 1) (b := 0) rfl
    rw [hv1331] at rv1331
    dsimp only at rv1331
    have tv1331 := congrArg Int32.toInt hv1331
    have x1332 := HI.eqI hI0 (p := 1) (b := 0) (hv1331)
    obtain ⟨v1333, hv1333⟩ : ∃ v, gI g0 1 12 = v := ⟨_, rfl⟩
    have rv1333 := RgF.at hI0.2.1 (p := 1) (b := 12) rfl
    rw [hv1333] at rv1333
    dsimp only at rv1333
    have tv1333 := congrArg Int32.toInt hv1333
    have x1334 := HI.eqI hI0 (p := 1) (b := 12) (hv1333)
    obtain ⟨v1335, hv1335⟩ : ∃ v, gI g0 1 10 = v := ⟨_, rfl⟩
    have tv1335 := congrArg Int32.toInt hv1335
    have x1336 := HI.eqI hI0 (p := 1) (b := 10) (hv1335)
    obtain ⟨v1337, hv1337⟩ : ∃ v, gI g0 1 11 = v := ⟨_, rfl⟩
    have tv1337 := congrArg Int32.toInt hv1337
    have x1338 := HI.eqI hI0 (p := 1) (b := 11) (hv1337)
    obtain ⟨v1339, hv1339⟩ : ∃ v, gI g0 59 0 = v := ⟨_, rfl⟩
    have rv1339 := RgF.at hI0.2.1 (p := 59) (b := 0) rfl
    rw [hv1339] at rv1339
    dsimp only at rv1339
    have tv1339 := congrArg Int32.toInt hv1339
    have x1340 := HI.eqI hI0 (p := 59) (b := 0) (hv1339)
    obtain ⟨v1341, hv1341⟩ : ∃ v, gI g0 59 12 = v := ⟨_, rfl⟩
    have rv1341 := RgF.at hI0.2.1 (p := 59) (b := 12) rfl
    rw [hv1341] at rv1341
    dsimp only at rv1341
    have tv1341 := congrArg Int32.toInt hv1341
    have x1342 := HI.eqI hI0 (p := 59) (b := 12) (hv1341)
    obtain ⟨v1343, hv1343⟩ : ∃ v, gI g0 59 10 = v := ⟨_, rfl⟩
    have tv1343 := congrArg Int32.toInt hv1343
    have x1344 := HI.eqI hI0 (p := 59) (b := 10) (hv1343)
    obtain ⟨v1345, hv1345⟩ : ∃ v, gI g0 59 11 = v := ⟨_, rfl⟩
    have tv1345 := congrArg Int32.toInt hv1345
    have x1346 := HI.eqI hI0 (p := 59) (b := 11) (hv1345)
    obtain ⟨v1347, hv1347⟩ : ∃ v, gI g0 116 0 = v := ⟨_, rfl⟩
    have rv1347 := RgF.at hI0.2.1 (p := 116) (b := 0) rfl
    rw [hv1347] at rv1347
    dsimp only at rv1347
    have tv1347 := congrArg Int32.toInt hv1347
    have x1348 := HI.eqI hI0 (p := 116) (b := 0) (hv1347)
    obtain ⟨v1349, hv1349⟩ : ∃ v, gI g0 116 12 = v := ⟨_, rfl⟩
    have rv1349 := RgF.at hI0.2.1 (p := 116) (b := 12) rfl
    rw [hv1349] at rv1349
    dsimp only at rv1349
    have tv1349 := congrArg Int32.toInt hv1349
    have x1350 := HI.eqI hI0 (p := 116) (b := 12) (hv1349)
    obtain ⟨v1351, hv1351⟩ : ∃ v, gI g0 116 10 = v := ⟨_, rfl⟩
    have tv1351 := congrArg Int32.toInt hv1351
    have x1352 := HI.eqI hI0 (p := 116) (b := 10) (hv1351)
    obtain ⟨v1353, hv1353⟩ : ∃ v, gI g0 116 11 = v := ⟨_, rfl⟩
    have tv1353 := congrArg Int32.toInt hv1353
    have x1354 := HI.eqI hI0 (p := 116) (b := 11) (hv1353)
    obtain ⟨v1355, hv1355⟩ : ∃ v, eA g0 173 0 = v := ⟨_, rfl⟩
    have tv1355 := congrArg Int32.toInt hv1355
    have x1356 := HI.eqA hI0 (p := 173) (j := 0) (hv1355)
    obtain ⟨v1357, hv1357⟩ : ∃ v, eA g0 173 1 = v := ⟨_, rfl⟩
    have tv1357 := congrArg Int32.toInt hv1357
    have x1358 := HI.eqA hI0 (p := 173) (j := 1) (hv1357)
    have x1359 := HI.eqI hI1325 (p := 1) (b := 0) (((hF1326.1 1 0 (by decide)).trans hv1331))
    have x1360 := HI.eqI hI1325 (p := 1) (b := 12) (((hF1326.1 1 12 (by decide)).trans hv1333))
    have x1361 := HI.eqI hI1325 (p := 1) (b := 10) (((hF1326.1 1 10 (by decide)).trans hv1335))
    have x1362 := HI.eqI hI1325 (p := 1) (b := 11) (((hF1326.1 1 11 (by decide)).trans hv1337))
    have x1363 := HI.eqA hI0 (p := 173) (j := 0) (hv1355)
    have x1364 := HI.eqA hI0 (p := 173) (j := 1) (hv1357)
    exact ⟨_, rfl, hI1325, hF1329, _, rfl, by omega, ⟨⟨by omega, by omega, by omega, by omega, by omega⟩, (by intro i i0 i1; refine Eq.trans ?_ (if_neg (show ¬ (a1.toInt = 0 ∧ (eA g0 173 0).toInt ≠ 0) from by omega)).symm; refine Eq.trans ?_ (if_neg (show ¬ (a1.toInt = 1 ∧ (eA g0 173 1).toInt ≠ 0) from by omega)).symm; refine (eA_ti ((hF1326.2.1 2 (by decide)))).trans ?_; (first | rfl | exact eA_ix (by omega) | omega)), (by intro i i0 i1; refine Eq.trans ?_ (if_neg (show ¬ (a1.toInt = 0 ∧ (eA g0 173 0).toInt ≠ 0) from by omega)).symm; refine Eq.trans ?_ (if_neg (show ¬ (a1.toInt = 1 ∧ (eA g0 173 1).toInt ≠ 0) from by omega)).symm; refine (eA_ti ((hF1326.2.1 3 (by decide)))).trans ?_; (first | rfl | exact eA_ix (by omega) | omega)), (by intro i i0 i1; refine Eq.trans ?_ (if_neg (show ¬ (a1.toInt = 0 ∧ (eA g0 173 0).toInt ≠ 0) from by omega)).symm; refine Eq.trans ?_ (if_neg (show ¬ (a1.toInt = 1 ∧ (eA g0 173 1).toInt ≠ 0) from by omega)).symm; refine (eA_ti ((hF1326.2.1 4 (by decide)))).trans ?_; (first | rfl | exact eA_ix (by omega) | omega)), (by intro i i0 i1; refine Eq.trans ?_ (if_neg (show ¬ (a1.toInt = 0 ∧ (eA g0 173 0).toInt ≠ 0) from by omega)).symm; refine Eq.trans ?_ (if_neg (show ¬ (a1.toInt = 1 ∧ (eA g0 173 1).toInt ≠ 0) from by omega)).symm; refine (eA_ti ((hF1326.2.1 14 (by decide)))).trans ?_; (first | rfl | exact eA_ix (by omega) | omega)), (by intro i i0 i1; refine Eq.trans ?_ (if_neg (show ¬ (a1.toInt = 0 ∧ (eA g0 173 0).toInt ≠ 0) from by omega)).symm; refine Eq.trans ?_ (if_neg (show ¬ (a1.toInt = 1 ∧ (eA g0 173 1).toInt ≠ 0) from by omega)).symm; refine (eA_ti ((hF1326.2.1 15 (by decide)))).trans ?_; (first | rfl | exact eA_ix (by omega) | omega))⟩⟩
  · have c1323_ : a1.toInt ≥ 0 := en_i_lt_f c1323
    refine At.enter rfl ?_
    refine r_iload_n rfl ?_
    refine r_iload_n rfl ?_
    refine r_ics 10 rfl (fun c1365 => ?_) (fun c1365 => ?_)
    · have c1365_ : a1.toInt > 1 := en_i_gt_t c1365
      refine At.enter rfl ?_
      refine r_iconst 0 rfl ?_
      refine Ar.fall 15 rfl ?_
      refine At.enter rfl ?_
      refine q_iretz (by decide) ?_
      refine At.enter rfl ?_
      refine r_ift (by decide) ?_
      refine At.enter rfl ?_
      refine r_null ?_
      refine Ar.fall 19 rfl ?_
      refine At.enter rfl ?_
      refine q_zret ?_
      refine At.enter rfl ?_
      refine r_zstore_n ([(2, .null), (0, .ref 0), (1, .int a1)]) rfl ?_
      refine r_zload_n rfl ?_
      refine r_nnz 10 rfl ?_
      refine At.enter rfl ?_
      refine r_aload_n rfl ?_
      refine r_iconst (-1) rfl ?_
      refine r_callV 15 rfl [.ref 0, .int (-1)] [] (Nat.le_of_ble_eq_true rfl) rfl (T_X10_refused_0 _ hI0 (-1) (by decide)) ?_
      rintro _ _ ⟨g1366, rfl, hI1367, hF1368, v1369, rfl, hr1370⟩
      refine At.sti ?_
      have hF1371 := Fr.tr hF0 hF1368 rfl rfl
      have zv1372 : ((-1) : Int32).toInt = (-1) := rfl
      refine At.enter rfl ?_
      refine r_ireti ?_
      obtain ⟨v1373, hv1373⟩ : ∃ v, gI g0 1 0 = v := ⟨_, rfl⟩
      have rv1373 := RgF.at hI0.2.1 (p := 1) (b := 0) rfl
      rw [hv1373] at rv1373
      dsimp only at rv1373
      have tv1373 := congrArg Int32.toInt hv1373
      have x1374 := HI.eqI hI0 (p := 1) (b := 0) (hv1373)
      obtain ⟨v1375, hv1375⟩ : ∃ v, gI g0 1 12 = v := ⟨_, rfl⟩
      have rv1375 := RgF.at hI0.2.1 (p := 1) (b := 12) rfl
      rw [hv1375] at rv1375
      dsimp only at rv1375
      have tv1375 := congrArg Int32.toInt hv1375
      have x1376 := HI.eqI hI0 (p := 1) (b := 12) (hv1375)
      obtain ⟨v1377, hv1377⟩ : ∃ v, gI g0 1 10 = v := ⟨_, rfl⟩
      have tv1377 := congrArg Int32.toInt hv1377
      have x1378 := HI.eqI hI0 (p := 1) (b := 10) (hv1377)
      obtain ⟨v1379, hv1379⟩ : ∃ v, gI g0 1 11 = v := ⟨_, rfl⟩
      have tv1379 := congrArg Int32.toInt hv1379
      have x1380 := HI.eqI hI0 (p := 1) (b := 11) (hv1379)
      obtain ⟨v1381, hv1381⟩ : ∃ v, gI g0 59 0 = v := ⟨_, rfl⟩
      have rv1381 := RgF.at hI0.2.1 (p := 59) (b := 0) rfl
      rw [hv1381] at rv1381
      dsimp only at rv1381
      have tv1381 := congrArg Int32.toInt hv1381
      have x1382 := HI.eqI hI0 (p := 59) (b := 0) (hv1381)
      obtain ⟨v1383, hv1383⟩ : ∃ v, gI g0 59 12 = v := ⟨_, rfl⟩
      have rv1383 := RgF.at hI0.2.1 (p := 59) (b := 12) rfl
      rw [hv1383] at rv1383
      dsimp only at rv1383
      have tv1383 := congrArg Int32.toInt hv1383
      have x1384 := HI.eqI hI0 (p := 59) (b := 12) (hv1383)
      obtain ⟨v1385, hv1385⟩ : ∃ v, gI g0 59 10 = v := ⟨_, rfl⟩
      have tv1385 := congrArg Int32.toInt hv1385
      have x1386 := HI.eqI hI0 (p := 59) (b := 10) (hv1385)
      obtain ⟨v1387, hv1387⟩ : ∃ v, gI g0 59 11 = v := ⟨_, rfl⟩
      have tv1387 := congrArg Int32.toInt hv1387
      have x1388 := HI.eqI hI0 (p := 59) (b := 11) (hv1387)
      obtain ⟨v1389, hv1389⟩ : ∃ v, gI g0 116 0 = v := ⟨_, rfl⟩
      have rv1389 := RgF.at hI0.2.1 (p := 116) (b := 0) rfl
      rw [hv1389] at rv1389
      dsimp only at rv1389
      have tv1389 := congrArg Int32.toInt hv1389
      have x1390 := HI.eqI hI0 (p := 116) (b := 0) (hv1389)
      obtain ⟨v1391, hv1391⟩ : ∃ v, gI g0 116 12 = v := ⟨_, rfl⟩
      have rv1391 := RgF.at hI0.2.1 (p := 116) (b := 12) rfl
      rw [hv1391] at rv1391
      dsimp only at rv1391
      have tv1391 := congrArg Int32.toInt hv1391
      have x1392 := HI.eqI hI0 (p := 116) (b := 12) (hv1391)
      obtain ⟨v1393, hv1393⟩ : ∃ v, gI g0 116 10 = v := ⟨_, rfl⟩
      have tv1393 := congrArg Int32.toInt hv1393
      have x1394 := HI.eqI hI0 (p := 116) (b := 10) (hv1393)
      obtain ⟨v1395, hv1395⟩ : ∃ v, gI g0 116 11 = v := ⟨_, rfl⟩
      have tv1395 := congrArg Int32.toInt hv1395
      have x1396 := HI.eqI hI0 (p := 116) (b := 11) (hv1395)
      obtain ⟨v1397, hv1397⟩ : ∃ v, eA g0 173 0 = v := ⟨_, rfl⟩
      have tv1397 := congrArg Int32.toInt hv1397
      have x1398 := HI.eqA hI0 (p := 173) (j := 0) (hv1397)
      obtain ⟨v1399, hv1399⟩ : ∃ v, eA g0 173 1 = v := ⟨_, rfl⟩
      have tv1399 := congrArg Int32.toInt hv1399
      have x1400 := HI.eqA hI0 (p := 173) (j := 1) (hv1399)
      have x1401 := HI.eqI hI1367 (p := 1) (b := 0) (((hF1368.1 1 0 (by decide)).trans hv1373))
      have x1402 := HI.eqI hI1367 (p := 1) (b := 12) (((hF1368.1 1 12 (by decide)).trans hv1375))
      have x1403 := HI.eqI hI1367 (p := 1) (b := 10) (((hF1368.1 1 10 (by decide)).trans hv1377))
      have x1404 := HI.eqI hI1367 (p := 1) (b := 11) (((hF1368.1 1 11 (by decide)).trans hv1379))
      have x1405 := HI.eqA hI0 (p := 173) (j := 0) (hv1397)
      have x1406 := HI.eqA hI0 (p := 173) (j := 1) (hv1399)
      exact ⟨_, rfl, hI1367, hF1371, _, rfl, by omega, ⟨⟨by omega, by omega, by omega, by omega, by omega⟩, (by intro i i0 i1; refine Eq.trans ?_ (if_neg (show ¬ (a1.toInt = 0 ∧ (eA g0 173 0).toInt ≠ 0) from by omega)).symm; refine Eq.trans ?_ (if_neg (show ¬ (a1.toInt = 1 ∧ (eA g0 173 1).toInt ≠ 0) from by omega)).symm; refine (eA_ti ((hF1368.2.1 2 (by decide)))).trans ?_; (first | rfl | exact eA_ix (by omega) | omega)), (by intro i i0 i1; refine Eq.trans ?_ (if_neg (show ¬ (a1.toInt = 0 ∧ (eA g0 173 0).toInt ≠ 0) from by omega)).symm; refine Eq.trans ?_ (if_neg (show ¬ (a1.toInt = 1 ∧ (eA g0 173 1).toInt ≠ 0) from by omega)).symm; refine (eA_ti ((hF1368.2.1 3 (by decide)))).trans ?_; (first | rfl | exact eA_ix (by omega) | omega)), (by intro i i0 i1; refine Eq.trans ?_ (if_neg (show ¬ (a1.toInt = 0 ∧ (eA g0 173 0).toInt ≠ 0) from by omega)).symm; refine Eq.trans ?_ (if_neg (show ¬ (a1.toInt = 1 ∧ (eA g0 173 1).toInt ≠ 0) from by omega)).symm; refine (eA_ti ((hF1368.2.1 4 (by decide)))).trans ?_; (first | rfl | exact eA_ix (by omega) | omega)), (by intro i i0 i1; refine Eq.trans ?_ (if_neg (show ¬ (a1.toInt = 0 ∧ (eA g0 173 0).toInt ≠ 0) from by omega)).symm; refine Eq.trans ?_ (if_neg (show ¬ (a1.toInt = 1 ∧ (eA g0 173 1).toInt ≠ 0) from by omega)).symm; refine (eA_ti ((hF1368.2.1 14 (by decide)))).trans ?_; (first | rfl | exact eA_ix (by omega) | omega)), (by intro i i0 i1; refine Eq.trans ?_ (if_neg (show ¬ (a1.toInt = 0 ∧ (eA g0 173 0).toInt ≠ 0) from by omega)).symm; refine Eq.trans ?_ (if_neg (show ¬ (a1.toInt = 1 ∧ (eA g0 173 1).toInt ≠ 0) from by omega)).symm; refine (eA_ti ((hF1368.2.1 15 (by decide)))).trans ?_; (first | rfl | exact eA_ix (by omega) | omega))⟩⟩
    · have c1365_ : a1.toInt ≤ 1 := en_i_gt_f c1365
      refine At.enter rfl ?_
      refine r_iconst 1 rfl ?_
      refine r_goto ?_
      refine At.enter rfl ?_
      refine q_iretz (by decide) ?_
      refine At.enter rfl ?_
      refine r_iff 9 rfl (by decide) ?_
      refine At.enter rfl ?_
      refine r_aload_n rfl ?_
      refine q_getR (Sh.ref hI0.1 kx_0 rfl) ?_
      refine r_iload_n rfl ?_
      by_cases c1407_0 : a1.toInt = 0
      · refine q_aald (Sh.rar hI0.1 ka_58) (by decide) 0 (by omega) (by decide) (some 59) rfl ?_
        refine r_goto ?_
        refine At.enter rfl ?_
        refine q_aret ?_
        refine At.enter rfl ?_
        refine r_astore_n ([(2, .ref 59), (0, .ref 0), (1, .int a1)]) rfl ?_
        refine r_aload_n rfl ?_
        refine r_nnr ?_
        refine At.enter rfl ?_
        refine r_aload_n rfl ?_
        refine q_getR (Sh.ref hI0.1 kx_0 rfl) ?_
        refine r_iload_n rfl ?_
        obtain ⟨v1408, hv1408⟩ : ∃ v, eA g0 173 a1.toInt = v := ⟨_, rfl⟩
        refine q_bald (Sh.arr hI0.1 ka_173) a1.toInt rfl (by omega) v1408 hv1408 ?_
        refine r_ifs 25 rfl (fun c1409 => ?_) (fun c1409 => ?_)
        · have c1409_ : v1408.toInt ≠ 0 := en_k_ne_t c1409
          refine At.enter rfl ?_
          refine r_aload_n rfl ?_
          refine q_getR (Sh.ref hI0.1 kx_0 rfl) ?_
          refine r_aload_n rfl ?_
          refine q_inlV 40 rfl [.ref 1, .ref 59] [] (Nat.le_of_ble_eq_true rfl) rfl ?_
          refine Ev.mk rfl rfl ⟨Nat.le_of_ble_eq_true rfl, Or.inr (q_rc hI0.1 kx_1 rfl)⟩ ?_
          show At _ none _ _ (0, [(0, .ref 1), (1, .ref 59)], [], (_, _)) _
          refine At.enter rfl ?_
          refine r_aload_n rfl ?_
          refine r_aload_n rfl ?_
          obtain ⟨v1410, hv1410⟩ : ∃ v, gI g0 59 0 = v := ⟨_, rfl⟩
          have rv1410 := RgF.at hI0.2.1 (p := 59) (b := 0) rfl
          rw [hv1410] at rv1410
          dsimp only at rv1410
          refine q_getI (Sh.int hI0.1 kx_59 rfl) v1410 hv1410 ?_
          refine q_putI (Sh.int hI0.1 kx_1 rfl) rfl ?_
          have hI1411 := HI.wI1 hI0 kx_1 rfl (p := 1) (b := 0) (v := v1410) rfl (by dsimp only; omega)
          have hF1412 := Fr.wI (p := 1) (b := 0) (v := v1410) hF0 rfl
          refine r_aload_n rfl ?_
          refine q_getR (Sh.ref hI1411.1 kx_59 rfl) ?_
          refine r_iconst 0 rfl ?_
          refine r_aload_n rfl ?_
          refine q_getR (Sh.ref hI1411.1 kx_1 rfl) ?_
          refine r_iconst 0 rfl ?_
          refine r_bipush 12 rfl ?_
          have zv1413 : (0 : Int32).toInt = 0 := rfl
          have zv1414 : (0 : Int32).toInt = 0 := rfl
          have zv1415 : (12 : Int32).toInt = 12 := rfl
          refine q_cpy rfl (Nat.le_of_ble_eq_true rfl) (Sh.arr hI1411.1 ka_60) (Sh.arr hI1411.1 ka_2) ⟨by omega, by omega, by omega, by omega, by omega⟩ ?_
          have hI1416 := HI.cpy0 hI1411 ka_60 ka_2 rfl rfl ((0 : Int32).toInt.toNat) ((0 : Int32).toInt.toNat) ((12 : Int32).toInt.toNat) (by omega) (by omega)
          have hF1417 := Fr.cpy (p0 := 60) (p1 := 2) hF1412 rfl ((0 : Int32).toInt.toNat) ((0 : Int32).toInt.toNat) ((12 : Int32).toInt.toNat)
          refine r_aload_n rfl ?_
          refine q_getR (Sh.ref hI1416.1 kx_59 rfl) ?_
          refine r_iconst 0 rfl ?_
          refine r_aload_n rfl ?_
          refine q_getR (Sh.ref hI1416.1 kx_1 rfl) ?_
          refine r_iconst 0 rfl ?_
          refine r_bipush 12 rfl ?_
          have zv1418 : (0 : Int32).toInt = 0 := rfl
          have zv1419 : (0 : Int32).toInt = 0 := rfl
          have zv1420 : (12 : Int32).toInt = 12 := rfl
          refine q_cpy rfl (Nat.le_of_ble_eq_true rfl) (Sh.arr hI1416.1 ka_61) (Sh.arr hI1416.1 ka_3) ⟨by omega, by omega, by omega, by omega, by omega⟩ ?_
          have hI1421 := HI.cpy0 hI1416 ka_61 ka_3 rfl rfl ((0 : Int32).toInt.toNat) ((0 : Int32).toInt.toNat) ((12 : Int32).toInt.toNat) (by omega) (by omega)
          have hF1422 := Fr.cpy (p0 := 61) (p1 := 3) hF1417 rfl ((0 : Int32).toInt.toNat) ((0 : Int32).toInt.toNat) ((12 : Int32).toInt.toNat)
          refine r_aload_n rfl ?_
          refine q_getR (Sh.ref hI1421.1 kx_59 rfl) ?_
          refine r_iconst 0 rfl ?_
          refine r_aload_n rfl ?_
          refine q_getR (Sh.ref hI1421.1 kx_1 rfl) ?_
          refine r_iconst 0 rfl ?_
          refine r_bipush 12 rfl ?_
          have zv1423 : (0 : Int32).toInt = 0 := rfl
          have zv1424 : (0 : Int32).toInt = 0 := rfl
          have zv1425 : (12 : Int32).toInt = 12 := rfl
          refine q_cpy rfl (Nat.le_of_ble_eq_true rfl) (Sh.arr hI1421.1 ka_62) (Sh.arr hI1421.1 ka_4) ⟨by omega, by omega, by omega, by omega, by omega⟩ ?_
          have hI1426 := HI.cpy0 hI1421 ka_62 ka_4 rfl rfl ((0 : Int32).toInt.toNat) ((0 : Int32).toInt.toNat) ((12 : Int32).toInt.toNat) (by omega) (by omega)
          have hF1427 := Fr.cpy (p0 := 62) (p1 := 4) hF1422 rfl ((0 : Int32).toInt.toNat) ((0 : Int32).toInt.toNat) ((12 : Int32).toInt.toNat)
          refine r_aload_n rfl ?_
          refine r_aload_n rfl ?_
          obtain ⟨v1428, hv1428⟩ : ∃ v, gI g0 59 4 = v := ⟨_, rfl⟩
          have rv1428 := RgF.at hI0.2.1 (p := 59) (b := 4) rfl
          rw [hv1428] at rv1428
          dsimp only at rv1428
          refine q_getI (Sh.int hI1426.1 kx_59 rfl) v1428 (((gI_sW).trans ((gI_sW).trans ((gI_sW).trans (gI_sI_ne (by decide))))).trans hv1428) ?_
          refine q_putI (Sh.int hI1426.1 kx_1 rfl) rfl ?_
          have hI1429 := HI.wI1 hI1426 kx_1 rfl (p := 1) (b := 4) (v := v1428) rfl (by dsimp only; omega)
          have hF1430 := Fr.wI (p := 1) (b := 4) (v := v1428) hF1427 rfl
          refine r_aload_n rfl ?_
          refine q_getR (Sh.ref hI1429.1 kx_59 rfl) ?_
          refine r_iconst 0 rfl ?_
          refine r_aload_n rfl ?_
          refine q_getR (Sh.ref hI1429.1 kx_1 rfl) ?_
          refine r_iconst 0 rfl ?_
          refine r_bipush 48 rfl ?_
          have zv1431 : (0 : Int32).toInt = 0 := rfl
          have zv1432 : (0 : Int32).toInt = 0 := rfl
          have zv1433 : (48 : Int32).toInt = 48 := rfl
          refine q_cpy rfl (Nat.le_of_ble_eq_true rfl) (Sh.arr hI1429.1 ka_63) (Sh.arr hI1429.1 ka_5) ⟨by omega, by omega, by omega, by omega, by omega⟩ ?_
          have hI1434 := HI.cpy0 hI1429 ka_63 ka_5 rfl rfl ((0 : Int32).toInt.toNat) ((0 : Int32).toInt.toNat) ((48 : Int32).toInt.toNat) (by omega) (by omega)
          have hF1435 := Fr.cpy (p0 := 63) (p1 := 5) hF1430 rfl ((0 : Int32).toInt.toNat) ((0 : Int32).toInt.toNat) ((48 : Int32).toInt.toNat)
          refine r_aload_n rfl ?_
          refine r_aload_n rfl ?_
          obtain ⟨v1436, hv1436⟩ : ∃ v, gI g0 59 6 = v := ⟨_, rfl⟩
          have rv1436 := RgF.at hI0.2.1 (p := 59) (b := 6) rfl
          rw [hv1436] at rv1436
          dsimp only at rv1436
          refine q_getI (Sh.int hI1434.1 kx_59 rfl) v1436 (((gI_sW).trans ((gI_sI_ne (by decide)).trans ((gI_sW).trans ((gI_sW).trans ((gI_sW).trans (gI_sI_ne (by decide))))))).trans hv1436) ?_
          refine q_putI (Sh.int hI1434.1 kx_1 rfl) rfl ?_
          have hI1437 := HI.wI1 hI1434 kx_1 rfl (p := 1) (b := 6) (v := v1436) rfl (by dsimp only; omega)
          have hF1438 := Fr.wI (p := 1) (b := 6) (v := v1436) hF1435 rfl
          refine r_iconst 0 rfl ?_
          refine r_istore_n ([(2, .int 0), (0, .ref 1), (1, .ref 59)]) rfl ?_
          refine Ar.fall 86 rfl ?_
          have z_1670 : (0 : Int32).toInt = 0 := rfl
          refine w_loopI (fun n_ l_ g_ => ∃ x1653 : Int32, n_ = 6 - x1653.toInt ∧ HI g_ ∧ Fr F_X10_back_0 A_X10_back_0 g0 g_ ∧ gI g_ 1 0 = v1410 ∧ en_get 0 l_ = some (.ref 1) ∧ en_get 1 l_ = some (.ref 59) ∧ en_get 2 l_ = some (.int x1653) ∧ (0 ≤ x1653.toInt ∧ x1653.toInt ≤ 6) ∧ (∀ i : Int, 0 ≤ i → i < 12 → (eA g_ 2 (i)).toInt = (eA g0 60 (i)).toInt) ∧ (∀ i : Int, 0 ≤ i → i < 12 → (eA g_ 3 (i)).toInt = (eA g0 61 (i)).toInt) ∧ (∀ i : Int, 0 ≤ i → i < 12 → (eA g_ 4 (i)).toInt = (eA g0 62 (i)).toInt) ∧ (∀ i : Int, 0 ≤ i → i < 8 → (eA g_ 14 (i)).toInt = (eA g0 14 (i)).toInt) ∧ (∀ i : Int, 0 ≤ i → i < 8 → (eA g_ 15 (i)).toInt = (eA g0 15 (i)).toInt)) ?_ (6 - 0) ⟨0, by first | rfl | omega, hI1437, hF1438, ((gI_sI_ne (by decide)).trans ((gI_sW).trans ((gI_sI_ne (by decide)).trans ((gI_sW).trans ((gI_sW).trans ((gI_sW).trans (gI_sI_eq hI0.1 kx_1 rfl _))))))), rfl, rfl, rfl, by decide, (by intro i i0 i1; refine (eA_tq (((gA_sI).trans ((gA_sW_ne (by decide)).trans ((gA_sI).trans ((gA_sW_ne (by decide)).trans ((gA_sW_ne (by decide)).trans ((gA_cpF hI1411.1 ka_60 ka_2 (by decide) (by decide) (by decide)).trans (gA_sI))))))))).trans ?_; (first | rfl | exact eA_ix (by omega) | omega)), (by intro i i0 i1; refine (eA_tq (((gA_sI).trans ((gA_sW_ne (by decide)).trans ((gA_sI).trans ((gA_sW_ne (by decide)).trans ((gA_cpF hI1416.1 ka_61 ka_3 (by decide) (by decide) (by decide)).trans ((gA_sW_ne (by decide)).trans (gA_sI))))))))).trans ?_; (first | rfl | exact eA_ix (by omega) | omega)), (by intro i i0 i1; refine (eA_tq (((gA_sI).trans ((gA_sW_ne (by decide)).trans ((gA_sI).trans ((gA_cpF hI1421.1 ka_62 ka_4 (by decide) (by decide) (by decide)).trans ((gA_sW_ne (by decide)).trans ((gA_sW_ne (by decide)).trans (gA_sI))))))))).trans ?_; (first | rfl | exact eA_ix (by omega) | omega)), (by intro i i0 i1; refine (eA_ti (((gA_sI).trans ((gA_sW_ne (by decide)).trans ((gA_sI).trans ((gA_sW_ne (by decide)).trans ((gA_sW_ne (by decide)).trans ((gA_sW_ne (by decide)).trans (gA_sI))))))))).trans ?_; (first | rfl | exact eA_ix (by omega) | omega)), (by intro i i0 i1; refine (eA_ti (((gA_sI).trans ((gA_sW_ne (by decide)).trans ((gA_sI).trans ((gA_sW_ne (by decide)).trans ((gA_sW_ne (by decide)).trans ((gA_sW_ne (by decide)).trans (gA_sI))))))))).trans ?_; (first | rfl | exact eA_ix (by omega) | omega))⟩
          rintro n1658 l1657 g1654 ⟨x1653, hm1671, hI1655, hF1656, e1660, e1661, e1662, e1663, r1664, q1665, q1666, q1667, q1668, q1669⟩ ih1659
          have tv1672 := congrArg Int32.toInt e1660
          refine At.enter rfl ?_
          refine r_iload_n e1663 ?_
          refine r_bipush 6 rfl ?_
          refine r_ics 92 rfl (fun c1673 => ?_) (fun c1673 => ?_)
          · have c1673_ : x1653.toInt ≥ 6 := en_i_ge_t c1673
            refine At.enter rfl ?_
            refine r_aload_n e1661 ?_
            refine r_aload_n e1662 ?_
            obtain ⟨v1674, hv1674⟩ : ∃ v, gI g0 59 9 = v := ⟨_, rfl⟩
            refine q_getI (Sh.int hI1655.1 kx_59 rfl) v1674 ((hF1656.1 59 9 (by decide)).trans hv1674) ?_
            refine q_putI (Sh.int hI1655.1 kx_1 rfl) rfl ?_
            have hI1675 := HI.wI0 hI1655 kx_1 rfl (p := 1) (b := 9) (v := v1674) rfl
            have hF1676 := Fr.wI (p := 1) (b := 9) (v := v1674) hF1656 rfl
            refine r_aload_n e1661 ?_
            refine r_aload_n e1662 ?_
            obtain ⟨v1677, hv1677⟩ : ∃ v, gI g0 59 10 = v := ⟨_, rfl⟩
            refine q_getI (Sh.int hI1675.1 kx_59 rfl) v1677 (((gI_sI_ne (by decide)).trans (hF1656.1 59 10 (by decide))).trans hv1677) ?_
            refine q_putI (Sh.int hI1675.1 kx_1 rfl) rfl ?_
            have hI1678 := HI.wI0 hI1675 kx_1 rfl (p := 1) (b := 10) (v := v1677) rfl
            have hF1679 := Fr.wI (p := 1) (b := 10) (v := v1677) hF1676 rfl
            refine r_aload_n e1661 ?_
            refine r_aload_n e1662 ?_
            obtain ⟨v1680, hv1680⟩ : ∃ v, gI g0 59 11 = v := ⟨_, rfl⟩
            refine q_getI (Sh.int hI1678.1 kx_59 rfl) v1680 (((gI_sI_ne (by decide)).trans ((gI_sI_ne (by decide)).trans (hF1656.1 59 11 (by decide)))).trans hv1680) ?_
            refine q_putI (Sh.int hI1678.1 kx_1 rfl) rfl ?_
            have hI1681 := HI.wI0 hI1678 kx_1 rfl (p := 1) (b := 11) (v := v1680) rfl
            have hF1682 := Fr.wI (p := 1) (b := 11) (v := v1680) hF1679 rfl
            refine r_aload_n e1661 ?_
            refine r_aload_n e1662 ?_
            obtain ⟨v1683, hv1683⟩ : ∃ v, gI g0 59 12 = v := ⟨_, rfl⟩
            have rv1683 := RgF.at hI0.2.1 (p := 59) (b := 12) rfl
            rw [hv1683] at rv1683
            dsimp only at rv1683
            refine q_getI (Sh.int hI1681.1 kx_59 rfl) v1683 (((gI_sI_ne (by decide)).trans ((gI_sI_ne (by decide)).trans ((gI_sI_ne (by decide)).trans (hF1656.1 59 12 (by decide))))).trans hv1683) ?_
            refine q_putI (Sh.int hI1681.1 kx_1 rfl) rfl ?_
            have hI1684 := HI.wI1 hI1681 kx_1 rfl (p := 1) (b := 12) (v := v1683) rfl (by dsimp only; omega)
            have hF1685 := Fr.wI (p := 1) (b := 12) (v := v1683) hF1682 rfl
            refine r_aload_n e1662 ?_
            refine q_getR (Sh.ref hI1684.1 kx_59 rfl) ?_
            refine r_iconst 0 rfl ?_
            refine r_aload_n e1661 ?_
            refine q_getR (Sh.ref hI1684.1 kx_1 rfl) ?_
            refine r_iconst 0 rfl ?_
            refine r_bipush 8 rfl ?_
            have zv1686 : (0 : Int32).toInt = 0 := rfl
            have zv1687 : (0 : Int32).toInt = 0 := rfl
            have zv1688 : (8 : Int32).toInt = 8 := rfl
            refine q_cpy rfl (Nat.le_of_ble_eq_true rfl) (Sh.arr hI1684.1 ka_72) (Sh.arr hI1684.1 ka_14) ⟨by omega, by omega, by omega, by omega, by omega⟩ ?_
            have hI1689 := HI.cpy0 hI1684 ka_72 ka_14 rfl rfl ((0 : Int32).toInt.toNat) ((0 : Int32).toInt.toNat) ((8 : Int32).toInt.toNat) (by omega) (by omega)
            have hF1690 := Fr.cpy (p0 := 72) (p1 := 14) hF1685 rfl ((0 : Int32).toInt.toNat) ((0 : Int32).toInt.toNat) ((8 : Int32).toInt.toNat)
            refine r_aload_n e1662 ?_
            refine q_getR (Sh.ref hI1689.1 kx_59 rfl) ?_
            refine r_iconst 0 rfl ?_
            refine r_aload_n e1661 ?_
            refine q_getR (Sh.ref hI1689.1 kx_1 rfl) ?_
            refine r_iconst 0 rfl ?_
            refine r_bipush 8 rfl ?_
            have zv1691 : (0 : Int32).toInt = 0 := rfl
            have zv1692 : (0 : Int32).toInt = 0 := rfl
            have zv1693 : (8 : Int32).toInt = 8 := rfl
            refine q_cpy rfl (Nat.le_of_ble_eq_true rfl) (Sh.arr hI1689.1 ka_73) (Sh.arr hI1689.1 ka_15) ⟨by omega, by omega, by omega, by omega, by omega⟩ ?_
            have hI1694 := HI.cpy0 hI1689 ka_73 ka_15 rfl rfl ((0 : Int32).toInt.toNat) ((0 : Int32).toInt.toNat) ((8 : Int32).toInt.toNat) (by omega) (by omega)
            have hF1695 := Fr.cpy (p0 := 73) (p1 := 15) hF1690 rfl ((0 : Int32).toInt.toNat) ((0 : Int32).toInt.toNat) ((8 : Int32).toInt.toNat)
            refine q_vret ?_
            refine At.enter rfl ?_
            refine r_aload_n rfl ?_
            refine r_callV 44 rfl [.ref 0] [] (Nat.le_of_ble_eq_true rfl) rfl (T_X10_changed_0 _ hI1694) ?_
            rintro _ _ ⟨g1696, rfl, hI1697, hF1698, rfl⟩
            refine At.stn ?_
            have hF1701 := Fr.tr hF1695 hF1698 rfl rfl
            refine At.enter rfl ?_
            refine r_aload_n rfl ?_
            refine r_iconst 0 rfl ?_
            refine q_inlV 49 rfl [.ref 0, .int 0] [] (Nat.le_of_ble_eq_true rfl) rfl ?_
            refine Ev.mk rfl rfl ⟨Nat.le_of_ble_eq_true rfl, Or.inr (q_rc hI1697.1 kx_0 rfl)⟩ ?_
            show At _ none _ _ (0, [(0, .ref 0), (1, .int 0)], [], (_, _)) _
            refine At.enter rfl ?_
            refine r_aload_n rfl ?_
            refine r_iconst 0 rfl ?_
            refine q_putI (Sh.int hI1697.1 kx_0 rfl) rfl ?_
            have hI1702 := HI.wI0 hI1697 kx_0 rfl (p := 0) (b := 17) (v := 0) rfl
            have hF1703 := Fr.wI (p := 0) (b := 17) (v := 0) hF1701 rfl
            refine r_iload_n rfl ?_
            refine q_ireti ?_
            refine At.enter rfl ?_
            refine r_ireti ?_
            have zv1704 : (0 : Int32).toInt = 0 := rfl
            have e : a1.toInt = 0 := by omega
            have k1705_ : (eA g0 173 0).toInt = v1408.toInt := by rw [← hv1408, e]
            have k1705 : (eA g0 173 0).toInt ≠ 0 := by omega
            obtain ⟨v1706, hv1706⟩ : ∃ v, eA g0 173 0 = v := ⟨_, rfl⟩
            have tv1706 := congrArg Int32.toInt hv1706
            have x1707 := HI.eqA hI0 (p := 173) (j := 0) (hv1706)
            have y1708 : (eA g0 173 0).toInt = v1408.toInt := by rw [← hv1408, show a1.toInt = 0 by omega]
            obtain ⟨v1709, hv1709⟩ : ∃ v, eA g0 173 1 = v := ⟨_, rfl⟩
            have tv1709 := congrArg Int32.toInt hv1709
            have x1710 := HI.eqA hI0 (p := 173) (j := 1) (hv1709)
            exact ⟨_, rfl, hI1702, hF1703, _, rfl, by decide, ⟨⟨(fun _ => ⟨(by first | rfl | decide), (HI.eqI hI1702 (p := 1) (b := 0) ((((gI_sI_ne (by decide)).trans ((hF1698.1 1 0 (by decide)).trans ((gI_sW).trans ((gI_sW).trans ((gI_sI_ne (by decide)).trans ((gI_sI_ne (by decide)).trans ((gI_sI_ne (by decide)).trans (gI_sI_ne (by decide))))))))).trans e1660))).trans (HI.eqI hI0 (p := 59) (b := 0) (hv1410)).symm, (HI.eqI hI1702 (p := 1) (b := 12) (((gI_sI_ne (by decide)).trans ((hF1698.1 1 12 (by decide)).trans ((gI_sW).trans ((gI_sW).trans (gI_sI_eq hI1681.1 kx_1 rfl _))))))).trans (HI.eqI hI0 (p := 59) (b := 12) (hv1683)).symm, (HI.eqI hI1702 (p := 1) (b := 10) (((gI_sI_ne (by decide)).trans ((hF1698.1 1 10 (by decide)).trans ((gI_sW).trans ((gI_sW).trans ((gI_sI_ne (by decide)).trans ((gI_sI_ne (by decide)).trans (gI_sI_eq hI1675.1 kx_1 rfl _))))))))).trans (HI.eqI hI0 (p := 59) (b := 10) (hv1677)).symm, (HI.eqI hI1702 (p := 1) (b := 11) (((gI_sI_ne (by decide)).trans ((hF1698.1 1 11 (by decide)).trans ((gI_sW).trans ((gI_sW).trans ((gI_sI_ne (by decide)).trans (gI_sI_eq hI1678.1 kx_1 rfl _)))))))).trans (HI.eqI hI0 (p := 59) (b := 11) (hv1680)).symm⟩), (fun h => absurd (e.symm.trans h.1) (by decide)), (fun h => absurd ⟨e, k1705⟩ h.1), (fun h => False.elim (by omega)), (fun h => absurd ⟨e, k1705⟩ h.2.2.1)⟩, (by intro i i0 i1; exact (Decidable.em (a1.toInt = 0 ∧ (eA g0 173 0).toInt ≠ 0)).elim (fun k61_ => by refine Eq.trans ?_ (if_pos k61_).symm; refine (eA_ti (((gA_sI).trans ((hF1698.2.1 2 (by decide)).trans ((gA_sW_ne (by decide)).trans ((gA_sW_ne (by decide)).trans ((gA_sI).trans ((gA_sI).trans ((gA_sI).trans (gA_sI)))))))))).trans ?_; refine ((q1665 (i) (by omega) (by omega))).trans ?_; (first | rfl | exact eA_ix (by omega) | omega)) (fun k61_ => by refine Eq.trans ?_ (if_neg k61_).symm; exact (Decidable.em (a1.toInt = 1 ∧ (eA g0 173 1).toInt ≠ 0)).elim (fun k62_ => by refine Eq.trans ?_ (if_pos k62_).symm; refine (eA_ti (((gA_sI).trans ((hF1698.2.1 2 (by decide)).trans ((gA_sW_ne (by decide)).trans ((gA_sW_ne (by decide)).trans ((gA_sI).trans ((gA_sI).trans ((gA_sI).trans (gA_sI)))))))))).trans ?_; refine ((q1665 (i) (by omega) (by omega))).trans ?_; (first | rfl | exact eA_ix (by omega) | omega)) (fun k62_ => by refine Eq.trans ?_ (if_neg k62_).symm; refine (eA_ti (((gA_sI).trans ((hF1698.2.1 2 (by decide)).trans ((gA_sW_ne (by decide)).trans ((gA_sW_ne (by decide)).trans ((gA_sI).trans ((gA_sI).trans ((gA_sI).trans (gA_sI)))))))))).trans ?_; refine ((q1665 (i) (by omega) (by omega))).trans ?_; (first | rfl | exact eA_ix (by omega) | omega)))), (by intro i i0 i1; exact (Decidable.em (a1.toInt = 0 ∧ (eA g0 173 0).toInt ≠ 0)).elim (fun k63_ => by refine Eq.trans ?_ (if_pos k63_).symm; refine (eA_ti (((gA_sI).trans ((hF1698.2.1 3 (by decide)).trans ((gA_sW_ne (by decide)).trans ((gA_sW_ne (by decide)).trans ((gA_sI).trans ((gA_sI).trans ((gA_sI).trans (gA_sI)))))))))).trans ?_; refine ((q1666 (i) (by omega) (by omega))).trans ?_; (first | rfl | exact eA_ix (by omega) | omega)) (fun k63_ => by refine Eq.trans ?_ (if_neg k63_).symm; exact (Decidable.em (a1.toInt = 1 ∧ (eA g0 173 1).toInt ≠ 0)).elim (fun k64_ => by refine Eq.trans ?_ (if_pos k64_).symm; refine (eA_ti (((gA_sI).trans ((hF1698.2.1 3 (by decide)).trans ((gA_sW_ne (by decide)).trans ((gA_sW_ne (by decide)).trans ((gA_sI).trans ((gA_sI).trans ((gA_sI).trans (gA_sI)))))))))).trans ?_; refine ((q1666 (i) (by omega) (by omega))).trans ?_; (first | rfl | exact eA_ix (by omega) | omega)) (fun k64_ => by refine Eq.trans ?_ (if_neg k64_).symm; refine (eA_ti (((gA_sI).trans ((hF1698.2.1 3 (by decide)).trans ((gA_sW_ne (by decide)).trans ((gA_sW_ne (by decide)).trans ((gA_sI).trans ((gA_sI).trans ((gA_sI).trans (gA_sI)))))))))).trans ?_; refine ((q1666 (i) (by omega) (by omega))).trans ?_; (first | rfl | exact eA_ix (by omega) | omega)))), (by intro i i0 i1; exact (Decidable.em (a1.toInt = 0 ∧ (eA g0 173 0).toInt ≠ 0)).elim (fun k65_ => by refine Eq.trans ?_ (if_pos k65_).symm; refine (eA_ti (((gA_sI).trans ((hF1698.2.1 4 (by decide)).trans ((gA_sW_ne (by decide)).trans ((gA_sW_ne (by decide)).trans ((gA_sI).trans ((gA_sI).trans ((gA_sI).trans (gA_sI)))))))))).trans ?_; refine ((q1667 (i) (by omega) (by omega))).trans ?_; (first | rfl | exact eA_ix (by omega) | omega)) (fun k65_ => by refine Eq.trans ?_ (if_neg k65_).symm; exact (Decidable.em (a1.toInt = 1 ∧ (eA g0 173 1).toInt ≠ 0)).elim (fun k66_ => by refine Eq.trans ?_ (if_pos k66_).symm; refine (eA_ti (((gA_sI).trans ((hF1698.2.1 4 (by decide)).trans ((gA_sW_ne (by decide)).trans ((gA_sW_ne (by decide)).trans ((gA_sI).trans ((gA_sI).trans ((gA_sI).trans (gA_sI)))))))))).trans ?_; refine ((q1667 (i) (by omega) (by omega))).trans ?_; (first | rfl | exact eA_ix (by omega) | omega)) (fun k66_ => by refine Eq.trans ?_ (if_neg k66_).symm; refine (eA_ti (((gA_sI).trans ((hF1698.2.1 4 (by decide)).trans ((gA_sW_ne (by decide)).trans ((gA_sW_ne (by decide)).trans ((gA_sI).trans ((gA_sI).trans ((gA_sI).trans (gA_sI)))))))))).trans ?_; refine ((q1667 (i) (by omega) (by omega))).trans ?_; (first | rfl | exact eA_ix (by omega) | omega)))), (by intro i i0 i1; exact (Decidable.em (a1.toInt = 0 ∧ (eA g0 173 0).toInt ≠ 0)).elim (fun k67_ => by refine Eq.trans ?_ (if_pos k67_).symm; refine (eA_tq (((gA_sI).trans ((hF1698.2.1 14 (by decide)).trans ((gA_sW_ne (by decide)).trans ((gA_cpF hI1684.1 ka_72 ka_14 (by decide) (by decide) (by decide)).trans ((gA_sI).trans ((gA_sI).trans ((gA_sI).trans ((gA_sI).trans (hF1656.2.1 72 (by decide)))))))))))).trans ?_; (first | rfl | exact eA_ix (by omega) | omega)) (fun k67_ => by refine Eq.trans ?_ (if_neg k67_).symm; exact (Decidable.em (a1.toInt = 1 ∧ (eA g0 173 1).toInt ≠ 0)).elim (fun k68_ => by refine Eq.trans ?_ (if_pos k68_).symm; refine (eA_tq (((gA_sI).trans ((hF1698.2.1 14 (by decide)).trans ((gA_sW_ne (by decide)).trans ((gA_cpF hI1684.1 ka_72 ka_14 (by decide) (by decide) (by decide)).trans ((gA_sI).trans ((gA_sI).trans ((gA_sI).trans ((gA_sI).trans (hF1656.2.1 72 (by decide)))))))))))).trans ?_; (first | rfl | exact eA_ix (by omega) | omega)) (fun k68_ => by refine Eq.trans ?_ (if_neg k68_).symm; refine (eA_tq (((gA_sI).trans ((hF1698.2.1 14 (by decide)).trans ((gA_sW_ne (by decide)).trans ((gA_cpF hI1684.1 ka_72 ka_14 (by decide) (by decide) (by decide)).trans ((gA_sI).trans ((gA_sI).trans ((gA_sI).trans ((gA_sI).trans (hF1656.2.1 72 (by decide)))))))))))).trans ?_; (first | rfl | exact eA_ix (by omega) | omega)))), (by intro i i0 i1; exact (Decidable.em (a1.toInt = 0 ∧ (eA g0 173 0).toInt ≠ 0)).elim (fun k69_ => by refine Eq.trans ?_ (if_pos k69_).symm; refine (eA_tq (((gA_sI).trans ((hF1698.2.1 15 (by decide)).trans ((gA_cpF hI1689.1 ka_73 ka_15 (by decide) (by decide) (by decide)).trans ((gA_sW_ne (by decide)).trans ((gA_sI).trans ((gA_sI).trans ((gA_sI).trans ((gA_sI).trans (hF1656.2.1 73 (by decide)))))))))))).trans ?_; (first | rfl | exact eA_ix (by omega) | omega)) (fun k69_ => by refine Eq.trans ?_ (if_neg k69_).symm; exact (Decidable.em (a1.toInt = 1 ∧ (eA g0 173 1).toInt ≠ 0)).elim (fun k70_ => by refine Eq.trans ?_ (if_pos k70_).symm; refine (eA_tq (((gA_sI).trans ((hF1698.2.1 15 (by decide)).trans ((gA_cpF hI1689.1 ka_73 ka_15 (by decide) (by decide) (by decide)).trans ((gA_sW_ne (by decide)).trans ((gA_sI).trans ((gA_sI).trans ((gA_sI).trans ((gA_sI).trans (hF1656.2.1 73 (by decide)))))))))))).trans ?_; (first | rfl | exact eA_ix (by omega) | omega)) (fun k70_ => by refine Eq.trans ?_ (if_neg k70_).symm; refine (eA_tq (((gA_sI).trans ((hF1698.2.1 15 (by decide)).trans ((gA_cpF hI1689.1 ka_73 ka_15 (by decide) (by decide) (by decide)).trans ((gA_sW_ne (by decide)).trans ((gA_sI).trans ((gA_sI).trans ((gA_sI).trans ((gA_sI).trans (hF1656.2.1 73 (by decide)))))))))))).trans ?_; (first | rfl | exact eA_ix (by omega) | omega))))⟩⟩
          · have c1673_ : x1653.toInt < 6 := en_i_ge_f c1673
            refine At.enter rfl ?_
            refine r_aload_n e1661 ?_
            refine r_iload_n e1663 ?_
            refine r_callV 97 rfl [.ref 1, .int x1653] [] (Nat.le_of_ble_eq_true rfl) rfl (T_X0_lawAt_1 _ hI1655 x1653) ?_
            rintro _ _ ⟨g1711, rfl, hI1712, hF1713, v1714, rfl, hr1715⟩
            refine At.str ?_
            have hF1716 := Fr.tr hF1656 hF1713 rfl rfl
            refine At.enter rfl ?_
            refine r_aload_n e1662 ?_
            refine r_iload_n e1663 ?_
            refine r_callV 102 rfl [.ref 59, .int x1653] [.ref (v1714)] (Nat.le_of_ble_eq_true rfl) rfl (T_X0_lawAt_59 _ hI1712 x1653) ?_
            rintro _ _ ⟨g1717, rfl, hI1718, hF1719, v1720, rfl, hr1721⟩
            refine At.str ?_
            have hF1722 := Fr.tr hF1716 hF1719 rfl rfl
            refine At.enter rfl ?_
            refine r_callV 105 rfl [.ref (v1714), .ref (v1720)] [] (Nat.le_of_ble_eq_true rfl) rfl (T_X4_become_law _ hI1718 (v1714) hr1715 (v1720) hr1721) ?_
            rintro _ _ ⟨g1723, rfl, hI1724, hF1725, rfl⟩
            refine At.stn ?_
            have hF1728 := Fr.tr hF1722 hF1725 rfl rfl
            refine At.enter rfl ?_
            refine q_iinc e1663 (x1653.toInt + 1) rfl (by omega) (fun v1729 hv1729 => ?_)
            refine r_goto ?_
            exact ih1659 (6 - v1729.toInt) _ _ ⟨v1729, by first | rfl | omega, hI1724, hF1728, (((hF1725.1 1 0 (by decide)).trans ((hF1719.1 1 0 (by decide)).trans (hF1713.1 1 0 (by decide)))).trans e1660), (w_p1 (by decide) (Or.inr rfl) e1661), (w_p1 (by decide) (Or.inr rfl) e1662), (w_e1 _ _ _), by omega, (by intro i i0 i1; refine (eA_ti (((hF1725.2.1 2 (by decide)).trans ((hF1719.2.1 2 (by decide)).trans (hF1713.2.1 2 (by decide)))))).trans ?_; refine ((q1665 (i) (by omega) (by omega))).trans ?_; (first | rfl | exact eA_ix (by omega) | omega)), (by intro i i0 i1; refine (eA_ti (((hF1725.2.1 3 (by decide)).trans ((hF1719.2.1 3 (by decide)).trans (hF1713.2.1 3 (by decide)))))).trans ?_; refine ((q1666 (i) (by omega) (by omega))).trans ?_; (first | rfl | exact eA_ix (by omega) | omega)), (by intro i i0 i1; refine (eA_ti (((hF1725.2.1 4 (by decide)).trans ((hF1719.2.1 4 (by decide)).trans (hF1713.2.1 4 (by decide)))))).trans ?_; refine ((q1667 (i) (by omega) (by omega))).trans ?_; (first | rfl | exact eA_ix (by omega) | omega)), (by intro i i0 i1; refine (eA_ti (((hF1725.2.1 14 (by decide)).trans ((hF1719.2.1 14 (by decide)).trans (hF1713.2.1 14 (by decide)))))).trans ?_; refine ((q1668 (i) (by omega) (by omega))).trans ?_; (first | rfl | exact eA_ix (by omega) | omega)), (by intro i i0 i1; refine (eA_ti (((hF1725.2.1 15 (by decide)).trans ((hF1719.2.1 15 (by decide)).trans (hF1713.2.1 15 (by decide)))))).trans ?_; refine ((q1669 (i) (by omega) (by omega))).trans ?_; (first | rfl | exact eA_ix (by omega) | omega))⟩ ⟨by omega, by omega⟩
        · have c1409_ : v1408.toInt = 0 := en_k_ne_f c1409
          refine At.enter rfl ?_
          refine r_aload_n rfl ?_
          refine r_bipush (-2) rfl ?_
          refine r_callV 31 rfl [.ref 0, .int (-2)] [] (Nat.le_of_ble_eq_true rfl) rfl (T_X10_refused_0 _ hI0 (-2) (by decide)) ?_
          rintro _ _ ⟨g1730, rfl, hI1731, hF1732, v1733, rfl, hr1734⟩
          refine At.sti ?_
          have hF1735 := Fr.tr hF0 hF1732 rfl rfl
          have zv1736 : ((-2) : Int32).toInt = (-2) := rfl
          refine At.enter rfl ?_
          refine r_ireti ?_
          obtain ⟨v1737, hv1737⟩ : ∃ v, gI g0 1 0 = v := ⟨_, rfl⟩
          have rv1737 := RgF.at hI0.2.1 (p := 1) (b := 0) rfl
          rw [hv1737] at rv1737
          dsimp only at rv1737
          have tv1737 := congrArg Int32.toInt hv1737
          have x1738 := HI.eqI hI0 (p := 1) (b := 0) (hv1737)
          obtain ⟨v1739, hv1739⟩ : ∃ v, gI g0 1 12 = v := ⟨_, rfl⟩
          have rv1739 := RgF.at hI0.2.1 (p := 1) (b := 12) rfl
          rw [hv1739] at rv1739
          dsimp only at rv1739
          have tv1739 := congrArg Int32.toInt hv1739
          have x1740 := HI.eqI hI0 (p := 1) (b := 12) (hv1739)
          obtain ⟨v1741, hv1741⟩ : ∃ v, gI g0 1 10 = v := ⟨_, rfl⟩
          have tv1741 := congrArg Int32.toInt hv1741
          have x1742 := HI.eqI hI0 (p := 1) (b := 10) (hv1741)
          obtain ⟨v1743, hv1743⟩ : ∃ v, gI g0 1 11 = v := ⟨_, rfl⟩
          have tv1743 := congrArg Int32.toInt hv1743
          have x1744 := HI.eqI hI0 (p := 1) (b := 11) (hv1743)
          obtain ⟨v1745, hv1745⟩ : ∃ v, gI g0 59 0 = v := ⟨_, rfl⟩
          have rv1745 := RgF.at hI0.2.1 (p := 59) (b := 0) rfl
          rw [hv1745] at rv1745
          dsimp only at rv1745
          have tv1745 := congrArg Int32.toInt hv1745
          have x1746 := HI.eqI hI0 (p := 59) (b := 0) (hv1745)
          obtain ⟨v1747, hv1747⟩ : ∃ v, gI g0 59 12 = v := ⟨_, rfl⟩
          have rv1747 := RgF.at hI0.2.1 (p := 59) (b := 12) rfl
          rw [hv1747] at rv1747
          dsimp only at rv1747
          have tv1747 := congrArg Int32.toInt hv1747
          have x1748 := HI.eqI hI0 (p := 59) (b := 12) (hv1747)
          obtain ⟨v1749, hv1749⟩ : ∃ v, gI g0 59 10 = v := ⟨_, rfl⟩
          have tv1749 := congrArg Int32.toInt hv1749
          have x1750 := HI.eqI hI0 (p := 59) (b := 10) (hv1749)
          obtain ⟨v1751, hv1751⟩ : ∃ v, gI g0 59 11 = v := ⟨_, rfl⟩
          have tv1751 := congrArg Int32.toInt hv1751
          have x1752 := HI.eqI hI0 (p := 59) (b := 11) (hv1751)
          obtain ⟨v1753, hv1753⟩ : ∃ v, gI g0 116 0 = v := ⟨_, rfl⟩
          have rv1753 := RgF.at hI0.2.1 (p := 116) (b := 0) rfl
          rw [hv1753] at rv1753
          dsimp only at rv1753
          have tv1753 := congrArg Int32.toInt hv1753
          have x1754 := HI.eqI hI0 (p := 116) (b := 0) (hv1753)
          obtain ⟨v1755, hv1755⟩ : ∃ v, gI g0 116 12 = v := ⟨_, rfl⟩
          have rv1755 := RgF.at hI0.2.1 (p := 116) (b := 12) rfl
          rw [hv1755] at rv1755
          dsimp only at rv1755
          have tv1755 := congrArg Int32.toInt hv1755
          have x1756 := HI.eqI hI0 (p := 116) (b := 12) (hv1755)
          obtain ⟨v1757, hv1757⟩ : ∃ v, gI g0 116 10 = v := ⟨_, rfl⟩
          have tv1757 := congrArg Int32.toInt hv1757
          have x1758 := HI.eqI hI0 (p := 116) (b := 10) (hv1757)
          obtain ⟨v1759, hv1759⟩ : ∃ v, gI g0 116 11 = v := ⟨_, rfl⟩
          have tv1759 := congrArg Int32.toInt hv1759
          have x1760 := HI.eqI hI0 (p := 116) (b := 11) (hv1759)
          obtain ⟨v1761, hv1761⟩ : ∃ v, eA g0 173 0 = v := ⟨_, rfl⟩
          have tv1761 := congrArg Int32.toInt hv1761
          have x1762 := HI.eqA hI0 (p := 173) (j := 0) (hv1761)
          have y1763 : (eA g0 173 0).toInt = v1408.toInt := by rw [← hv1408, show a1.toInt = 0 by omega]
          obtain ⟨v1764, hv1764⟩ : ∃ v, eA g0 173 1 = v := ⟨_, rfl⟩
          have tv1764 := congrArg Int32.toInt hv1764
          have x1765 := HI.eqA hI0 (p := 173) (j := 1) (hv1764)
          have y1766 : a1.toInt = 0 → (eA g0 173 0).toInt = v1408.toInt := fun e => by rw [← hv1408, e]
          have e : a1.toInt = 0 := by omega
          have z1767 := HI.eqI hI1731 (p := 1) (b := 0) (((hF1732.1 1 0 (by decide)).trans hv1737))
          have z1768 := HI.eqI hI1731 (p := 1) (b := 12) (((hF1732.1 1 12 (by decide)).trans hv1739))
          have z1769 := HI.eqI hI1731 (p := 1) (b := 10) (((hF1732.1 1 10 (by decide)).trans hv1741))
          have z1770 := HI.eqI hI1731 (p := 1) (b := 11) (((hF1732.1 1 11 (by decide)).trans hv1743))
          have x1771 := HI.eqA hI0 (p := 173) (j := 0) (hv1761)
          have y1772 : (eA g0 173 0).toInt = v1408.toInt := by rw [← hv1408, show a1.toInt = 0 by omega]
          have x1773 := HI.eqA hI0 (p := 173) (j := 1) (hv1764)
          exact ⟨_, rfl, hI1731, hF1735, _, rfl, by omega, ⟨⟨by omega, by omega, by omega, by omega, by omega⟩, (by intro i i0 i1; refine Eq.trans ?_ (if_neg (show ¬ (a1.toInt = 0 ∧ (eA g0 173 0).toInt ≠ 0) from by omega)).symm; refine Eq.trans ?_ (if_neg (show ¬ (a1.toInt = 1 ∧ (eA g0 173 1).toInt ≠ 0) from by omega)).symm; refine (eA_ti ((hF1732.2.1 2 (by decide)))).trans ?_; (first | rfl | exact eA_ix (by omega) | omega)), (by intro i i0 i1; refine Eq.trans ?_ (if_neg (show ¬ (a1.toInt = 0 ∧ (eA g0 173 0).toInt ≠ 0) from by omega)).symm; refine Eq.trans ?_ (if_neg (show ¬ (a1.toInt = 1 ∧ (eA g0 173 1).toInt ≠ 0) from by omega)).symm; refine (eA_ti ((hF1732.2.1 3 (by decide)))).trans ?_; (first | rfl | exact eA_ix (by omega) | omega)), (by intro i i0 i1; refine Eq.trans ?_ (if_neg (show ¬ (a1.toInt = 0 ∧ (eA g0 173 0).toInt ≠ 0) from by omega)).symm; refine Eq.trans ?_ (if_neg (show ¬ (a1.toInt = 1 ∧ (eA g0 173 1).toInt ≠ 0) from by omega)).symm; refine (eA_ti ((hF1732.2.1 4 (by decide)))).trans ?_; (first | rfl | exact eA_ix (by omega) | omega)), (by intro i i0 i1; refine Eq.trans ?_ (if_neg (show ¬ (a1.toInt = 0 ∧ (eA g0 173 0).toInt ≠ 0) from by omega)).symm; refine Eq.trans ?_ (if_neg (show ¬ (a1.toInt = 1 ∧ (eA g0 173 1).toInt ≠ 0) from by omega)).symm; refine (eA_ti ((hF1732.2.1 14 (by decide)))).trans ?_; (first | rfl | exact eA_ix (by omega) | omega)), (by intro i i0 i1; refine Eq.trans ?_ (if_neg (show ¬ (a1.toInt = 0 ∧ (eA g0 173 0).toInt ≠ 0) from by omega)).symm; refine Eq.trans ?_ (if_neg (show ¬ (a1.toInt = 1 ∧ (eA g0 173 1).toInt ≠ 0) from by omega)).symm; refine (eA_ti ((hF1732.2.1 15 (by decide)))).trans ?_; (first | rfl | exact eA_ix (by omega) | omega))⟩⟩
      have c1407_1 : a1.toInt = 1 := by omega
      refine q_aald (Sh.rar hI0.1 ka_58) (by decide) 1 (by omega) (by decide) (some 116) rfl ?_
      refine r_goto ?_
      refine At.enter rfl ?_
      refine q_aret ?_
      refine At.enter rfl ?_
      refine r_astore_n ([(2, .ref 116), (0, .ref 0), (1, .int a1)]) rfl ?_
      refine r_aload_n rfl ?_
      refine r_nnr ?_
      refine At.enter rfl ?_
      refine r_aload_n rfl ?_
      refine q_getR (Sh.ref hI0.1 kx_0 rfl) ?_
      refine r_iload_n rfl ?_
      obtain ⟨v1774, hv1774⟩ : ∃ v, eA g0 173 a1.toInt = v := ⟨_, rfl⟩
      refine q_bald (Sh.arr hI0.1 ka_173) a1.toInt rfl (by omega) v1774 hv1774 ?_
      refine r_ifs 25 rfl (fun c1775 => ?_) (fun c1775 => ?_)
      · have c1775_ : v1774.toInt ≠ 0 := en_k_ne_t c1775
        refine At.enter rfl ?_
        refine r_aload_n rfl ?_
        refine q_getR (Sh.ref hI0.1 kx_0 rfl) ?_
        refine r_aload_n rfl ?_
        refine q_inlV 40 rfl [.ref 1, .ref 116] [] (Nat.le_of_ble_eq_true rfl) rfl ?_
        refine Ev.mk rfl rfl ⟨Nat.le_of_ble_eq_true rfl, Or.inr (q_rc hI0.1 kx_1 rfl)⟩ ?_
        show At _ none _ _ (0, [(0, .ref 1), (1, .ref 116)], [], (_, _)) _
        refine At.enter rfl ?_
        refine r_aload_n rfl ?_
        refine r_aload_n rfl ?_
        obtain ⟨v1776, hv1776⟩ : ∃ v, gI g0 116 0 = v := ⟨_, rfl⟩
        have rv1776 := RgF.at hI0.2.1 (p := 116) (b := 0) rfl
        rw [hv1776] at rv1776
        dsimp only at rv1776
        refine q_getI (Sh.int hI0.1 kx_116 rfl) v1776 hv1776 ?_
        refine q_putI (Sh.int hI0.1 kx_1 rfl) rfl ?_
        have hI1777 := HI.wI1 hI0 kx_1 rfl (p := 1) (b := 0) (v := v1776) rfl (by dsimp only; omega)
        have hF1778 := Fr.wI (p := 1) (b := 0) (v := v1776) hF0 rfl
        refine r_aload_n rfl ?_
        refine q_getR (Sh.ref hI1777.1 kx_116 rfl) ?_
        refine r_iconst 0 rfl ?_
        refine r_aload_n rfl ?_
        refine q_getR (Sh.ref hI1777.1 kx_1 rfl) ?_
        refine r_iconst 0 rfl ?_
        refine r_bipush 12 rfl ?_
        have zv1779 : (0 : Int32).toInt = 0 := rfl
        have zv1780 : (0 : Int32).toInt = 0 := rfl
        have zv1781 : (12 : Int32).toInt = 12 := rfl
        refine q_cpy rfl (Nat.le_of_ble_eq_true rfl) (Sh.arr hI1777.1 ka_117) (Sh.arr hI1777.1 ka_2) ⟨by omega, by omega, by omega, by omega, by omega⟩ ?_
        have hI1782 := HI.cpy0 hI1777 ka_117 ka_2 rfl rfl ((0 : Int32).toInt.toNat) ((0 : Int32).toInt.toNat) ((12 : Int32).toInt.toNat) (by omega) (by omega)
        have hF1783 := Fr.cpy (p0 := 117) (p1 := 2) hF1778 rfl ((0 : Int32).toInt.toNat) ((0 : Int32).toInt.toNat) ((12 : Int32).toInt.toNat)
        refine r_aload_n rfl ?_
        refine q_getR (Sh.ref hI1782.1 kx_116 rfl) ?_
        refine r_iconst 0 rfl ?_
        refine r_aload_n rfl ?_
        refine q_getR (Sh.ref hI1782.1 kx_1 rfl) ?_
        refine r_iconst 0 rfl ?_
        refine r_bipush 12 rfl ?_
        have zv1784 : (0 : Int32).toInt = 0 := rfl
        have zv1785 : (0 : Int32).toInt = 0 := rfl
        have zv1786 : (12 : Int32).toInt = 12 := rfl
        refine q_cpy rfl (Nat.le_of_ble_eq_true rfl) (Sh.arr hI1782.1 ka_118) (Sh.arr hI1782.1 ka_3) ⟨by omega, by omega, by omega, by omega, by omega⟩ ?_
        have hI1787 := HI.cpy0 hI1782 ka_118 ka_3 rfl rfl ((0 : Int32).toInt.toNat) ((0 : Int32).toInt.toNat) ((12 : Int32).toInt.toNat) (by omega) (by omega)
        have hF1788 := Fr.cpy (p0 := 118) (p1 := 3) hF1783 rfl ((0 : Int32).toInt.toNat) ((0 : Int32).toInt.toNat) ((12 : Int32).toInt.toNat)
        refine r_aload_n rfl ?_
        refine q_getR (Sh.ref hI1787.1 kx_116 rfl) ?_
        refine r_iconst 0 rfl ?_
        refine r_aload_n rfl ?_
        refine q_getR (Sh.ref hI1787.1 kx_1 rfl) ?_
        refine r_iconst 0 rfl ?_
        refine r_bipush 12 rfl ?_
        have zv1789 : (0 : Int32).toInt = 0 := rfl
        have zv1790 : (0 : Int32).toInt = 0 := rfl
        have zv1791 : (12 : Int32).toInt = 12 := rfl
        refine q_cpy rfl (Nat.le_of_ble_eq_true rfl) (Sh.arr hI1787.1 ka_119) (Sh.arr hI1787.1 ka_4) ⟨by omega, by omega, by omega, by omega, by omega⟩ ?_
        have hI1792 := HI.cpy0 hI1787 ka_119 ka_4 rfl rfl ((0 : Int32).toInt.toNat) ((0 : Int32).toInt.toNat) ((12 : Int32).toInt.toNat) (by omega) (by omega)
        have hF1793 := Fr.cpy (p0 := 119) (p1 := 4) hF1788 rfl ((0 : Int32).toInt.toNat) ((0 : Int32).toInt.toNat) ((12 : Int32).toInt.toNat)
        refine r_aload_n rfl ?_
        refine r_aload_n rfl ?_
        obtain ⟨v1794, hv1794⟩ : ∃ v, gI g0 116 4 = v := ⟨_, rfl⟩
        have rv1794 := RgF.at hI0.2.1 (p := 116) (b := 4) rfl
        rw [hv1794] at rv1794
        dsimp only at rv1794
        refine q_getI (Sh.int hI1792.1 kx_116 rfl) v1794 (((gI_sW).trans ((gI_sW).trans ((gI_sW).trans (gI_sI_ne (by decide))))).trans hv1794) ?_
        refine q_putI (Sh.int hI1792.1 kx_1 rfl) rfl ?_
        have hI1795 := HI.wI1 hI1792 kx_1 rfl (p := 1) (b := 4) (v := v1794) rfl (by dsimp only; omega)
        have hF1796 := Fr.wI (p := 1) (b := 4) (v := v1794) hF1793 rfl
        refine r_aload_n rfl ?_
        refine q_getR (Sh.ref hI1795.1 kx_116 rfl) ?_
        refine r_iconst 0 rfl ?_
        refine r_aload_n rfl ?_
        refine q_getR (Sh.ref hI1795.1 kx_1 rfl) ?_
        refine r_iconst 0 rfl ?_
        refine r_bipush 48 rfl ?_
        have zv1797 : (0 : Int32).toInt = 0 := rfl
        have zv1798 : (0 : Int32).toInt = 0 := rfl
        have zv1799 : (48 : Int32).toInt = 48 := rfl
        refine q_cpy rfl (Nat.le_of_ble_eq_true rfl) (Sh.arr hI1795.1 ka_120) (Sh.arr hI1795.1 ka_5) ⟨by omega, by omega, by omega, by omega, by omega⟩ ?_
        have hI1800 := HI.cpy0 hI1795 ka_120 ka_5 rfl rfl ((0 : Int32).toInt.toNat) ((0 : Int32).toInt.toNat) ((48 : Int32).toInt.toNat) (by omega) (by omega)
        have hF1801 := Fr.cpy (p0 := 120) (p1 := 5) hF1796 rfl ((0 : Int32).toInt.toNat) ((0 : Int32).toInt.toNat) ((48 : Int32).toInt.toNat)
        refine r_aload_n rfl ?_
        refine r_aload_n rfl ?_
        obtain ⟨v1802, hv1802⟩ : ∃ v, gI g0 116 6 = v := ⟨_, rfl⟩
        have rv1802 := RgF.at hI0.2.1 (p := 116) (b := 6) rfl
        rw [hv1802] at rv1802
        dsimp only at rv1802
        refine q_getI (Sh.int hI1800.1 kx_116 rfl) v1802 (((gI_sW).trans ((gI_sI_ne (by decide)).trans ((gI_sW).trans ((gI_sW).trans ((gI_sW).trans (gI_sI_ne (by decide))))))).trans hv1802) ?_
        refine q_putI (Sh.int hI1800.1 kx_1 rfl) rfl ?_
        have hI1803 := HI.wI1 hI1800 kx_1 rfl (p := 1) (b := 6) (v := v1802) rfl (by dsimp only; omega)
        have hF1804 := Fr.wI (p := 1) (b := 6) (v := v1802) hF1801 rfl
        refine r_iconst 0 rfl ?_
        refine r_istore_n ([(2, .int 0), (0, .ref 1), (1, .ref 116)]) rfl ?_
        refine Ar.fall 86 rfl ?_
        have z_2036 : (0 : Int32).toInt = 0 := rfl
        refine w_loopI (fun n_ l_ g_ => ∃ x2019 : Int32, n_ = 6 - x2019.toInt ∧ HI g_ ∧ Fr F_X10_back_0 A_X10_back_0 g0 g_ ∧ gI g_ 1 0 = v1776 ∧ en_get 0 l_ = some (.ref 1) ∧ en_get 1 l_ = some (.ref 116) ∧ en_get 2 l_ = some (.int x2019) ∧ (0 ≤ x2019.toInt ∧ x2019.toInt ≤ 6) ∧ (∀ i : Int, 0 ≤ i → i < 12 → (eA g_ 2 (i)).toInt = (eA g0 117 (i)).toInt) ∧ (∀ i : Int, 0 ≤ i → i < 12 → (eA g_ 3 (i)).toInt = (eA g0 118 (i)).toInt) ∧ (∀ i : Int, 0 ≤ i → i < 12 → (eA g_ 4 (i)).toInt = (eA g0 119 (i)).toInt) ∧ (∀ i : Int, 0 ≤ i → i < 8 → (eA g_ 14 (i)).toInt = (eA g0 14 (i)).toInt) ∧ (∀ i : Int, 0 ≤ i → i < 8 → (eA g_ 15 (i)).toInt = (eA g0 15 (i)).toInt)) ?_ (6 - 0) ⟨0, by first | rfl | omega, hI1803, hF1804, ((gI_sI_ne (by decide)).trans ((gI_sW).trans ((gI_sI_ne (by decide)).trans ((gI_sW).trans ((gI_sW).trans ((gI_sW).trans (gI_sI_eq hI0.1 kx_1 rfl _))))))), rfl, rfl, rfl, by decide, (by intro i i0 i1; refine (eA_tq (((gA_sI).trans ((gA_sW_ne (by decide)).trans ((gA_sI).trans ((gA_sW_ne (by decide)).trans ((gA_sW_ne (by decide)).trans ((gA_cpF hI1777.1 ka_117 ka_2 (by decide) (by decide) (by decide)).trans (gA_sI))))))))).trans ?_; (first | rfl | exact eA_ix (by omega) | omega)), (by intro i i0 i1; refine (eA_tq (((gA_sI).trans ((gA_sW_ne (by decide)).trans ((gA_sI).trans ((gA_sW_ne (by decide)).trans ((gA_cpF hI1782.1 ka_118 ka_3 (by decide) (by decide) (by decide)).trans ((gA_sW_ne (by decide)).trans (gA_sI))))))))).trans ?_; (first | rfl | exact eA_ix (by omega) | omega)), (by intro i i0 i1; refine (eA_tq (((gA_sI).trans ((gA_sW_ne (by decide)).trans ((gA_sI).trans ((gA_cpF hI1787.1 ka_119 ka_4 (by decide) (by decide) (by decide)).trans ((gA_sW_ne (by decide)).trans ((gA_sW_ne (by decide)).trans (gA_sI))))))))).trans ?_; (first | rfl | exact eA_ix (by omega) | omega)), (by intro i i0 i1; refine (eA_ti (((gA_sI).trans ((gA_sW_ne (by decide)).trans ((gA_sI).trans ((gA_sW_ne (by decide)).trans ((gA_sW_ne (by decide)).trans ((gA_sW_ne (by decide)).trans (gA_sI))))))))).trans ?_; (first | rfl | exact eA_ix (by omega) | omega)), (by intro i i0 i1; refine (eA_ti (((gA_sI).trans ((gA_sW_ne (by decide)).trans ((gA_sI).trans ((gA_sW_ne (by decide)).trans ((gA_sW_ne (by decide)).trans ((gA_sW_ne (by decide)).trans (gA_sI))))))))).trans ?_; (first | rfl | exact eA_ix (by omega) | omega))⟩
        rintro n2024 l2023 g2020 ⟨x2019, hm2037, hI2021, hF2022, e2026, e2027, e2028, e2029, r2030, q2031, q2032, q2033, q2034, q2035⟩ ih2025
        have tv2038 := congrArg Int32.toInt e2026
        refine At.enter rfl ?_
        refine r_iload_n e2029 ?_
        refine r_bipush 6 rfl ?_
        refine r_ics 92 rfl (fun c2039 => ?_) (fun c2039 => ?_)
        · have c2039_ : x2019.toInt ≥ 6 := en_i_ge_t c2039
          refine At.enter rfl ?_
          refine r_aload_n e2027 ?_
          refine r_aload_n e2028 ?_
          obtain ⟨v2040, hv2040⟩ : ∃ v, gI g0 116 9 = v := ⟨_, rfl⟩
          refine q_getI (Sh.int hI2021.1 kx_116 rfl) v2040 ((hF2022.1 116 9 (by decide)).trans hv2040) ?_
          refine q_putI (Sh.int hI2021.1 kx_1 rfl) rfl ?_
          have hI2041 := HI.wI0 hI2021 kx_1 rfl (p := 1) (b := 9) (v := v2040) rfl
          have hF2042 := Fr.wI (p := 1) (b := 9) (v := v2040) hF2022 rfl
          refine r_aload_n e2027 ?_
          refine r_aload_n e2028 ?_
          obtain ⟨v2043, hv2043⟩ : ∃ v, gI g0 116 10 = v := ⟨_, rfl⟩
          refine q_getI (Sh.int hI2041.1 kx_116 rfl) v2043 (((gI_sI_ne (by decide)).trans (hF2022.1 116 10 (by decide))).trans hv2043) ?_
          refine q_putI (Sh.int hI2041.1 kx_1 rfl) rfl ?_
          have hI2044 := HI.wI0 hI2041 kx_1 rfl (p := 1) (b := 10) (v := v2043) rfl
          have hF2045 := Fr.wI (p := 1) (b := 10) (v := v2043) hF2042 rfl
          refine r_aload_n e2027 ?_
          refine r_aload_n e2028 ?_
          obtain ⟨v2046, hv2046⟩ : ∃ v, gI g0 116 11 = v := ⟨_, rfl⟩
          refine q_getI (Sh.int hI2044.1 kx_116 rfl) v2046 (((gI_sI_ne (by decide)).trans ((gI_sI_ne (by decide)).trans (hF2022.1 116 11 (by decide)))).trans hv2046) ?_
          refine q_putI (Sh.int hI2044.1 kx_1 rfl) rfl ?_
          have hI2047 := HI.wI0 hI2044 kx_1 rfl (p := 1) (b := 11) (v := v2046) rfl
          have hF2048 := Fr.wI (p := 1) (b := 11) (v := v2046) hF2045 rfl
          refine r_aload_n e2027 ?_
          refine r_aload_n e2028 ?_
          obtain ⟨v2049, hv2049⟩ : ∃ v, gI g0 116 12 = v := ⟨_, rfl⟩
          have rv2049 := RgF.at hI0.2.1 (p := 116) (b := 12) rfl
          rw [hv2049] at rv2049
          dsimp only at rv2049
          refine q_getI (Sh.int hI2047.1 kx_116 rfl) v2049 (((gI_sI_ne (by decide)).trans ((gI_sI_ne (by decide)).trans ((gI_sI_ne (by decide)).trans (hF2022.1 116 12 (by decide))))).trans hv2049) ?_
          refine q_putI (Sh.int hI2047.1 kx_1 rfl) rfl ?_
          have hI2050 := HI.wI1 hI2047 kx_1 rfl (p := 1) (b := 12) (v := v2049) rfl (by dsimp only; omega)
          have hF2051 := Fr.wI (p := 1) (b := 12) (v := v2049) hF2048 rfl
          refine r_aload_n e2028 ?_
          refine q_getR (Sh.ref hI2050.1 kx_116 rfl) ?_
          refine r_iconst 0 rfl ?_
          refine r_aload_n e2027 ?_
          refine q_getR (Sh.ref hI2050.1 kx_1 rfl) ?_
          refine r_iconst 0 rfl ?_
          refine r_bipush 8 rfl ?_
          have zv2052 : (0 : Int32).toInt = 0 := rfl
          have zv2053 : (0 : Int32).toInt = 0 := rfl
          have zv2054 : (8 : Int32).toInt = 8 := rfl
          refine q_cpy rfl (Nat.le_of_ble_eq_true rfl) (Sh.arr hI2050.1 ka_129) (Sh.arr hI2050.1 ka_14) ⟨by omega, by omega, by omega, by omega, by omega⟩ ?_
          have hI2055 := HI.cpy0 hI2050 ka_129 ka_14 rfl rfl ((0 : Int32).toInt.toNat) ((0 : Int32).toInt.toNat) ((8 : Int32).toInt.toNat) (by omega) (by omega)
          have hF2056 := Fr.cpy (p0 := 129) (p1 := 14) hF2051 rfl ((0 : Int32).toInt.toNat) ((0 : Int32).toInt.toNat) ((8 : Int32).toInt.toNat)
          refine r_aload_n e2028 ?_
          refine q_getR (Sh.ref hI2055.1 kx_116 rfl) ?_
          refine r_iconst 0 rfl ?_
          refine r_aload_n e2027 ?_
          refine q_getR (Sh.ref hI2055.1 kx_1 rfl) ?_
          refine r_iconst 0 rfl ?_
          refine r_bipush 8 rfl ?_
          have zv2057 : (0 : Int32).toInt = 0 := rfl
          have zv2058 : (0 : Int32).toInt = 0 := rfl
          have zv2059 : (8 : Int32).toInt = 8 := rfl
          refine q_cpy rfl (Nat.le_of_ble_eq_true rfl) (Sh.arr hI2055.1 ka_130) (Sh.arr hI2055.1 ka_15) ⟨by omega, by omega, by omega, by omega, by omega⟩ ?_
          have hI2060 := HI.cpy0 hI2055 ka_130 ka_15 rfl rfl ((0 : Int32).toInt.toNat) ((0 : Int32).toInt.toNat) ((8 : Int32).toInt.toNat) (by omega) (by omega)
          have hF2061 := Fr.cpy (p0 := 130) (p1 := 15) hF2056 rfl ((0 : Int32).toInt.toNat) ((0 : Int32).toInt.toNat) ((8 : Int32).toInt.toNat)
          refine q_vret ?_
          refine At.enter rfl ?_
          refine r_aload_n rfl ?_
          refine r_callV 44 rfl [.ref 0] [] (Nat.le_of_ble_eq_true rfl) rfl (T_X10_changed_0 _ hI2060) ?_
          rintro _ _ ⟨g2062, rfl, hI2063, hF2064, rfl⟩
          refine At.stn ?_
          have hF2067 := Fr.tr hF2061 hF2064 rfl rfl
          refine At.enter rfl ?_
          refine r_aload_n rfl ?_
          refine r_iconst 0 rfl ?_
          refine q_inlV 49 rfl [.ref 0, .int 0] [] (Nat.le_of_ble_eq_true rfl) rfl ?_
          refine Ev.mk rfl rfl ⟨Nat.le_of_ble_eq_true rfl, Or.inr (q_rc hI2063.1 kx_0 rfl)⟩ ?_
          show At _ none _ _ (0, [(0, .ref 0), (1, .int 0)], [], (_, _)) _
          refine At.enter rfl ?_
          refine r_aload_n rfl ?_
          refine r_iconst 0 rfl ?_
          refine q_putI (Sh.int hI2063.1 kx_0 rfl) rfl ?_
          have hI2068 := HI.wI0 hI2063 kx_0 rfl (p := 0) (b := 17) (v := 0) rfl
          have hF2069 := Fr.wI (p := 0) (b := 17) (v := 0) hF2067 rfl
          refine r_iload_n rfl ?_
          refine q_ireti ?_
          refine At.enter rfl ?_
          refine r_ireti ?_
          have zv2070 : (0 : Int32).toInt = 0 := rfl
          have e : a1.toInt = 1 := by omega
          have k2071_ : (eA g0 173 1).toInt = v1774.toInt := by rw [← hv1774, e]
          have k2071 : (eA g0 173 1).toInt ≠ 0 := by omega
          obtain ⟨v2072, hv2072⟩ : ∃ v, eA g0 173 0 = v := ⟨_, rfl⟩
          have tv2072 := congrArg Int32.toInt hv2072
          have x2073 := HI.eqA hI0 (p := 173) (j := 0) (hv2072)
          obtain ⟨v2074, hv2074⟩ : ∃ v, eA g0 173 1 = v := ⟨_, rfl⟩
          have tv2074 := congrArg Int32.toInt hv2074
          have x2075 := HI.eqA hI0 (p := 173) (j := 1) (hv2074)
          have y2076 : (eA g0 173 1).toInt = v1774.toInt := by rw [← hv1774, show a1.toInt = 1 by omega]
          exact ⟨_, rfl, hI2068, hF2069, _, rfl, by decide, ⟨⟨(fun h => absurd (e.symm.trans h.1) (by decide)), (fun _ => ⟨(by first | rfl | decide), (HI.eqI hI2068 (p := 1) (b := 0) ((((gI_sI_ne (by decide)).trans ((hF2064.1 1 0 (by decide)).trans ((gI_sW).trans ((gI_sW).trans ((gI_sI_ne (by decide)).trans ((gI_sI_ne (by decide)).trans ((gI_sI_ne (by decide)).trans (gI_sI_ne (by decide))))))))).trans e2026))).trans (HI.eqI hI0 (p := 116) (b := 0) (hv1776)).symm, (HI.eqI hI2068 (p := 1) (b := 12) (((gI_sI_ne (by decide)).trans ((hF2064.1 1 12 (by decide)).trans ((gI_sW).trans ((gI_sW).trans (gI_sI_eq hI2047.1 kx_1 rfl _))))))).trans (HI.eqI hI0 (p := 116) (b := 12) (hv2049)).symm, (HI.eqI hI2068 (p := 1) (b := 10) (((gI_sI_ne (by decide)).trans ((hF2064.1 1 10 (by decide)).trans ((gI_sW).trans ((gI_sW).trans ((gI_sI_ne (by decide)).trans ((gI_sI_ne (by decide)).trans (gI_sI_eq hI2041.1 kx_1 rfl _))))))))).trans (HI.eqI hI0 (p := 116) (b := 10) (hv2043)).symm, (HI.eqI hI2068 (p := 1) (b := 11) (((gI_sI_ne (by decide)).trans ((hF2064.1 1 11 (by decide)).trans ((gI_sW).trans ((gI_sW).trans ((gI_sI_ne (by decide)).trans (gI_sI_eq hI2044.1 kx_1 rfl _)))))))).trans (HI.eqI hI0 (p := 116) (b := 11) (hv2046)).symm⟩), (fun h => absurd ⟨e, k2071⟩ h.2), (fun h => False.elim (by omega)), (fun h => absurd ⟨e, k2071⟩ h.2.2.2)⟩, (by intro i i0 i1; exact (Decidable.em (a1.toInt = 0 ∧ (eA g0 173 0).toInt ≠ 0)).elim (fun k71_ => by refine Eq.trans ?_ (if_pos k71_).symm; refine (eA_ti (((gA_sI).trans ((hF2064.2.1 2 (by decide)).trans ((gA_sW_ne (by decide)).trans ((gA_sW_ne (by decide)).trans ((gA_sI).trans ((gA_sI).trans ((gA_sI).trans (gA_sI)))))))))).trans ?_; refine ((q2031 (i) (by omega) (by omega))).trans ?_; (first | rfl | exact eA_ix (by omega) | omega)) (fun k71_ => by refine Eq.trans ?_ (if_neg k71_).symm; exact (Decidable.em (a1.toInt = 1 ∧ (eA g0 173 1).toInt ≠ 0)).elim (fun k72_ => by refine Eq.trans ?_ (if_pos k72_).symm; refine (eA_ti (((gA_sI).trans ((hF2064.2.1 2 (by decide)).trans ((gA_sW_ne (by decide)).trans ((gA_sW_ne (by decide)).trans ((gA_sI).trans ((gA_sI).trans ((gA_sI).trans (gA_sI)))))))))).trans ?_; refine ((q2031 (i) (by omega) (by omega))).trans ?_; (first | rfl | exact eA_ix (by omega) | omega)) (fun k72_ => by refine Eq.trans ?_ (if_neg k72_).symm; refine (eA_ti (((gA_sI).trans ((hF2064.2.1 2 (by decide)).trans ((gA_sW_ne (by decide)).trans ((gA_sW_ne (by decide)).trans ((gA_sI).trans ((gA_sI).trans ((gA_sI).trans (gA_sI)))))))))).trans ?_; refine ((q2031 (i) (by omega) (by omega))).trans ?_; (first | rfl | exact eA_ix (by omega) | omega)))), (by intro i i0 i1; exact (Decidable.em (a1.toInt = 0 ∧ (eA g0 173 0).toInt ≠ 0)).elim (fun k73_ => by refine Eq.trans ?_ (if_pos k73_).symm; refine (eA_ti (((gA_sI).trans ((hF2064.2.1 3 (by decide)).trans ((gA_sW_ne (by decide)).trans ((gA_sW_ne (by decide)).trans ((gA_sI).trans ((gA_sI).trans ((gA_sI).trans (gA_sI)))))))))).trans ?_; refine ((q2032 (i) (by omega) (by omega))).trans ?_; (first | rfl | exact eA_ix (by omega) | omega)) (fun k73_ => by refine Eq.trans ?_ (if_neg k73_).symm; exact (Decidable.em (a1.toInt = 1 ∧ (eA g0 173 1).toInt ≠ 0)).elim (fun k74_ => by refine Eq.trans ?_ (if_pos k74_).symm; refine (eA_ti (((gA_sI).trans ((hF2064.2.1 3 (by decide)).trans ((gA_sW_ne (by decide)).trans ((gA_sW_ne (by decide)).trans ((gA_sI).trans ((gA_sI).trans ((gA_sI).trans (gA_sI)))))))))).trans ?_; refine ((q2032 (i) (by omega) (by omega))).trans ?_; (first | rfl | exact eA_ix (by omega) | omega)) (fun k74_ => by refine Eq.trans ?_ (if_neg k74_).symm; refine (eA_ti (((gA_sI).trans ((hF2064.2.1 3 (by decide)).trans ((gA_sW_ne (by decide)).trans ((gA_sW_ne (by decide)).trans ((gA_sI).trans ((gA_sI).trans ((gA_sI).trans (gA_sI)))))))))).trans ?_; refine ((q2032 (i) (by omega) (by omega))).trans ?_; (first | rfl | exact eA_ix (by omega) | omega)))), (by intro i i0 i1; exact (Decidable.em (a1.toInt = 0 ∧ (eA g0 173 0).toInt ≠ 0)).elim (fun k75_ => by refine Eq.trans ?_ (if_pos k75_).symm; refine (eA_ti (((gA_sI).trans ((hF2064.2.1 4 (by decide)).trans ((gA_sW_ne (by decide)).trans ((gA_sW_ne (by decide)).trans ((gA_sI).trans ((gA_sI).trans ((gA_sI).trans (gA_sI)))))))))).trans ?_; refine ((q2033 (i) (by omega) (by omega))).trans ?_; (first | rfl | exact eA_ix (by omega) | omega)) (fun k75_ => by refine Eq.trans ?_ (if_neg k75_).symm; exact (Decidable.em (a1.toInt = 1 ∧ (eA g0 173 1).toInt ≠ 0)).elim (fun k76_ => by refine Eq.trans ?_ (if_pos k76_).symm; refine (eA_ti (((gA_sI).trans ((hF2064.2.1 4 (by decide)).trans ((gA_sW_ne (by decide)).trans ((gA_sW_ne (by decide)).trans ((gA_sI).trans ((gA_sI).trans ((gA_sI).trans (gA_sI)))))))))).trans ?_; refine ((q2033 (i) (by omega) (by omega))).trans ?_; (first | rfl | exact eA_ix (by omega) | omega)) (fun k76_ => by refine Eq.trans ?_ (if_neg k76_).symm; refine (eA_ti (((gA_sI).trans ((hF2064.2.1 4 (by decide)).trans ((gA_sW_ne (by decide)).trans ((gA_sW_ne (by decide)).trans ((gA_sI).trans ((gA_sI).trans ((gA_sI).trans (gA_sI)))))))))).trans ?_; refine ((q2033 (i) (by omega) (by omega))).trans ?_; (first | rfl | exact eA_ix (by omega) | omega)))), (by intro i i0 i1; exact (Decidable.em (a1.toInt = 0 ∧ (eA g0 173 0).toInt ≠ 0)).elim (fun k77_ => by refine Eq.trans ?_ (if_pos k77_).symm; refine (eA_tq (((gA_sI).trans ((hF2064.2.1 14 (by decide)).trans ((gA_sW_ne (by decide)).trans ((gA_cpF hI2050.1 ka_129 ka_14 (by decide) (by decide) (by decide)).trans ((gA_sI).trans ((gA_sI).trans ((gA_sI).trans ((gA_sI).trans (hF2022.2.1 129 (by decide)))))))))))).trans ?_; (first | rfl | exact eA_ix (by omega) | omega)) (fun k77_ => by refine Eq.trans ?_ (if_neg k77_).symm; exact (Decidable.em (a1.toInt = 1 ∧ (eA g0 173 1).toInt ≠ 0)).elim (fun k78_ => by refine Eq.trans ?_ (if_pos k78_).symm; refine (eA_tq (((gA_sI).trans ((hF2064.2.1 14 (by decide)).trans ((gA_sW_ne (by decide)).trans ((gA_cpF hI2050.1 ka_129 ka_14 (by decide) (by decide) (by decide)).trans ((gA_sI).trans ((gA_sI).trans ((gA_sI).trans ((gA_sI).trans (hF2022.2.1 129 (by decide)))))))))))).trans ?_; (first | rfl | exact eA_ix (by omega) | omega)) (fun k78_ => by refine Eq.trans ?_ (if_neg k78_).symm; refine (eA_tq (((gA_sI).trans ((hF2064.2.1 14 (by decide)).trans ((gA_sW_ne (by decide)).trans ((gA_cpF hI2050.1 ka_129 ka_14 (by decide) (by decide) (by decide)).trans ((gA_sI).trans ((gA_sI).trans ((gA_sI).trans ((gA_sI).trans (hF2022.2.1 129 (by decide)))))))))))).trans ?_; (first | rfl | exact eA_ix (by omega) | omega)))), (by intro i i0 i1; exact (Decidable.em (a1.toInt = 0 ∧ (eA g0 173 0).toInt ≠ 0)).elim (fun k79_ => by refine Eq.trans ?_ (if_pos k79_).symm; refine (eA_tq (((gA_sI).trans ((hF2064.2.1 15 (by decide)).trans ((gA_cpF hI2055.1 ka_130 ka_15 (by decide) (by decide) (by decide)).trans ((gA_sW_ne (by decide)).trans ((gA_sI).trans ((gA_sI).trans ((gA_sI).trans ((gA_sI).trans (hF2022.2.1 130 (by decide)))))))))))).trans ?_; (first | rfl | exact eA_ix (by omega) | omega)) (fun k79_ => by refine Eq.trans ?_ (if_neg k79_).symm; exact (Decidable.em (a1.toInt = 1 ∧ (eA g0 173 1).toInt ≠ 0)).elim (fun k80_ => by refine Eq.trans ?_ (if_pos k80_).symm; refine (eA_tq (((gA_sI).trans ((hF2064.2.1 15 (by decide)).trans ((gA_cpF hI2055.1 ka_130 ka_15 (by decide) (by decide) (by decide)).trans ((gA_sW_ne (by decide)).trans ((gA_sI).trans ((gA_sI).trans ((gA_sI).trans ((gA_sI).trans (hF2022.2.1 130 (by decide)))))))))))).trans ?_; (first | rfl | exact eA_ix (by omega) | omega)) (fun k80_ => by refine Eq.trans ?_ (if_neg k80_).symm; refine (eA_tq (((gA_sI).trans ((hF2064.2.1 15 (by decide)).trans ((gA_cpF hI2055.1 ka_130 ka_15 (by decide) (by decide) (by decide)).trans ((gA_sW_ne (by decide)).trans ((gA_sI).trans ((gA_sI).trans ((gA_sI).trans ((gA_sI).trans (hF2022.2.1 130 (by decide)))))))))))).trans ?_; (first | rfl | exact eA_ix (by omega) | omega))))⟩⟩
        · have c2039_ : x2019.toInt < 6 := en_i_ge_f c2039
          refine At.enter rfl ?_
          refine r_aload_n e2027 ?_
          refine r_iload_n e2029 ?_
          refine r_callV 97 rfl [.ref 1, .int x2019] [] (Nat.le_of_ble_eq_true rfl) rfl (T_X0_lawAt_1 _ hI2021 x2019) ?_
          rintro _ _ ⟨g2077, rfl, hI2078, hF2079, v2080, rfl, hr2081⟩
          refine At.str ?_
          have hF2082 := Fr.tr hF2022 hF2079 rfl rfl
          refine At.enter rfl ?_
          refine r_aload_n e2028 ?_
          refine r_iload_n e2029 ?_
          refine r_callV 102 rfl [.ref 116, .int x2019] [.ref (v2080)] (Nat.le_of_ble_eq_true rfl) rfl (T_X0_lawAt_116 _ hI2078 x2019) ?_
          rintro _ _ ⟨g2083, rfl, hI2084, hF2085, v2086, rfl, hr2087⟩
          refine At.str ?_
          have hF2088 := Fr.tr hF2082 hF2085 rfl rfl
          refine At.enter rfl ?_
          refine r_callV 105 rfl [.ref (v2080), .ref (v2086)] [] (Nat.le_of_ble_eq_true rfl) rfl (T_X4_become_law _ hI2084 (v2080) hr2081 (v2086) hr2087) ?_
          rintro _ _ ⟨g2089, rfl, hI2090, hF2091, rfl⟩
          refine At.stn ?_
          have hF2094 := Fr.tr hF2088 hF2091 rfl rfl
          refine At.enter rfl ?_
          refine q_iinc e2029 (x2019.toInt + 1) rfl (by omega) (fun v2095 hv2095 => ?_)
          refine r_goto ?_
          exact ih2025 (6 - v2095.toInt) _ _ ⟨v2095, by first | rfl | omega, hI2090, hF2094, (((hF2091.1 1 0 (by decide)).trans ((hF2085.1 1 0 (by decide)).trans (hF2079.1 1 0 (by decide)))).trans e2026), (w_p1 (by decide) (Or.inr rfl) e2027), (w_p1 (by decide) (Or.inr rfl) e2028), (w_e1 _ _ _), by omega, (by intro i i0 i1; refine (eA_ti (((hF2091.2.1 2 (by decide)).trans ((hF2085.2.1 2 (by decide)).trans (hF2079.2.1 2 (by decide)))))).trans ?_; refine ((q2031 (i) (by omega) (by omega))).trans ?_; (first | rfl | exact eA_ix (by omega) | omega)), (by intro i i0 i1; refine (eA_ti (((hF2091.2.1 3 (by decide)).trans ((hF2085.2.1 3 (by decide)).trans (hF2079.2.1 3 (by decide)))))).trans ?_; refine ((q2032 (i) (by omega) (by omega))).trans ?_; (first | rfl | exact eA_ix (by omega) | omega)), (by intro i i0 i1; refine (eA_ti (((hF2091.2.1 4 (by decide)).trans ((hF2085.2.1 4 (by decide)).trans (hF2079.2.1 4 (by decide)))))).trans ?_; refine ((q2033 (i) (by omega) (by omega))).trans ?_; (first | rfl | exact eA_ix (by omega) | omega)), (by intro i i0 i1; refine (eA_ti (((hF2091.2.1 14 (by decide)).trans ((hF2085.2.1 14 (by decide)).trans (hF2079.2.1 14 (by decide)))))).trans ?_; refine ((q2034 (i) (by omega) (by omega))).trans ?_; (first | rfl | exact eA_ix (by omega) | omega)), (by intro i i0 i1; refine (eA_ti (((hF2091.2.1 15 (by decide)).trans ((hF2085.2.1 15 (by decide)).trans (hF2079.2.1 15 (by decide)))))).trans ?_; refine ((q2035 (i) (by omega) (by omega))).trans ?_; (first | rfl | exact eA_ix (by omega) | omega))⟩ ⟨by omega, by omega⟩
      · have c1775_ : v1774.toInt = 0 := en_k_ne_f c1775
        refine At.enter rfl ?_
        refine r_aload_n rfl ?_
        refine r_bipush (-2) rfl ?_
        refine r_callV 31 rfl [.ref 0, .int (-2)] [] (Nat.le_of_ble_eq_true rfl) rfl (T_X10_refused_0 _ hI0 (-2) (by decide)) ?_
        rintro _ _ ⟨g2096, rfl, hI2097, hF2098, v2099, rfl, hr2100⟩
        refine At.sti ?_
        have hF2101 := Fr.tr hF0 hF2098 rfl rfl
        have zv2102 : ((-2) : Int32).toInt = (-2) := rfl
        refine At.enter rfl ?_
        refine r_ireti ?_
        obtain ⟨v2103, hv2103⟩ : ∃ v, gI g0 1 0 = v := ⟨_, rfl⟩
        have rv2103 := RgF.at hI0.2.1 (p := 1) (b := 0) rfl
        rw [hv2103] at rv2103
        dsimp only at rv2103
        have tv2103 := congrArg Int32.toInt hv2103
        have x2104 := HI.eqI hI0 (p := 1) (b := 0) (hv2103)
        obtain ⟨v2105, hv2105⟩ : ∃ v, gI g0 1 12 = v := ⟨_, rfl⟩
        have rv2105 := RgF.at hI0.2.1 (p := 1) (b := 12) rfl
        rw [hv2105] at rv2105
        dsimp only at rv2105
        have tv2105 := congrArg Int32.toInt hv2105
        have x2106 := HI.eqI hI0 (p := 1) (b := 12) (hv2105)
        obtain ⟨v2107, hv2107⟩ : ∃ v, gI g0 1 10 = v := ⟨_, rfl⟩
        have tv2107 := congrArg Int32.toInt hv2107
        have x2108 := HI.eqI hI0 (p := 1) (b := 10) (hv2107)
        obtain ⟨v2109, hv2109⟩ : ∃ v, gI g0 1 11 = v := ⟨_, rfl⟩
        have tv2109 := congrArg Int32.toInt hv2109
        have x2110 := HI.eqI hI0 (p := 1) (b := 11) (hv2109)
        obtain ⟨v2111, hv2111⟩ : ∃ v, gI g0 59 0 = v := ⟨_, rfl⟩
        have rv2111 := RgF.at hI0.2.1 (p := 59) (b := 0) rfl
        rw [hv2111] at rv2111
        dsimp only at rv2111
        have tv2111 := congrArg Int32.toInt hv2111
        have x2112 := HI.eqI hI0 (p := 59) (b := 0) (hv2111)
        obtain ⟨v2113, hv2113⟩ : ∃ v, gI g0 59 12 = v := ⟨_, rfl⟩
        have rv2113 := RgF.at hI0.2.1 (p := 59) (b := 12) rfl
        rw [hv2113] at rv2113
        dsimp only at rv2113
        have tv2113 := congrArg Int32.toInt hv2113
        have x2114 := HI.eqI hI0 (p := 59) (b := 12) (hv2113)
        obtain ⟨v2115, hv2115⟩ : ∃ v, gI g0 59 10 = v := ⟨_, rfl⟩
        have tv2115 := congrArg Int32.toInt hv2115
        have x2116 := HI.eqI hI0 (p := 59) (b := 10) (hv2115)
        obtain ⟨v2117, hv2117⟩ : ∃ v, gI g0 59 11 = v := ⟨_, rfl⟩
        have tv2117 := congrArg Int32.toInt hv2117
        have x2118 := HI.eqI hI0 (p := 59) (b := 11) (hv2117)
        obtain ⟨v2119, hv2119⟩ : ∃ v, gI g0 116 0 = v := ⟨_, rfl⟩
        have rv2119 := RgF.at hI0.2.1 (p := 116) (b := 0) rfl
        rw [hv2119] at rv2119
        dsimp only at rv2119
        have tv2119 := congrArg Int32.toInt hv2119
        have x2120 := HI.eqI hI0 (p := 116) (b := 0) (hv2119)
        obtain ⟨v2121, hv2121⟩ : ∃ v, gI g0 116 12 = v := ⟨_, rfl⟩
        have rv2121 := RgF.at hI0.2.1 (p := 116) (b := 12) rfl
        rw [hv2121] at rv2121
        dsimp only at rv2121
        have tv2121 := congrArg Int32.toInt hv2121
        have x2122 := HI.eqI hI0 (p := 116) (b := 12) (hv2121)
        obtain ⟨v2123, hv2123⟩ : ∃ v, gI g0 116 10 = v := ⟨_, rfl⟩
        have tv2123 := congrArg Int32.toInt hv2123
        have x2124 := HI.eqI hI0 (p := 116) (b := 10) (hv2123)
        obtain ⟨v2125, hv2125⟩ : ∃ v, gI g0 116 11 = v := ⟨_, rfl⟩
        have tv2125 := congrArg Int32.toInt hv2125
        have x2126 := HI.eqI hI0 (p := 116) (b := 11) (hv2125)
        obtain ⟨v2127, hv2127⟩ : ∃ v, eA g0 173 0 = v := ⟨_, rfl⟩
        have tv2127 := congrArg Int32.toInt hv2127
        have x2128 := HI.eqA hI0 (p := 173) (j := 0) (hv2127)
        obtain ⟨v2129, hv2129⟩ : ∃ v, eA g0 173 1 = v := ⟨_, rfl⟩
        have tv2129 := congrArg Int32.toInt hv2129
        have x2130 := HI.eqA hI0 (p := 173) (j := 1) (hv2129)
        have y2131 : (eA g0 173 1).toInt = v1774.toInt := by rw [← hv1774, show a1.toInt = 1 by omega]
        have y2132 : a1.toInt = 1 → (eA g0 173 1).toInt = v1774.toInt := fun e => by rw [← hv1774, e]
        have e : a1.toInt = 1 := by omega
        have z2133 := HI.eqI hI2097 (p := 1) (b := 0) (((hF2098.1 1 0 (by decide)).trans hv2103))
        have z2134 := HI.eqI hI2097 (p := 1) (b := 12) (((hF2098.1 1 12 (by decide)).trans hv2105))
        have z2135 := HI.eqI hI2097 (p := 1) (b := 10) (((hF2098.1 1 10 (by decide)).trans hv2107))
        have z2136 := HI.eqI hI2097 (p := 1) (b := 11) (((hF2098.1 1 11 (by decide)).trans hv2109))
        have x2137 := HI.eqA hI0 (p := 173) (j := 0) (hv2127)
        have x2138 := HI.eqA hI0 (p := 173) (j := 1) (hv2129)
        have y2139 : (eA g0 173 1).toInt = v1774.toInt := by rw [← hv1774, show a1.toInt = 1 by omega]
        exact ⟨_, rfl, hI2097, hF2101, _, rfl, by omega, ⟨⟨by omega, by omega, by omega, by omega, by omega⟩, (by intro i i0 i1; refine Eq.trans ?_ (if_neg (show ¬ (a1.toInt = 0 ∧ (eA g0 173 0).toInt ≠ 0) from by omega)).symm; refine Eq.trans ?_ (if_neg (show ¬ (a1.toInt = 1 ∧ (eA g0 173 1).toInt ≠ 0) from by omega)).symm; refine (eA_ti ((hF2098.2.1 2 (by decide)))).trans ?_; (first | rfl | exact eA_ix (by omega) | omega)), (by intro i i0 i1; refine Eq.trans ?_ (if_neg (show ¬ (a1.toInt = 0 ∧ (eA g0 173 0).toInt ≠ 0) from by omega)).symm; refine Eq.trans ?_ (if_neg (show ¬ (a1.toInt = 1 ∧ (eA g0 173 1).toInt ≠ 0) from by omega)).symm; refine (eA_ti ((hF2098.2.1 3 (by decide)))).trans ?_; (first | rfl | exact eA_ix (by omega) | omega)), (by intro i i0 i1; refine Eq.trans ?_ (if_neg (show ¬ (a1.toInt = 0 ∧ (eA g0 173 0).toInt ≠ 0) from by omega)).symm; refine Eq.trans ?_ (if_neg (show ¬ (a1.toInt = 1 ∧ (eA g0 173 1).toInt ≠ 0) from by omega)).symm; refine (eA_ti ((hF2098.2.1 4 (by decide)))).trans ?_; (first | rfl | exact eA_ix (by omega) | omega)), (by intro i i0 i1; refine Eq.trans ?_ (if_neg (show ¬ (a1.toInt = 0 ∧ (eA g0 173 0).toInt ≠ 0) from by omega)).symm; refine Eq.trans ?_ (if_neg (show ¬ (a1.toInt = 1 ∧ (eA g0 173 1).toInt ≠ 0) from by omega)).symm; refine (eA_ti ((hF2098.2.1 14 (by decide)))).trans ?_; (first | rfl | exact eA_ix (by omega) | omega)), (by intro i i0 i1; refine Eq.trans ?_ (if_neg (show ¬ (a1.toInt = 0 ∧ (eA g0 173 0).toInt ≠ 0) from by omega)).symm; refine Eq.trans ?_ (if_neg (show ¬ (a1.toInt = 1 ∧ (eA g0 173 1).toInt ≠ 0) from by omega)).symm; refine (eA_ti ((hF2098.2.1 15 (by decide)))).trans ?_; (first | rfl | exact eA_ix (by omega) | omega))⟩⟩
