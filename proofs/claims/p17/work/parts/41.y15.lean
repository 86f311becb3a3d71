def F_X10_back_0 : List (Nat × Nat) := [(0, 14), (0, 17), (1, 0), (1, 4), (1, 6), (1, 9), (1, 10), (1, 11), (1, 12), (7, 0), (7, 3), (7, 4), (16, 0), (16, 3), (16, 4), (23, 0), (23, 3), (23, 4), (30, 0), (30, 3), (30, 4), (37, 0), (37, 3), (37, 4), (44, 0), (44, 3), (44, 4), (51, 0), (51, 3), (51, 4), (65, 0), (65, 3), (65, 4), (74, 0), (74, 3), (74, 4), (81, 0), (81, 3), (81, 4), (88, 0), (88, 3), (88, 4), (95, 0), (95, 3), (95, 4), (102, 0), (102, 3), (102, 4), (109, 0), (109, 3), (109, 4), (122, 0), (122, 3), (122, 4), (131, 0), (131, 3), (131, 4), (138, 0), (138, 3), (138, 4), (145, 0), (145, 3), (145, 4), (152, 0), (152, 3), (152, 4), (159, 0), (159, 3), (159, 4), (166, 0), (166, 3), (166, 4), (177, 0), (177, 3), (177, 4), (220, 2), (222, 2), (223, 5), (223, 10)]
def A_X10_back_0 : List Nat := [2, 3, 4, 5, 8, 9, 10, 11, 12, 13, 14, 15, 17, 18, 19, 20, 21, 22, 24, 25, 26, 27, 28, 29, 31, 32, 33, 34, 35, 36, 38, 39, 40, 41, 42, 43, 45, 46, 47, 48, 49, 50, 52, 53, 54, 55, 56, 57, 66, 67, 68, 69, 70, 71, 75, 76, 77, 78, 79, 80, 82, 83, 84, 85, 86, 87, 89, 90, 91, 92, 93, 94, 96, 97, 98, 99, 100, 101, 103, 104, 105, 106, 107, 108, 110, 111, 112, 113, 114, 115, 123, 124, 125, 126, 127, 128, 132, 133, 134, 135, 136, 137, 139, 140, 141, 142, 143, 144, 146, 147, 148, 149, 150, 151, 153, 154, 155, 156, 157, 158, 160, 161, 162, 163, 164, 165, 167, 168, 169, 170, 171, 172, 178, 179, 180, 181, 182, 183, 230]
set_option maxRecDepth 100000 in
set_option maxHeartbeats 4000000 in
theorem T_X10_back_0 (d : Nat) {N : Nat} {g0 : List en_E} (hI0 : HI g0) (a1 : Int32) : Ev (d + 3) 141 [.ref 0, .int a1] (g0, N) (fun w h' => ∃ g', h' = (g', N) ∧ HI g' ∧ Fr F_X10_back_0 A_X10_back_0 g0 g' ∧ ∃ r : Int32, w = some (.int r) ∧ ((-2) ≤ r.toInt ∧ r.toInt ≤ 0) ∧ (((a1.toInt = 0 ∧ (eA g0 173 0).toInt ≠ 0 → r.toInt = 0 ∧ (gI g' 1 0).toInt = (gI g0 59 0).toInt ∧ (gI g' 1 12).toInt = (gI g0 59 12).toInt ∧ (gI g' 1 10).toInt = (gI g0 59 10).toInt ∧ (gI g' 1 11).toInt = (gI g0 59 11).toInt ∧ (gI g' 1 4).toInt = (gI g0 59 4).toInt) ∧ (a1.toInt = 1 ∧ (eA g0 173 1).toInt ≠ 0 → r.toInt = 0 ∧ (gI g' 1 0).toInt = (gI g0 116 0).toInt ∧ (gI g' 1 12).toInt = (gI g0 116 12).toInt ∧ (gI g' 1 10).toInt = (gI g0 116 10).toInt ∧ (gI g' 1 11).toInt = (gI g0 116 11).toInt ∧ (gI g' 1 4).toInt = (gI g0 116 4).toInt) ∧ (¬ (a1.toInt = 0 ∧ (eA g0 173 0).toInt ≠ 0) ∧ ¬ (a1.toInt = 1 ∧ (eA g0 173 1).toInt ≠ 0) → (gI g' 1 0).toInt = (gI g0 1 0).toInt ∧ (gI g' 1 12).toInt = (gI g0 1 12).toInt ∧ (gI g' 1 10).toInt = (gI g0 1 10).toInt ∧ (gI g' 1 11).toInt = (gI g0 1 11).toInt ∧ (gI g' 1 4).toInt = (gI g0 1 4).toInt) ∧ (a1.toInt < 0 ∨ 1 < a1.toInt → r.toInt = -1) ∧ (0 ≤ a1.toInt ∧ a1.toInt ≤ 1 ∧ ¬ (a1.toInt = 0 ∧ (eA g0 173 0).toInt ≠ 0) ∧ ¬ (a1.toInt = 1 ∧ (eA g0 173 1).toInt ≠ 0) → r.toInt = -2)) ∧ (∀ i : Int, 0 ≤ i → i < 12 → (eA g' 2 (i)).toInt = if a1.toInt = 0 ∧ (eA g0 173 0).toInt ≠ 0 then (eA g0 60 (i)).toInt else if a1.toInt = 1 ∧ (eA g0 173 1).toInt ≠ 0 then (eA g0 117 (i)).toInt else (eA g0 2 (i)).toInt) ∧ (∀ i : Int, 0 ≤ i → i < 12 → (eA g' 3 (i)).toInt = if a1.toInt = 0 ∧ (eA g0 173 0).toInt ≠ 0 then (eA g0 61 (i)).toInt else if a1.toInt = 1 ∧ (eA g0 173 1).toInt ≠ 0 then (eA g0 118 (i)).toInt else (eA g0 3 (i)).toInt) ∧ (∀ i : Int, 0 ≤ i → i < 12 → (eA g' 4 (i)).toInt = if a1.toInt = 0 ∧ (eA g0 173 0).toInt ≠ 0 then (eA g0 62 (i)).toInt else if a1.toInt = 1 ∧ (eA g0 173 1).toInt ≠ 0 then (eA g0 119 (i)).toInt else (eA g0 4 (i)).toInt) ∧ (∀ i : Int, 0 ≤ i → i < 8 → (eA g' 14 (i)).toInt = if a1.toInt = 0 ∧ (eA g0 173 0).toInt ≠ 0 then (eA g0 72 (i)).toInt else if a1.toInt = 1 ∧ (eA g0 173 1).toInt ≠ 0 then (eA g0 129 (i)).toInt else (eA g0 14 (i)).toInt) ∧ (∀ i : Int, 0 ≤ i → i < 8 → (eA g' 15 (i)).toInt = if a1.toInt = 0 ∧ (eA g0 173 0).toInt ≠ 0 then (eA g0 73 (i)).toInt else if a1.toInt = 1 ∧ (eA g0 173 1).toInt ≠ 0 then (eA g0 130 (i)).toInt else (eA g0 15 (i)).toInt) ∧ (∀ i : Int, 0 ≤ i → i < 48 → (eA g' 5 (i)).toInt = if a1.toInt = 0 ∧ (eA g0 173 0).toInt ≠ 0 then (eA g0 63 (i)).toInt else if a1.toInt = 1 ∧ (eA g0 173 1).toInt ≠ 0 then (eA g0 120 (i)).toInt else (eA g0 5 (i)).toInt))) := by
  have hF0 : Fr F_X10_back_0 A_X10_back_0 g0 g0 := Fr.rf
  refine Ev.mk rfl rfl ⟨Nat.le_of_ble_eq_true rfl, Or.inr (q_rc hI0.1 kx_0 rfl)⟩ ?_
  show At _ none _ _ (0, [(0, .ref 0), (1, .int a1)], [], (_, _)) _
  refine At.enter rfl ?_
  refine r_aload_n rfl ?_
  refine r_iload_n rfl ?_
  refine q_inlV 5 rfl [.ref 0, .int a1] [] (Nat.le_of_ble_eq_true rfl) rfl ?_
  refine Ev.mk rfl rfl ⟨Nat.le_of_ble_eq_true rfl, Or.inr (q_rc hI0.1 kx_0 rfl)⟩ ?_
  show At _ none _ _ (0, [(0, .ref 0), (1, .int a1)], [], (_, _)) _
  refine At.enter rfl ?_
  refine r_iload_n rfl ?_
  refine r_iconst 0 rfl ?_
  refine r_iconst 1 rfl ?_
  refine q_inlS 6 rfl [.int a1, .int 0, .int 1] [] (Nat.le_of_ble_eq_true rfl) rfl ?_
  refine Ev.mk rfl rfl ⟨Nat.le_of_ble_eq_true rfl, Or.inl rfl⟩ ?_
  show At _ none _ _ (0, [(0, .int a1), (1, .int 0), (2, .int 1)], [], (_, _)) _
  refine At.enter rfl ?_
  refine r_iload_n rfl ?_
  refine r_iload_n rfl ?_
  refine r_ics 5 rfl (fun c1335 => ?_) (fun c1335 => ?_)
  · have c1335_ : a1.toInt < 0 := en_i_lt_t c1335
    refine At.enter rfl ?_
    refine r_iconst 0 rfl ?_
    refine Ar.fall 15 rfl ?_
    refine At.enter rfl ?_
    refine q_iretz (by decide) ?_
    refine At.enter rfl ?_
    refine r_ift (by decide) ?_
    refine At.enter rfl ?_
    refine r_null ?_
    refine Ar.fall 19 rfl ?_
    refine At.enter rfl ?_
    refine q_zret ?_
    refine At.enter rfl ?_
    refine r_zstore_n ([(2, .null), (0, .ref 0), (1, .int a1)]) rfl ?_
    refine r_zload_n rfl ?_
    refine r_nnz 10 rfl ?_
    refine At.enter rfl ?_
    refine r_aload_n rfl ?_
    refine r_iconst (-1) rfl ?_
    refine r_callV 15 rfl [.ref 0, .int (-1)] [] (Nat.le_of_ble_eq_true rfl) rfl (T_X10_refused_0 _ hI0 (-1) (by decide)) ?_
    rintro _ _ ⟨g1336, rfl, hI1337, hF1338, v1339, rfl, hr1340⟩
    refine At.sti ?_
    have hF1341 := Fr.tr hF0 hF1338 rfl rfl
    have zv1342 : ((-1) : Int32).toInt = (-1) := rfl
    refine At.enter rfl ?_
    refine r_ireti ?_
    obtain ⟨v1343, hv1343⟩ : ∃ v, gI g0 1 0 = v := ⟨_, rfl⟩
    have rv1343 := RgF.at hI0.2.1 (p := 1) (b := 0) rfl
    rw [hv1343] at rv1343
    dsimp only at rv1343
    have tv1343 := congrArg Int32.toInt hv1343
    have x1344 := HI.eqI hI0 (p := 1) (b := 0) (hv1343)
    obtain ⟨v1345, hv1345⟩ : ∃ v, gI g0 1 12 = v := ⟨_, rfl⟩
    have rv1345 := RgF.at hI0.2.1 (p := 1) (b := 12) rfl
    rw [hv1345] at rv1345
    dsimp only at rv1345
    have tv1345 := congrArg Int32.toInt hv1345
    have x1346 := HI.eqI hI0 (p := 1) (b := 12) (hv1345)
    obtain ⟨v1347, hv1347⟩ : ∃ v, gI g0 1 10 = v := ⟨_, rfl⟩
    have tv1347 := congrArg Int32.toInt hv1347
    have x1348 := HI.eqI hI0 (p := 1) (b := 10) (hv1347)
    obtain ⟨v1349, hv1349⟩ : ∃ v, gI g0 1 11 = v := ⟨_, rfl⟩
    have tv1349 := congrArg Int32.toInt hv1349
    have x1350 := HI.eqI hI0 (p := 1) (b := 11) (hv1349)
    obtain ⟨v1351, hv1351⟩ : ∃ v, gI g0 1 4 = v := ⟨_, rfl⟩
    have rv1351 := RgF.at hI0.2.1 (p := 1) (b := 4) rfl
    rw [hv1351] at rv1351
    dsimp only at rv1351
    have tv1351 := congrArg Int32.toInt hv1351
    have x1352 := HI.eqI hI0 (p := 1) (b := 4) (hv1351)
    obtain ⟨v1353, hv1353⟩ : ∃ v, gI g0 59 0 = v := ⟨_, rfl⟩
    have rv1353 := RgF.at hI0.2.1 (p := 59) (b := 0) rfl
    rw [hv1353] at rv1353
    dsimp only at rv1353
    have tv1353 := congrArg Int32.toInt hv1353
    have x1354 := HI.eqI hI0 (p := 59) (b := 0) (hv1353)
    obtain ⟨v1355, hv1355⟩ : ∃ v, gI g0 59 12 = v := ⟨_, rfl⟩
    have rv1355 := RgF.at hI0.2.1 (p := 59) (b := 12) rfl
    rw [hv1355] at rv1355
    dsimp only at rv1355
    have tv1355 := congrArg Int32.toInt hv1355
    have x1356 := HI.eqI hI0 (p := 59) (b := 12) (hv1355)
    obtain ⟨v1357, hv1357⟩ : ∃ v, gI g0 59 10 = v := ⟨_, rfl⟩
    have tv1357 := congrArg Int32.toInt hv1357
    have x1358 := HI.eqI hI0 (p := 59) (b := 10) (hv1357)
    obtain ⟨v1359, hv1359⟩ : ∃ v, gI g0 59 11 = v := ⟨_, rfl⟩
    have tv1359 := congrArg Int32.toInt hv1359
    have x1360 := HI.eqI hI0 (p := 59) (b := 11) (hv1359)
    obtain ⟨v1361, hv1361⟩ : ∃ v, gI g0 59 4 = v := ⟨_, rfl⟩
    have rv1361 := RgF.at hI0.2.1 (p := 59) (b := 4) rfl
    rw [hv1361] at rv1361
    dsimp only at rv1361
    have tv1361 := congrArg Int32.toInt hv1361
    have x1362 := HI.eqI hI0 (p := 59) (b := 4) (hv1361)
    obtain ⟨v1363, hv1363⟩ : ∃ v, gI g0 116 0 = v := ⟨_, rfl⟩
    have rv1363 := RgF.at hI0.2.1 (p := 116) (b := 0) rfl
    rw [hv1363] at rv1363
    dsimp only at rv1363
    have tv1363 := congrArg Int32.toInt hv1363
    have x1364 := HI.eqI hI0 (p := 116) (b := 0) (hv1363)
    obtain ⟨v1365, hv1365⟩ : ∃ v, gI g0 116 12 = v := ⟨_, rfl⟩
    have rv1365 := RgF.at hI0.2.1 (p := 116) (b := 12) rfl
    rw [hv1365] at rv1365
    dsimp only at rv1365
    have tv1365 := congrArg Int32.toInt hv1365
    have x1366 := HI.eqI hI0 (p := 116) (b := 12) (hv1365)
    obtain ⟨v1367, hv1367⟩ : ∃ v, gI g0 116 10 = v := ⟨_, rfl⟩
    have tv1367 := congrArg Int32.toInt hv1367
    have x1368 := HI.eqI hI0 (p := 116) (b := 10) (hv1367)
    obtain ⟨v1369, hv1369⟩ : ∃ v, gI g0 116 11 = v := ⟨_, rfl⟩
    have tv1369 := congrArg Int32.toInt hv1369
    have x1370 := HI.eqI hI0 (p := 116) (b := 11) (hv1369)
    obtain ⟨v1371, hv1371⟩ : ∃ v, gI g0 116 4 = v := ⟨_, rfl⟩
    have rv1371 := RgF.at hI0.2.1 (p := 116) (b := 4) rfl
    rw [hv1371] at rv1371
    dsimp only at rv1371
    have tv1371 := congrArg Int32.toInt hv1371
    have x1372 := HI.eqI hI0 (p := 116) (b := 4) (hv1371)
    obtain ⟨v1373, hv1373⟩ : ∃ v, eA g0 173 0 = v := ⟨_, rfl⟩
    have tv1373 := congrArg Int32.toInt hv1373
    have x1374 := HI.eqA hI0 (p := 173) (j := 0) (hv1373)
    obtain ⟨v1375, hv1375⟩ : ∃ v, eA g0 173 1 = v := ⟨_, rfl⟩
    have tv1375 := congrArg Int32.toInt hv1375
    have x1376 := HI.eqA hI0 (p := 173) (j := 1) (hv1375)
    have x1377 := HI.eqI hI1337 (p := 1) (b := 0) (((hF1338.1 1 0 (by decide)).trans hv1343))
    have x1378 := HI.eqI hI1337 (p := 1) (b := 12) (((hF1338.1 1 12 (by decide)).trans hv1345))
    have x1379 := HI.eqI hI1337 (p := 1) (b := 10) (((hF1338.1 1 10 (by decide)).trans hv1347))
    have x1380 := HI.eqI hI1337 (p := 1) (b := 11) (((hF1338.1 1 11 (by decide)).trans hv1349))
    have x1381 := HI.eqI hI1337 (p := 1) (b := 4) (((hF1338.1 1 4 (by decide)).trans hv1351))
    have x1382 := HI.eqA hI0 (p := 173) (j := 0) (hv1373)
    have x1383 := HI.eqA hI0 (p := 173) (j := 1) (hv1375)
    exact ⟨_, rfl, hI1337, hF1341, _, rfl, by omega, ⟨⟨by omega, by omega, by omega, by omega, by omega⟩, (by intro i i0 i1; refine Eq.trans ?_ (if_neg (show ¬ (a1.toInt = 0 ∧ (eA g0 173 0).toInt ≠ 0) from by omega)).symm; refine Eq.trans ?_ (if_neg (show ¬ (a1.toInt = 1 ∧ (eA g0 173 1).toInt ≠ 0) from by omega)).symm; refine (eA_ti ((hF1338.2.1 2 (by decide)))).trans ?_; (first | rfl | exact eA_ix (by omega) | omega)), (by intro i i0 i1; refine Eq.trans ?_ (if_neg (show ¬ (a1.toInt = 0 ∧ (eA g0 173 0).toInt ≠ 0) from by omega)).symm; refine Eq.trans ?_ (if_neg (show ¬ (a1.toInt = 1 ∧ (eA g0 173 1).toInt ≠ 0) from by omega)).symm; refine (eA_ti ((hF1338.2.1 3 (by decide)))).trans ?_; (first | rfl | exact eA_ix (by omega) | omega)), (by intro i i0 i1; refine Eq.trans ?_ (if_neg (show ¬ (a1.toInt = 0 ∧ (eA g0 173 0).toInt ≠ 0) from by omega)).symm; refine Eq.trans ?_ (if_neg (show ¬ (a1.toInt = 1 ∧ (eA g0 173 1).toInt ≠ 0) from by omega)).symm; refine (eA_ti ((hF1338.2.1 4 (by decide)))).trans ?_; (first | rfl | exact eA_ix (by omega) | omega)), (by intro i i0 i1; refine Eq.trans ?_ (if_neg (show ¬ (a1.toInt = 0 ∧ (eA g0 173 0).toInt ≠ 0) from by omega)).symm; refine Eq.trans ?_ (if_neg (show ¬ (a1.toInt = 1 ∧ (eA g0 173 1).toInt ≠ 0) from by omega)).symm; refine (eA_ti ((hF1338.2.1 14 (by decide)))).trans ?_; (first | rfl | exact eA_ix (by omega) | omega)), (by intro i i0 i1; refine Eq.trans ?_ (if_neg (show ¬ (a1.toInt = 0 ∧ (eA g0 173 0).toInt ≠ 0) from by omega)).symm; refine Eq.trans ?_ (if_neg (show ¬ (a1.toInt = 1 ∧ (eA g0 173 1).toInt ≠ 0) from by omega)).symm; refine (eA_ti ((hF1338.2.1 15 (by decide)))).trans ?_; (first | rfl | exact eA_ix (by omega) | omega)), (by intro i i0 i1; refine Eq.trans ?_ (if_neg (show ¬ (a1.toInt = 0 ∧ (eA g0 173 0).toInt ≠ 0) from by omega)).symm; refine Eq.trans ?_ (if_neg (show ¬ (a1.toInt = 1 ∧ (eA g0 173 1).toInt ≠ 0) from by omega)).symm; refine (eA_ti ((hF1338.2.1 5 (by decide)))).trans ?_; (first | rfl | exact eA_ix (by omega) | omega))⟩⟩
  · have c1335_ : a1.toInt ≥ 0 := en_i_lt_f c1335
    refine At.enter rfl ?_
    refine r_iload_n rfl ?_
    refine r_iload_n rfl ?_
    refine r_ics 10 rfl (fun c1384 => ?_) (fun c1384 => ?_)
    · have c1384_ : a1.toInt > 1 := en_i_gt_t c1384
      refine At.enter rfl ?_
      refine r_iconst 0 rfl ?_
      refine Ar.fall 15 rfl ?_
      refine At.enter rfl ?_
      refine q_iretz (by decide) ?_
      refine At.enter rfl ?_
      refine r_ift (by decide) ?_
      refine At.enter rfl ?_
      refine r_null ?_
      refine Ar.fall 19 rfl ?_
      refine At.enter rfl ?_
      refine q_zret ?_
      refine At.enter rfl ?_
      refine r_zstore_n ([(2, .null), (0, .ref 0), (1, .int a1)]) rfl ?_
      refine r_zload_n rfl ?_
      refine r_nnz 10 rfl ?_
      refine At.enter rfl ?_
      refine r_aload_n rfl ?_
      refine r_iconst (-1) rfl ?_
      refine r_callV 15 rfl [.ref 0, .int (-1)] [] (Nat.le_of_ble_eq_true rfl) rfl (T_X10_refused_0 _ hI0 (-1) (by decide)) ?_
      rintro _ _ ⟨g1385, rfl, hI1386, hF1387, v1388, rfl, hr1389⟩
      refine At.sti ?_
      have hF1390 := Fr.tr hF0 hF1387 rfl rfl
      have zv1391 : ((-1) : Int32).toInt = (-1) := rfl
      refine At.enter rfl ?_
      refine r_ireti ?_
      obtain ⟨v1392, hv1392⟩ : ∃ v, gI g0 1 0 = v := ⟨_, rfl⟩
      have rv1392 := RgF.at hI0.2.1 (p := 1) (b := 0) rfl
      rw [hv1392] at rv1392
      dsimp only at rv1392
      have tv1392 := congrArg Int32.toInt hv1392
      have x1393 := HI.eqI hI0 (p := 1) (b := 0) (hv1392)
      obtain ⟨v1394, hv1394⟩ : ∃ v, gI g0 1 12 = v := ⟨_, rfl⟩
      have rv1394 := RgF.at hI0.2.1 (p := 1) (b := 12) rfl
      rw [hv1394] at rv1394
      dsimp only at rv1394
      have tv1394 := congrArg Int32.toInt hv1394
      have x1395 := HI.eqI hI0 (p := 1) (b := 12) (hv1394)
      obtain ⟨v1396, hv1396⟩ : ∃ v, gI g0 1 10 = v := ⟨_, rfl⟩
      have tv1396 := congrArg Int32.toInt hv1396
      have x1397 := HI.eqI hI0 (p := 1) (b := 10) (hv1396)
      obtain ⟨v1398, hv1398⟩ : ∃ v, gI g0 1 11 = v := ⟨_, rfl⟩
      have tv1398 := congrArg Int32.toInt hv1398
      have x1399 := HI.eqI hI0 (p := 1) (b := 11) (hv1398)
      obtain ⟨v1400, hv1400⟩ : ∃ v, gI g0 1 4 = v := ⟨_, rfl⟩
      have rv1400 := RgF.at hI0.2.1 (p := 1) (b := 4) rfl
      rw [hv1400] at rv1400
      dsimp only at rv1400
      have tv1400 := congrArg Int32.toInt hv1400
      have x1401 := HI.eqI hI0 (p := 1) (b := 4) (hv1400)
      obtain ⟨v1402, hv1402⟩ : ∃ v, gI g0 59 0 = v := ⟨_, rfl⟩
      have rv1402 := RgF.at hI0.2.1 (p := 59) (b := 0) rfl
      rw [hv1402] at rv1402
      dsimp only at rv1402
      have tv1402 := congrArg Int32.toInt hv1402
      have x1403 := HI.eqI hI0 (p := 59) (b := 0) (hv1402)
      obtain ⟨v1404, hv1404⟩ : ∃ v, gI g0 59 12 = v := ⟨_, rfl⟩
      have rv1404 := RgF.at hI0.2.1 (p := 59) (b := 12) rfl
      rw [hv1404] at rv1404
      dsimp only at rv1404
      have tv1404 := congrArg Int32.toInt hv1404
      have x1405 := HI.eqI hI0 (p := 59) (b := 12) (hv1404)
      obtain ⟨v1406, hv1406⟩ : ∃ v, gI g0 59 10 = v := ⟨_, rfl⟩
      have tv1406 := congrArg Int32.toInt hv1406
      have x1407 := HI.eqI hI0 (p := 59) (b := 10) (hv1406)
      obtain ⟨v1408, hv1408⟩ : ∃ v, gI g0 59 11 = v := ⟨_, rfl⟩
      have tv1408 := congrArg Int32.toInt hv1408
      have x1409 := HI.eqI hI0 (p := 59) (b := 11) (hv1408)
      obtain ⟨v1410, hv1410⟩ : ∃ v, gI g0 59 4 = v := ⟨_, rfl⟩
      have rv1410 := RgF.at hI0.2.1 (p := 59) (b := 4) rfl
      rw [hv1410] at rv1410
      dsimp only at rv1410
      have tv1410 := congrArg Int32.toInt hv1410
      have x1411 := HI.eqI hI0 (p := 59) (b := 4) (hv1410)
      obtain ⟨v1412, hv1412⟩ : ∃ v, gI g0 116 0 = v := ⟨_, rfl⟩
      have rv1412 := RgF.at hI0.2.1 (p := 116) (b := 0) rfl
      rw [hv1412] at rv1412
      dsimp only at rv1412
      have tv1412 := congrArg Int32.toInt hv1412
      have x1413 := HI.eqI hI0 (p := 116) (b := 0) (hv1412)
      obtain ⟨v1414, hv1414⟩ : ∃ v, gI g0 116 12 = v := ⟨_, rfl⟩
      have rv1414 := RgF.at hI0.2.1 (p := 116) (b := 12) rfl
      rw [hv1414] at rv1414
      dsimp only at rv1414
      have tv1414 := congrArg Int32.toInt hv1414
      have x1415 := HI.eqI hI0 (p := 116) (b := 12) (hv1414)
      obtain ⟨v1416, hv1416⟩ : ∃ v, gI g0 116 10 = v := ⟨_, rfl⟩
      have tv1416 := congrArg Int32.toInt hv1416
      have x1417 := HI.eqI hI0 (p := 116) (b := 10) (hv1416)
      obtain ⟨v1418, hv1418⟩ : ∃ v, gI g0 116 11 = v := ⟨_, rfl⟩
      have tv1418 := congrArg Int32.toInt hv1418
      have x1419 := HI.eqI hI0 (p := 116) (b := 11) (hv1418)
      obtain ⟨v1420, hv1420⟩ : ∃ v, gI g0 116 4 = v := ⟨_, rfl⟩
      have rv1420 := RgF.at hI0.2.1 (p := 116) (b := 4) rfl
      rw [hv1420] at rv1420
      dsimp only at rv1420
      have tv1420 := congrArg Int32.toInt hv1420
      have x1421 := HI.eqI hI0 (p := 116) (b := 4) (hv1420)
      obtain ⟨v1422, hv1422⟩ : ∃ v, eA g0 173 0 = v := ⟨_, rfl⟩
      have tv1422 := congrArg Int32.toInt hv1422
      have x1423 := HI.eqA hI0 (p := 173) (j := 0) (hv1422)
      obtain ⟨v1424, hv1424⟩ : ∃ v, eA g0 173 1 = v := ⟨_, rfl⟩
      have tv1424 := congrArg Int32.toInt hv1424
      have x1425 := HI.eqA hI0 (p := 173) (j := 1) (hv1424)
      have x1426 := HI.eqI hI1386 (p := 1) (b := 0) (((hF1387.1 1 0 (by decide)).trans hv1392))
      have x1427 := HI.eqI hI1386 (p := 1) (b := 12) (((hF1387.1 1 12 (by decide)).trans hv1394))
      have x1428 := HI.eqI hI1386 (p := 1) (b := 10) (((hF1387.1 1 10 (by decide)).trans hv1396))
      have x1429 := HI.eqI hI1386 (p := 1) (b := 11) (((hF1387.1 1 11 (by decide)).trans hv1398))
      have x1430 := HI.eqI hI1386 (p := 1) (b := 4) (((hF1387.1 1 4 (by decide)).trans hv1400))
      have x1431 := HI.eqA hI0 (p := 173) (j := 0) (hv1422)
      have x1432 := HI.eqA hI0 (p := 173) (j := 1) (hv1424)
      exact ⟨_, rfl, hI1386, hF1390, _, rfl, by omega, ⟨⟨by omega, by omega, by omega, by omega, by omega⟩, (by intro i i0 i1; refine Eq.trans ?_ (if_neg (show ¬ (a1.toInt = 0 ∧ (eA g0 173 0).toInt ≠ 0) from by omega)).symm; refine Eq.trans ?_ (if_neg (show ¬ (a1.toInt = 1 ∧ (eA g0 173 1).toInt ≠ 0) from by omega)).symm; refine (eA_ti ((hF1387.2.1 2 (by decide)))).trans ?_; (first | rfl | exact eA_ix (by omega) | omega)), (by intro i i0 i1; refine Eq.trans ?_ (if_neg (show ¬ (a1.toInt = 0 ∧ (eA g0 173 0).toInt ≠ 0) from by omega)).symm; refine Eq.trans ?_ (if_neg (show ¬ (a1.toInt = 1 ∧ (eA g0 173 1).toInt ≠ 0) from by omega)).symm; refine (eA_ti ((hF1387.2.1 3 (by decide)))).trans ?_; (first | rfl | exact eA_ix (by omega) | omega)), (by intro i i0 i1; refine Eq.trans ?_ (if_neg (show ¬ (a1.toInt = 0 ∧ (eA g0 173 0).toInt ≠ 0) from by omega)).symm; refine Eq.trans ?_ (if_neg (show ¬ (a1.toInt = 1 ∧ (eA g0 173 1).toInt ≠ 0) from by omega)).symm; refine (eA_ti ((hF1387.2.1 4 (by decide)))).trans ?_; (first | rfl | exact eA_ix (by omega) | omega)), (by intro i i0 i1; refine Eq.trans ?_ (if_neg (show ¬ (a1.toInt = 0 ∧ (eA g0 173 0).toInt ≠ 0) from by omega)).symm; refine Eq.trans ?_ (if_neg (show ¬ (a1.toInt = 1 ∧ (eA g0 173 1).toInt ≠ 0) from by omega)).symm; refine (eA_ti ((hF1387.2.1 14 (by decide)))).trans ?_; (first | rfl | exact eA_ix (by omega) | omega)), (by intro i i0 i1; refine Eq.trans ?_ (if_neg (show ¬ (a1.toInt = 0 ∧ (eA g0 173 0).toInt ≠ 0) from by omega)).symm; refine Eq.trans ?_ (if_neg (show ¬ (a1.toInt = 1 ∧ (eA g0 173 1).toInt ≠ 0) from by omega)).symm; refine (eA_ti ((hF1387.2.1 15 (by decide)))).trans ?_; (first | rfl | exact eA_ix (by omega) | omega)), (by intro i i0 i1; refine Eq.trans ?_ (if_neg (show ¬ (a1.toInt = 0 ∧ (eA g0 173 0).toInt ≠ 0) from by omega)).symm; refine Eq.trans ?_ (if_neg (show ¬ (a1.toInt = 1 ∧ (eA g0 173 1).toInt ≠ 0) from by omega)).symm; refine (eA_ti ((hF1387.2.1 5 (by decide)))).trans ?_; (first | rfl | exact eA_ix (by omega) | omega))⟩⟩
    · have c1384_ : a1.toInt ≤ 1 := en_i_gt_f c1384
      refine At.enter rfl ?_
      refine r_iconst 1 rfl ?_
      refine r_goto ?_
      refine At.enter rfl ?_
      refine q_iretz (by decide) ?_
      refine At.enter rfl ?_
      refine r_iff 9 rfl (by decide) ?_
      refine At.enter rfl ?_
      refine r_aload_n rfl ?_
      refine q_getR (Sh.ref hI0.1 kx_0 rfl) ?_
      refine r_iload_n rfl ?_
      by_cases c1433_0 : a1.toInt = 0
      · refine q_aald (Sh.rar hI0.1 ka_58) (by decide) 0 (by omega) (by decide) (some 59) rfl ?_
        refine r_goto ?_
        refine At.enter rfl ?_
        refine q_aret ?_
        refine At.enter rfl ?_
        refine r_astore_n ([(2, .ref 59), (0, .ref 0), (1, .int a1)]) rfl ?_
        refine r_aload_n rfl ?_
        refine r_nnr ?_
        refine At.enter rfl ?_
        refine r_aload_n rfl ?_
        refine q_getR (Sh.ref hI0.1 kx_0 rfl) ?_
        refine r_iload_n rfl ?_
        obtain ⟨v1434, hv1434⟩ : ∃ v, eA g0 173 a1.toInt = v := ⟨_, rfl⟩
        refine q_bald (Sh.arr hI0.1 ka_173) a1.toInt rfl (by omega) v1434 hv1434 ?_
        refine r_ifs 25 rfl (fun c1435 => ?_) (fun c1435 => ?_)
        · have c1435_ : v1434.toInt ≠ 0 := en_k_ne_t c1435
          refine At.enter rfl ?_
          refine r_aload_n rfl ?_
          refine q_getR (Sh.ref hI0.1 kx_0 rfl) ?_
          refine r_aload_n rfl ?_
          refine q_inlV 40 rfl [.ref 1, .ref 59] [] (Nat.le_of_ble_eq_true rfl) rfl ?_
          refine Ev.mk rfl rfl ⟨Nat.le_of_ble_eq_true rfl, Or.inr (q_rc hI0.1 kx_1 rfl)⟩ ?_
          show At _ none _ _ (0, [(0, .ref 1), (1, .ref 59)], [], (_, _)) _
          refine At.enter rfl ?_
          refine r_aload_n rfl ?_
          refine r_aload_n rfl ?_
          obtain ⟨v1436, hv1436⟩ : ∃ v, gI g0 59 0 = v := ⟨_, rfl⟩
          have rv1436 := RgF.at hI0.2.1 (p := 59) (b := 0) rfl
          rw [hv1436] at rv1436
          dsimp only at rv1436
          refine q_getI (Sh.int hI0.1 kx_59 rfl) v1436 hv1436 ?_
          refine q_putI (Sh.int hI0.1 kx_1 rfl) rfl ?_
          have hI1437 := HI.wI1 hI0 kx_1 rfl (p := 1) (b := 0) (v := v1436) rfl (by dsimp only; omega)
          have hF1438 := Fr.wI (p := 1) (b := 0) (v := v1436) hF0 rfl
          refine r_aload_n rfl ?_
          refine q_getR (Sh.ref hI1437.1 kx_59 rfl) ?_
          refine r_iconst 0 rfl ?_
          refine r_aload_n rfl ?_
          refine q_getR (Sh.ref hI1437.1 kx_1 rfl) ?_
          refine r_iconst 0 rfl ?_
          refine r_bipush 12 rfl ?_
          have zv1439 : (0 : Int32).toInt = 0 := rfl
          have zv1440 : (0 : Int32).toInt = 0 := rfl
          have zv1441 : (12 : Int32).toInt = 12 := rfl
          refine q_cpy rfl (Nat.le_of_ble_eq_true rfl) (Sh.arr hI1437.1 ka_60) (Sh.arr hI1437.1 ka_2) ⟨by omega, by omega, by omega, by omega, by omega⟩ ?_
          have hI1442 := HI.cpy0 hI1437 ka_60 ka_2 rfl rfl ((0 : Int32).toInt.toNat) ((0 : Int32).toInt.toNat) ((12 : Int32).toInt.toNat) (by omega) (by omega)
          have hF1443 := Fr.cpy (p0 := 60) (p1 := 2) hF1438 rfl ((0 : Int32).toInt.toNat) ((0 : Int32).toInt.toNat) ((12 : Int32).toInt.toNat)
          refine r_aload_n rfl ?_
          refine q_getR (Sh.ref hI1442.1 kx_59 rfl) ?_
          refine r_iconst 0 rfl ?_
          refine r_aload_n rfl ?_
          refine q_getR (Sh.ref hI1442.1 kx_1 rfl) ?_
          refine r_iconst 0 rfl ?_
          refine r_bipush 12 rfl ?_
          have zv1444 : (0 : Int32).toInt = 0 := rfl
          have zv1445 : (0 : Int32).toInt = 0 := rfl
          have zv1446 : (12 : Int32).toInt = 12 := rfl
          refine q_cpy rfl (Nat.le_of_ble_eq_true rfl) (Sh.arr hI1442.1 ka_61) (Sh.arr hI1442.1 ka_3) ⟨by omega, by omega, by omega, by omega, by omega⟩ ?_
          have hI1447 := HI.cpy0 hI1442 ka_61 ka_3 rfl rfl ((0 : Int32).toInt.toNat) ((0 : Int32).toInt.toNat) ((12 : Int32).toInt.toNat) (by omega) (by omega)
          have hF1448 := Fr.cpy (p0 := 61) (p1 := 3) hF1443 rfl ((0 : Int32).toInt.toNat) ((0 : Int32).toInt.toNat) ((12 : Int32).toInt.toNat)
          refine r_aload_n rfl ?_
          refine q_getR (Sh.ref hI1447.1 kx_59 rfl) ?_
          refine r_iconst 0 rfl ?_
          refine r_aload_n rfl ?_
          refine q_getR (Sh.ref hI1447.1 kx_1 rfl) ?_
          refine r_iconst 0 rfl ?_
          refine r_bipush 12 rfl ?_
          have zv1449 : (0 : Int32).toInt = 0 := rfl
          have zv1450 : (0 : Int32).toInt = 0 := rfl
          have zv1451 : (12 : Int32).toInt = 12 := rfl
          refine q_cpy rfl (Nat.le_of_ble_eq_true rfl) (Sh.arr hI1447.1 ka_62) (Sh.arr hI1447.1 ka_4) ⟨by omega, by omega, by omega, by omega, by omega⟩ ?_
          have hI1452 := HI.cpy0 hI1447 ka_62 ka_4 rfl rfl ((0 : Int32).toInt.toNat) ((0 : Int32).toInt.toNat) ((12 : Int32).toInt.toNat) (by omega) (by omega)
          have hF1453 := Fr.cpy (p0 := 62) (p1 := 4) hF1448 rfl ((0 : Int32).toInt.toNat) ((0 : Int32).toInt.toNat) ((12 : Int32).toInt.toNat)
          refine r_aload_n rfl ?_
          refine r_aload_n rfl ?_
          obtain ⟨v1454, hv1454⟩ : ∃ v, gI g0 59 4 = v := ⟨_, rfl⟩
          have rv1454 := RgF.at hI0.2.1 (p := 59) (b := 4) rfl
          rw [hv1454] at rv1454
          dsimp only at rv1454
          refine q_getI (Sh.int hI1452.1 kx_59 rfl) v1454 (((gI_sW).trans ((gI_sW).trans ((gI_sW).trans (gI_sI_ne (by decide))))).trans hv1454) ?_
          refine q_putI (Sh.int hI1452.1 kx_1 rfl) rfl ?_
          have hI1455 := HI.wI1 hI1452 kx_1 rfl (p := 1) (b := 4) (v := v1454) rfl (by dsimp only; omega)
          have hF1456 := Fr.wI (p := 1) (b := 4) (v := v1454) hF1453 rfl
          refine r_aload_n rfl ?_
          refine q_getR (Sh.ref hI1455.1 kx_59 rfl) ?_
          refine r_iconst 0 rfl ?_
          refine r_aload_n rfl ?_
          refine q_getR (Sh.ref hI1455.1 kx_1 rfl) ?_
          refine r_iconst 0 rfl ?_
          refine r_bipush 48 rfl ?_
          have zv1457 : (0 : Int32).toInt = 0 := rfl
          have zv1458 : (0 : Int32).toInt = 0 := rfl
          have zv1459 : (48 : Int32).toInt = 48 := rfl
          refine q_cpy rfl (Nat.le_of_ble_eq_true rfl) (Sh.arr hI1455.1 ka_63) (Sh.arr hI1455.1 ka_5) ⟨by omega, by omega, by omega, by omega, by omega⟩ ?_
          have hI1460 := HI.cpy0 hI1455 ka_63 ka_5 rfl rfl ((0 : Int32).toInt.toNat) ((0 : Int32).toInt.toNat) ((48 : Int32).toInt.toNat) (by omega) (by omega)
          have hF1461 := Fr.cpy (p0 := 63) (p1 := 5) hF1456 rfl ((0 : Int32).toInt.toNat) ((0 : Int32).toInt.toNat) ((48 : Int32).toInt.toNat)
          refine r_aload_n rfl ?_
          refine r_aload_n rfl ?_
          obtain ⟨v1462, hv1462⟩ : ∃ v, gI g0 59 6 = v := ⟨_, rfl⟩
          have rv1462 := RgF.at hI0.2.1 (p := 59) (b := 6) rfl
          rw [hv1462] at rv1462
          dsimp only at rv1462
          refine q_getI (Sh.int hI1460.1 kx_59 rfl) v1462 (((gI_sW).trans ((gI_sI_ne (by decide)).trans ((gI_sW).trans ((gI_sW).trans ((gI_sW).trans (gI_sI_ne (by decide))))))).trans hv1462) ?_
          refine q_putI (Sh.int hI1460.1 kx_1 rfl) rfl ?_
          have hI1463 := HI.wI1 hI1460 kx_1 rfl (p := 1) (b := 6) (v := v1462) rfl (by dsimp only; omega)
          have hF1464 := Fr.wI (p := 1) (b := 6) (v := v1462) hF1461 rfl
          refine r_iconst 0 rfl ?_
          refine r_istore_n ([(2, .int 0), (0, .ref 1), (1, .ref 59)]) rfl ?_
          refine Ar.fall 86 rfl ?_
          have z_1698 : (0 : Int32).toInt = 0 := rfl
          refine w_loopI (fun n_ l_ g_ => ∃ x1679 : Int32, n_ = 6 - x1679.toInt ∧ HI g_ ∧ Fr F_X10_back_0 A_X10_back_0 g0 g_ ∧ gI g_ 1 0 = v1436 ∧ gI g_ 1 4 = v1454 ∧ en_get 0 l_ = some (.ref 1) ∧ en_get 1 l_ = some (.ref 59) ∧ en_get 2 l_ = some (.int x1679) ∧ (0 ≤ x1679.toInt ∧ x1679.toInt ≤ 6) ∧ (∀ i : Int, 0 ≤ i → i < 12 → (eA g_ 2 (i)).toInt = (eA g0 60 (i)).toInt) ∧ (∀ i : Int, 0 ≤ i → i < 12 → (eA g_ 3 (i)).toInt = (eA g0 61 (i)).toInt) ∧ (∀ i : Int, 0 ≤ i → i < 12 → (eA g_ 4 (i)).toInt = (eA g0 62 (i)).toInt) ∧ (∀ i : Int, 0 ≤ i → i < 8 → (eA g_ 14 (i)).toInt = (eA g0 14 (i)).toInt) ∧ (∀ i : Int, 0 ≤ i → i < 8 → (eA g_ 15 (i)).toInt = (eA g0 15 (i)).toInt) ∧ (∀ i : Int, 0 ≤ i → i < 48 → (eA g_ 5 (i)).toInt = (eA g0 63 (i)).toInt)) ?_ (6 - 0) ⟨0, by first | rfl | omega, hI1463, hF1464, ((gI_sI_ne (by decide)).trans ((gI_sW).trans ((gI_sI_ne (by decide)).trans ((gI_sW).trans ((gI_sW).trans ((gI_sW).trans (gI_sI_eq hI0.1 kx_1 rfl _))))))), ((gI_sI_ne (by decide)).trans ((gI_sW).trans (gI_sI_eq hI1452.1 kx_1 rfl _))), rfl, rfl, rfl, by decide, (by intro i i0 i1; refine (eA_tq (((gA_sI).trans ((gA_sW_ne (by decide)).trans ((gA_sI).trans ((gA_sW_ne (by decide)).trans ((gA_sW_ne (by decide)).trans ((gA_cpF hI1437.1 ka_60 ka_2 (by decide) (by decide) (by decide)).trans (gA_sI))))))))).trans ?_; (first | rfl | exact eA_ix (by omega) | omega)), (by intro i i0 i1; refine (eA_tq (((gA_sI).trans ((gA_sW_ne (by decide)).trans ((gA_sI).trans ((gA_sW_ne (by decide)).trans ((gA_cpF hI1442.1 ka_61 ka_3 (by decide) (by decide) (by decide)).trans ((gA_sW_ne (by decide)).trans (gA_sI))))))))).trans ?_; (first | rfl | exact eA_ix (by omega) | omega)), (by intro i i0 i1; refine (eA_tq (((gA_sI).trans ((gA_sW_ne (by decide)).trans ((gA_sI).trans ((gA_cpF hI1447.1 ka_62 ka_4 (by decide) (by decide) (by decide)).trans ((gA_sW_ne (by decide)).trans ((gA_sW_ne (by decide)).trans (gA_sI))))))))).trans ?_; (first | rfl | exact eA_ix (by omega) | omega)), (by intro i i0 i1; refine (eA_ti (((gA_sI).trans ((gA_sW_ne (by decide)).trans ((gA_sI).trans ((gA_sW_ne (by decide)).trans ((gA_sW_ne (by decide)).trans ((gA_sW_ne (by decide)).trans (gA_sI))))))))).trans ?_; (first | rfl | exact eA_ix (by omega) | omega)), (by intro i i0 i1; refine (eA_ti (((gA_sI).trans ((gA_sW_ne (by decide)).trans ((gA_sI).trans ((gA_sW_ne (by decide)).trans ((gA_sW_ne (by decide)).trans ((gA_sW_ne (by decide)).trans (gA_sI))))))))).trans ?_; (first | rfl | exact eA_ix (by omega) | omega)), (by intro i i0 i1; refine (eA_tq (((gA_sI).trans ((gA_cpF hI1455.1 ka_63 ka_5 (by decide) (by decide) (by decide)).trans ((gA_sI).trans ((gA_sW_ne (by decide)).trans ((gA_sW_ne (by decide)).trans ((gA_sW_ne (by decide)).trans (gA_sI))))))))).trans ?_; (first | rfl | exact eA_ix (by omega) | omega))⟩
          rintro n1684 l1683 g1680 ⟨x1679, hm1699, hI1681, hF1682, e1686, e1687, e1688, e1689, e1690, r1691, q1692, q1693, q1694, q1695, q1696, q1697⟩ ih1685
          have tv1700 := congrArg Int32.toInt e1686
          have tv1701 := congrArg Int32.toInt e1687
          refine At.enter rfl ?_
          refine r_iload_n e1690 ?_
          refine r_bipush 6 rfl ?_
          refine r_ics 92 rfl (fun c1702 => ?_) (fun c1702 => ?_)
          · have c1702_ : x1679.toInt ≥ 6 := en_i_ge_t c1702
            refine At.enter rfl ?_
            refine r_aload_n e1688 ?_
            refine r_aload_n e1689 ?_
            obtain ⟨v1703, hv1703⟩ : ∃ v, gI g0 59 9 = v := ⟨_, rfl⟩
            refine q_getI (Sh.int hI1681.1 kx_59 rfl) v1703 ((hF1682.1 59 9 (by decide)).trans hv1703) ?_
            refine q_putI (Sh.int hI1681.1 kx_1 rfl) rfl ?_
            have hI1704 := HI.wI0 hI1681 kx_1 rfl (p := 1) (b := 9) (v := v1703) rfl
            have hF1705 := Fr.wI (p := 1) (b := 9) (v := v1703) hF1682 rfl
            refine r_aload_n e1688 ?_
            refine r_aload_n e1689 ?_
            obtain ⟨v1706, hv1706⟩ : ∃ v, gI g0 59 10 = v := ⟨_, rfl⟩
            refine q_getI (Sh.int hI1704.1 kx_59 rfl) v1706 (((gI_sI_ne (by decide)).trans (hF1682.1 59 10 (by decide))).trans hv1706) ?_
            refine q_putI (Sh.int hI1704.1 kx_1 rfl) rfl ?_
            have hI1707 := HI.wI0 hI1704 kx_1 rfl (p := 1) (b := 10) (v := v1706) rfl
            have hF1708 := Fr.wI (p := 1) (b := 10) (v := v1706) hF1705 rfl
            refine r_aload_n e1688 ?_
            refine r_aload_n e1689 ?_
            obtain ⟨v1709, hv1709⟩ : ∃ v, gI g0 59 11 = v := ⟨_, rfl⟩
            refine q_getI (Sh.int hI1707.1 kx_59 rfl) v1709 (((gI_sI_ne (by decide)).trans ((gI_sI_ne (by decide)).trans (hF1682.1 59 11 (by decide)))).trans hv1709) ?_
            refine q_putI (Sh.int hI1707.1 kx_1 rfl) rfl ?_
            have hI1710 := HI.wI0 hI1707 kx_1 rfl (p := 1) (b := 11) (v := v1709) rfl
            have hF1711 := Fr.wI (p := 1) (b := 11) (v := v1709) hF1708 rfl
            refine r_aload_n e1688 ?_
            refine r_aload_n e1689 ?_
            obtain ⟨v1712, hv1712⟩ : ∃ v, gI g0 59 12 = v := ⟨_, rfl⟩
            have rv1712 := RgF.at hI0.2.1 (p := 59) (b := 12) rfl
            rw [hv1712] at rv1712
            dsimp only at rv1712
            refine q_getI (Sh.int hI1710.1 kx_59 rfl) v1712 (((gI_sI_ne (by decide)).trans ((gI_sI_ne (by decide)).trans ((gI_sI_ne (by decide)).trans (hF1682.1 59 12 (by decide))))).trans hv1712) ?_
            refine q_putI (Sh.int hI1710.1 kx_1 rfl) rfl ?_
            have hI1713 := HI.wI1 hI1710 kx_1 rfl (p := 1) (b := 12) (v := v1712) rfl (by dsimp only; omega)
            have hF1714 := Fr.wI (p := 1) (b := 12) (v := v1712) hF1711 rfl
            refine r_aload_n e1689 ?_
            refine q_getR (Sh.ref hI1713.1 kx_59 rfl) ?_
            refine r_iconst 0 rfl ?_
            refine r_aload_n e1688 ?_
            refine q_getR (Sh.ref hI1713.1 kx_1 rfl) ?_
            refine r_iconst 0 rfl ?_
            refine r_bipush 8 rfl ?_
            have zv1715 : (0 : Int32).toInt = 0 := rfl
            have zv1716 : (0 : Int32).toInt = 0 := rfl
            have zv1717 : (8 : Int32).toInt = 8 := rfl
            refine q_cpy rfl (Nat.le_of_ble_eq_true rfl) (Sh.arr hI1713.1 ka_72) (Sh.arr hI1713.1 ka_14) ⟨by omega, by omega, by omega, by omega, by omega⟩ ?_
            have hI1718 := HI.cpy0 hI1713 ka_72 ka_14 rfl rfl ((0 : Int32).toInt.toNat) ((0 : Int32).toInt.toNat) ((8 : Int32).toInt.toNat) (by omega) (by omega)
            have hF1719 := Fr.cpy (p0 := 72) (p1 := 14) hF1714 rfl ((0 : Int32).toInt.toNat) ((0 : Int32).toInt.toNat) ((8 : Int32).toInt.toNat)
            refine r_aload_n e1689 ?_
            refine q_getR (Sh.ref hI1718.1 kx_59 rfl) ?_
            refine r_iconst 0 rfl ?_
            refine r_aload_n e1688 ?_
            refine q_getR (Sh.ref hI1718.1 kx_1 rfl) ?_
            refine r_iconst 0 rfl ?_
            refine r_bipush 8 rfl ?_
            have zv1720 : (0 : Int32).toInt = 0 := rfl
            have zv1721 : (0 : Int32).toInt = 0 := rfl
            have zv1722 : (8 : Int32).toInt = 8 := rfl
            refine q_cpy rfl (Nat.le_of_ble_eq_true rfl) (Sh.arr hI1718.1 ka_73) (Sh.arr hI1718.1 ka_15) ⟨by omega, by omega, by omega, by omega, by omega⟩ ?_
            have hI1723 := HI.cpy0 hI1718 ka_73 ka_15 rfl rfl ((0 : Int32).toInt.toNat) ((0 : Int32).toInt.toNat) ((8 : Int32).toInt.toNat) (by omega) (by omega)
            have hF1724 := Fr.cpy (p0 := 73) (p1 := 15) hF1719 rfl ((0 : Int32).toInt.toNat) ((0 : Int32).toInt.toNat) ((8 : Int32).toInt.toNat)
            refine q_vret ?_
            refine At.enter rfl ?_
            refine r_aload_n rfl ?_
            refine r_callV 44 rfl [.ref 0] [] (Nat.le_of_ble_eq_true rfl) rfl (T_X10_changed_0 _ hI1723) ?_
            rintro _ _ ⟨g1725, rfl, hI1726, hF1727, rfl⟩
            refine At.stn ?_
            have hF1730 := Fr.tr hF1724 hF1727 rfl rfl
            refine At.enter rfl ?_
            refine r_aload_n rfl ?_
            refine r_iconst 0 rfl ?_
            refine q_inlV 49 rfl [.ref 0, .int 0] [] (Nat.le_of_ble_eq_true rfl) rfl ?_
            refine Ev.mk rfl rfl ⟨Nat.le_of_ble_eq_true rfl, Or.inr (q_rc hI1726.1 kx_0 rfl)⟩ ?_
            show At _ none _ _ (0, [(0, .ref 0), (1, .int 0)], [], (_, _)) _
            refine At.enter rfl ?_
            refine r_aload_n rfl ?_
            refine r_iconst 0 rfl ?_
            refine q_putI (Sh.int hI1726.1 kx_0 rfl) rfl ?_
            have hI1731 := HI.wI0 hI1726 kx_0 rfl (p := 0) (b := 17) (v := 0) rfl
            have hF1732 := Fr.wI (p := 0) (b := 17) (v := 0) hF1730 rfl
            refine r_iload_n rfl ?_
            refine q_ireti ?_
            refine At.enter rfl ?_
            refine r_ireti ?_
            have zv1733 : (0 : Int32).toInt = 0 := rfl
            have e : a1.toInt = 0 := by omega
            have k1734_ : (eA g0 173 0).toInt = v1434.toInt := by rw [← hv1434, e]
            have k1734 : (eA g0 173 0).toInt ≠ 0 := by omega
            obtain ⟨v1735, hv1735⟩ : ∃ v, eA g0 173 0 = v := ⟨_, rfl⟩
            have tv1735 := congrArg Int32.toInt hv1735
            have x1736 := HI.eqA hI0 (p := 173) (j := 0) (hv1735)
            have y1737 : (eA g0 173 0).toInt = v1434.toInt := by rw [← hv1434, show a1.toInt = 0 by omega]
            obtain ⟨v1738, hv1738⟩ : ∃ v, eA g0 173 1 = v := ⟨_, rfl⟩
            have tv1738 := congrArg Int32.toInt hv1738
            have x1739 := HI.eqA hI0 (p := 173) (j := 1) (hv1738)
            exact ⟨_, rfl, hI1731, hF1732, _, rfl, by decide, ⟨⟨(fun _ => ⟨(by first | rfl | decide), (HI.eqI hI1731 (p := 1) (b := 0) ((((gI_sI_ne (by decide)).trans ((hF1727.1 1 0 (by decide)).trans ((gI_sW).trans ((gI_sW).trans ((gI_sI_ne (by decide)).trans ((gI_sI_ne (by decide)).trans ((gI_sI_ne (by decide)).trans (gI_sI_ne (by decide))))))))).trans e1686))).trans (HI.eqI hI0 (p := 59) (b := 0) (hv1436)).symm, (HI.eqI hI1731 (p := 1) (b := 12) (((gI_sI_ne (by decide)).trans ((hF1727.1 1 12 (by decide)).trans ((gI_sW).trans ((gI_sW).trans (gI_sI_eq hI1710.1 kx_1 rfl _))))))).trans (HI.eqI hI0 (p := 59) (b := 12) (hv1712)).symm, (HI.eqI hI1731 (p := 1) (b := 10) (((gI_sI_ne (by decide)).trans ((hF1727.1 1 10 (by decide)).trans ((gI_sW).trans ((gI_sW).trans ((gI_sI_ne (by decide)).trans ((gI_sI_ne (by decide)).trans (gI_sI_eq hI1704.1 kx_1 rfl _))))))))).trans (HI.eqI hI0 (p := 59) (b := 10) (hv1706)).symm, (HI.eqI hI1731 (p := 1) (b := 11) (((gI_sI_ne (by decide)).trans ((hF1727.1 1 11 (by decide)).trans ((gI_sW).trans ((gI_sW).trans ((gI_sI_ne (by decide)).trans (gI_sI_eq hI1707.1 kx_1 rfl _)))))))).trans (HI.eqI hI0 (p := 59) (b := 11) (hv1709)).symm, (HI.eqI hI1731 (p := 1) (b := 4) ((((gI_sI_ne (by decide)).trans ((hF1727.1 1 4 (by decide)).trans ((gI_sW).trans ((gI_sW).trans ((gI_sI_ne (by decide)).trans ((gI_sI_ne (by decide)).trans ((gI_sI_ne (by decide)).trans (gI_sI_ne (by decide))))))))).trans e1687))).trans (HI.eqI hI0 (p := 59) (b := 4) (hv1454)).symm⟩), (fun h => absurd (e.symm.trans h.1) (by decide)), (fun h => absurd ⟨e, k1734⟩ h.1), (fun h => False.elim (by omega)), (fun h => absurd ⟨e, k1734⟩ h.2.2.1)⟩, (by intro i i0 i1; exact (Decidable.em (a1.toInt = 0 ∧ (eA g0 173 0).toInt ≠ 0)).elim (fun k136_ => by refine Eq.trans ?_ (if_pos k136_).symm; refine (eA_ti (((gA_sI).trans ((hF1727.2.1 2 (by decide)).trans ((gA_sW_ne (by decide)).trans ((gA_sW_ne (by decide)).trans ((gA_sI).trans ((gA_sI).trans ((gA_sI).trans (gA_sI)))))))))).trans ?_; refine ((q1692 (i) (by omega) (by omega))).trans ?_; (first | rfl | exact eA_ix (by omega) | omega)) (fun k136_ => by refine Eq.trans ?_ (if_neg k136_).symm; exact (Decidable.em (a1.toInt = 1 ∧ (eA g0 173 1).toInt ≠ 0)).elim (fun k137_ => by refine Eq.trans ?_ (if_pos k137_).symm; refine (eA_ti (((gA_sI).trans ((hF1727.2.1 2 (by decide)).trans ((gA_sW_ne (by decide)).trans ((gA_sW_ne (by decide)).trans ((gA_sI).trans ((gA_sI).trans ((gA_sI).trans (gA_sI)))))))))).trans ?_; refine ((q1692 (i) (by omega) (by omega))).trans ?_; (first | rfl | exact eA_ix (by omega) | omega)) (fun k137_ => by refine Eq.trans ?_ (if_neg k137_).symm; refine (eA_ti (((gA_sI).trans ((hF1727.2.1 2 (by decide)).trans ((gA_sW_ne (by decide)).trans ((gA_sW_ne (by decide)).trans ((gA_sI).trans ((gA_sI).trans ((gA_sI).trans (gA_sI)))))))))).trans ?_; refine ((q1692 (i) (by omega) (by omega))).trans ?_; (first | rfl | exact eA_ix (by omega) | omega)))), (by intro i i0 i1; exact (Decidable.em (a1.toInt = 0 ∧ (eA g0 173 0).toInt ≠ 0)).elim (fun k138_ => by refine Eq.trans ?_ (if_pos k138_).symm; refine (eA_ti (((gA_sI).trans ((hF1727.2.1 3 (by decide)).trans ((gA_sW_ne (by decide)).trans ((gA_sW_ne (by decide)).trans ((gA_sI).trans ((gA_sI).trans ((gA_sI).trans (gA_sI)))))))))).trans ?_; refine ((q1693 (i) (by omega) (by omega))).trans ?_; (first | rfl | exact eA_ix (by omega) | omega)) (fun k138_ => by refine Eq.trans ?_ (if_neg k138_).symm; exact (Decidable.em (a1.toInt = 1 ∧ (eA g0 173 1).toInt ≠ 0)).elim (fun k139_ => by refine Eq.trans ?_ (if_pos k139_).symm; refine (eA_ti (((gA_sI).trans ((hF1727.2.1 3 (by decide)).trans ((gA_sW_ne (by decide)).trans ((gA_sW_ne (by decide)).trans ((gA_sI).trans ((gA_sI).trans ((gA_sI).trans (gA_sI)))))))))).trans ?_; refine ((q1693 (i) (by omega) (by omega))).trans ?_; (first | rfl | exact eA_ix (by omega) | omega)) (fun k139_ => by refine Eq.trans ?_ (if_neg k139_).symm; refine (eA_ti (((gA_sI).trans ((hF1727.2.1 3 (by decide)).trans ((gA_sW_ne (by decide)).trans ((gA_sW_ne (by decide)).trans ((gA_sI).trans ((gA_sI).trans ((gA_sI).trans (gA_sI)))))))))).trans ?_; refine ((q1693 (i) (by omega) (by omega))).trans ?_; (first | rfl | exact eA_ix (by omega) | omega)))), (by intro i i0 i1; exact (Decidable.em (a1.toInt = 0 ∧ (eA g0 173 0).toInt ≠ 0)).elim (fun k140_ => by refine Eq.trans ?_ (if_pos k140_).symm; refine (eA_ti (((gA_sI).trans ((hF1727.2.1 4 (by decide)).trans ((gA_sW_ne (by decide)).trans ((gA_sW_ne (by decide)).trans ((gA_sI).trans ((gA_sI).trans ((gA_sI).trans (gA_sI)))))))))).trans ?_; refine ((q1694 (i) (by omega) (by omega))).trans ?_; (first | rfl | exact eA_ix (by omega) | omega)) (fun k140_ => by refine Eq.trans ?_ (if_neg k140_).symm; exact (Decidable.em (a1.toInt = 1 ∧ (eA g0 173 1).toInt ≠ 0)).elim (fun k141_ => by refine Eq.trans ?_ (if_pos k141_).symm; refine (eA_ti (((gA_sI).trans ((hF1727.2.1 4 (by decide)).trans ((gA_sW_ne (by decide)).trans ((gA_sW_ne (by decide)).trans ((gA_sI).trans ((gA_sI).trans ((gA_sI).trans (gA_sI)))))))))).trans ?_; refine ((q1694 (i) (by omega) (by omega))).trans ?_; (first | rfl | exact eA_ix (by omega) | omega)) (fun k141_ => by refine Eq.trans ?_ (if_neg k141_).symm; refine (eA_ti (((gA_sI).trans ((hF1727.2.1 4 (by decide)).trans ((gA_sW_ne (by decide)).trans ((gA_sW_ne (by decide)).trans ((gA_sI).trans ((gA_sI).trans ((gA_sI).trans (gA_sI)))))))))).trans ?_; refine ((q1694 (i) (by omega) (by omega))).trans ?_; (first | rfl | exact eA_ix (by omega) | omega)))), (by intro i i0 i1; exact (Decidable.em (a1.toInt = 0 ∧ (eA g0 173 0).toInt ≠ 0)).elim (fun k142_ => by refine Eq.trans ?_ (if_pos k142_).symm; refine (eA_tq (((gA_sI).trans ((hF1727.2.1 14 (by decide)).trans ((gA_sW_ne (by decide)).trans ((gA_cpF hI1713.1 ka_72 ka_14 (by decide) (by decide) (by decide)).trans ((gA_sI).trans ((gA_sI).trans ((gA_sI).trans ((gA_sI).trans (hF1682.2.1 72 (by decide)))))))))))).trans ?_; (first | rfl | exact eA_ix (by omega) | omega)) (fun k142_ => by refine Eq.trans ?_ (if_neg k142_).symm; exact (Decidable.em (a1.toInt = 1 ∧ (eA g0 173 1).toInt ≠ 0)).elim (fun k143_ => by refine Eq.trans ?_ (if_pos k143_).symm; refine (eA_tq (((gA_sI).trans ((hF1727.2.1 14 (by decide)).trans ((gA_sW_ne (by decide)).trans ((gA_cpF hI1713.1 ka_72 ka_14 (by decide) (by decide) (by decide)).trans ((gA_sI).trans ((gA_sI).trans ((gA_sI).trans ((gA_sI).trans (hF1682.2.1 72 (by decide)))))))))))).trans ?_; (first | rfl | exact eA_ix (by omega) | omega)) (fun k143_ => by refine Eq.trans ?_ (if_neg k143_).symm; refine (eA_tq (((gA_sI).trans ((hF1727.2.1 14 (by decide)).trans ((gA_sW_ne (by decide)).trans ((gA_cpF hI1713.1 ka_72 ka_14 (by decide) (by decide) (by decide)).trans ((gA_sI).trans ((gA_sI).trans ((gA_sI).trans ((gA_sI).trans (hF1682.2.1 72 (by decide)))))))))))).trans ?_; (first | rfl | exact eA_ix (by omega) | omega)))), (by intro i i0 i1; exact (Decidable.em (a1.toInt = 0 ∧ (eA g0 173 0).toInt ≠ 0)).elim (fun k144_ => by refine Eq.trans ?_ (if_pos k144_).symm; refine (eA_tq (((gA_sI).trans ((hF1727.2.1 15 (by decide)).trans ((gA_cpF hI1718.1 ka_73 ka_15 (by decide) (by decide) (by decide)).trans ((gA_sW_ne (by decide)).trans ((gA_sI).trans ((gA_sI).trans ((gA_sI).trans ((gA_sI).trans (hF1682.2.1 73 (by decide)))))))))))).trans ?_; (first | rfl | exact eA_ix (by omega) | omega)) (fun k144_ => by refine Eq.trans ?_ (if_neg k144_).symm; exact (Decidable.em (a1.toInt = 1 ∧ (eA g0 173 1).toInt ≠ 0)).elim (fun k145_ => by refine Eq.trans ?_ (if_pos k145_).symm; refine (eA_tq (((gA_sI).trans ((hF1727.2.1 15 (by decide)).trans ((gA_cpF hI1718.1 ka_73 ka_15 (by decide) (by decide) (by decide)).trans ((gA_sW_ne (by decide)).trans ((gA_sI).trans ((gA_sI).trans ((gA_sI).trans ((gA_sI).trans (hF1682.2.1 73 (by decide)))))))))))).trans ?_; (first | rfl | exact eA_ix (by omega) | omega)) (fun k145_ => by refine Eq.trans ?_ (if_neg k145_).symm; refine (eA_tq (((gA_sI).trans ((hF1727.2.1 15 (by decide)).trans ((gA_cpF hI1718.1 ka_73 ka_15 (by decide) (by decide) (by decide)).trans ((gA_sW_ne (by decide)).trans ((gA_sI).trans ((gA_sI).trans ((gA_sI).trans ((gA_sI).trans (hF1682.2.1 73 (by decide)))))))))))).trans ?_; (first | rfl | exact eA_ix (by omega) | omega)))), (by intro i i0 i1; exact (Decidable.em (a1.toInt = 0 ∧ (eA g0 173 0).toInt ≠ 0)).elim (fun k146_ => by refine Eq.trans ?_ (if_pos k146_).symm; refine (eA_ti (((gA_sI).trans ((hF1727.2.1 5 (by decide)).trans ((gA_sW_ne (by decide)).trans ((gA_sW_ne (by decide)).trans ((gA_sI).trans ((gA_sI).trans ((gA_sI).trans (gA_sI)))))))))).trans ?_; refine ((q1697 (i) (by omega) (by omega))).trans ?_; (first | rfl | exact eA_ix (by omega) | omega)) (fun k146_ => by refine Eq.trans ?_ (if_neg k146_).symm; exact (Decidable.em (a1.toInt = 1 ∧ (eA g0 173 1).toInt ≠ 0)).elim (fun k147_ => by refine Eq.trans ?_ (if_pos k147_).symm; refine (eA_ti (((gA_sI).trans ((hF1727.2.1 5 (by decide)).trans ((gA_sW_ne (by decide)).trans ((gA_sW_ne (by decide)).trans ((gA_sI).trans ((gA_sI).trans ((gA_sI).trans (gA_sI)))))))))).trans ?_; refine ((q1697 (i) (by omega) (by omega))).trans ?_; (first | rfl | exact eA_ix (by omega) | omega)) (fun k147_ => by refine Eq.trans ?_ (if_neg k147_).symm; refine (eA_ti (((gA_sI).trans ((hF1727.2.1 5 (by decide)).trans ((gA_sW_ne (by decide)).trans ((gA_sW_ne (by decide)).trans ((gA_sI).trans ((gA_sI).trans ((gA_sI).trans (gA_sI)))))))))).trans ?_; refine ((q1697 (i) (by omega) (by omega))).trans ?_; (first | rfl | exact eA_ix (by omega) | omega))))⟩⟩
          · have c1702_ : x1679.toInt < 6 := en_i_ge_f c1702
            refine At.enter rfl ?_
            refine r_aload_n e1688 ?_
            refine r_iload_n e1690 ?_
            refine r_callV 97 rfl [.ref 1, .int x1679] [] (Nat.le_of_ble_eq_true rfl) rfl (T_X0_lawAt_1 _ hI1681 x1679) ?_
            rintro _ _ ⟨g1740, rfl, hI1741, hF1742, v1743, rfl, hr1744⟩
            refine At.str ?_
            have hF1745 := Fr.tr hF1682 hF1742 rfl rfl
            refine At.enter rfl ?_
            refine r_aload_n e1689 ?_
            refine r_iload_n e1690 ?_
            refine r_callV 102 rfl [.ref 59, .int x1679] [.ref (v1743)] (Nat.le_of_ble_eq_true rfl) rfl (T_X0_lawAt_59 _ hI1741 x1679) ?_
            rintro _ _ ⟨g1746, rfl, hI1747, hF1748, v1749, rfl, hr1750⟩
            refine At.str ?_
            have hF1751 := Fr.tr hF1745 hF1748 rfl rfl
            refine At.enter rfl ?_
            refine r_callV 105 rfl [.ref (v1743), .ref (v1749)] [] (Nat.le_of_ble_eq_true rfl) rfl (T_X4_become_law _ hI1747 (v1743) hr1744 (v1749) hr1750) ?_
            rintro _ _ ⟨g1752, rfl, hI1753, hF1754, rfl⟩
            refine At.stn ?_
            have hF1757 := Fr.tr hF1751 hF1754 rfl rfl
            refine At.enter rfl ?_
            refine q_iinc e1690 (x1679.toInt + 1) rfl (by omega) (fun v1758 hv1758 => ?_)
            refine r_goto ?_
            exact ih1685 (6 - v1758.toInt) _ _ ⟨v1758, by first | rfl | omega, hI1753, hF1757, (((hF1754.1 1 0 (by decide)).trans ((hF1748.1 1 0 (by decide)).trans (hF1742.1 1 0 (by decide)))).trans e1686), (((hF1754.1 1 4 (by decide)).trans ((hF1748.1 1 4 (by decide)).trans (hF1742.1 1 4 (by decide)))).trans e1687), (w_p1 (by decide) (Or.inr rfl) e1688), (w_p1 (by decide) (Or.inr rfl) e1689), (w_e1 _ _ _), by omega, (by intro i i0 i1; refine (eA_ti (((hF1754.2.1 2 (by decide)).trans ((hF1748.2.1 2 (by decide)).trans (hF1742.2.1 2 (by decide)))))).trans ?_; refine ((q1692 (i) (by omega) (by omega))).trans ?_; (first | rfl | exact eA_ix (by omega) | omega)), (by intro i i0 i1; refine (eA_ti (((hF1754.2.1 3 (by decide)).trans ((hF1748.2.1 3 (by decide)).trans (hF1742.2.1 3 (by decide)))))).trans ?_; refine ((q1693 (i) (by omega) (by omega))).trans ?_; (first | rfl | exact eA_ix (by omega) | omega)), (by intro i i0 i1; refine (eA_ti (((hF1754.2.1 4 (by decide)).trans ((hF1748.2.1 4 (by decide)).trans (hF1742.2.1 4 (by decide)))))).trans ?_; refine ((q1694 (i) (by omega) (by omega))).trans ?_; (first | rfl | exact eA_ix (by omega) | omega)), (by intro i i0 i1; refine (eA_ti (((hF1754.2.1 14 (by decide)).trans ((hF1748.2.1 14 (by decide)).trans (hF1742.2.1 14 (by decide)))))).trans ?_; refine ((q1695 (i) (by omega) (by omega))).trans ?_; (first | rfl | exact eA_ix (by omega) | omega)), (by intro i i0 i1; refine (eA_ti (((hF1754.2.1 15 (by decide)).trans ((hF1748.2.1 15 (by decide)).trans (hF1742.2.1 15 (by decide)))))).trans ?_; refine ((q1696 (i) (by omega) (by omega))).trans ?_; (first | rfl | exact eA_ix (by omega) | omega)), (by intro i i0 i1; refine (eA_ti (((hF1754.2.1 5 (by decide)).trans ((hF1748.2.1 5 (by decide)).trans (hF1742.2.1 5 (by decide)))))).trans ?_; refine ((q1697 (i) (by omega) (by omega))).trans ?_; (first | rfl | exact eA_ix (by omega) | omega))⟩ ⟨by omega, by omega⟩
        · have c1435_ : v1434.toInt = 0 := en_k_ne_f c1435
          refine At.enter rfl ?_
          refine r_aload_n rfl ?_
          refine r_bipush (-2) rfl ?_
          refine r_callV 31 rfl [.ref 0, .int (-2)] [] (Nat.le_of_ble_eq_true rfl) rfl (T_X10_refused_0 _ hI0 (-2) (by decide)) ?_
          rintro _ _ ⟨g1759, rfl, hI1760, hF1761, v1762, rfl, hr1763⟩
          refine At.sti ?_
          have hF1764 := Fr.tr hF0 hF1761 rfl rfl
          have zv1765 : ((-2) : Int32).toInt = (-2) := rfl
          refine At.enter rfl ?_
          refine r_ireti ?_
          obtain ⟨v1766, hv1766⟩ : ∃ v, gI g0 1 0 = v := ⟨_, rfl⟩
          have rv1766 := RgF.at hI0.2.1 (p := 1) (b := 0) rfl
          rw [hv1766] at rv1766
          dsimp only at rv1766
          have tv1766 := congrArg Int32.toInt hv1766
          have x1767 := HI.eqI hI0 (p := 1) (b := 0) (hv1766)
          obtain ⟨v1768, hv1768⟩ : ∃ v, gI g0 1 12 = v := ⟨_, rfl⟩
          have rv1768 := RgF.at hI0.2.1 (p := 1) (b := 12) rfl
          rw [hv1768] at rv1768
          dsimp only at rv1768
          have tv1768 := congrArg Int32.toInt hv1768
          have x1769 := HI.eqI hI0 (p := 1) (b := 12) (hv1768)
          obtain ⟨v1770, hv1770⟩ : ∃ v, gI g0 1 10 = v := ⟨_, rfl⟩
          have tv1770 := congrArg Int32.toInt hv1770
          have x1771 := HI.eqI hI0 (p := 1) (b := 10) (hv1770)
          obtain ⟨v1772, hv1772⟩ : ∃ v, gI g0 1 11 = v := ⟨_, rfl⟩
          have tv1772 := congrArg Int32.toInt hv1772
          have x1773 := HI.eqI hI0 (p := 1) (b := 11) (hv1772)
          obtain ⟨v1774, hv1774⟩ : ∃ v, gI g0 1 4 = v := ⟨_, rfl⟩
          have rv1774 := RgF.at hI0.2.1 (p := 1) (b := 4) rfl
          rw [hv1774] at rv1774
          dsimp only at rv1774
          have tv1774 := congrArg Int32.toInt hv1774
          have x1775 := HI.eqI hI0 (p := 1) (b := 4) (hv1774)
          obtain ⟨v1776, hv1776⟩ : ∃ v, gI g0 59 0 = v := ⟨_, rfl⟩
          have rv1776 := RgF.at hI0.2.1 (p := 59) (b := 0) rfl
          rw [hv1776] at rv1776
          dsimp only at rv1776
          have tv1776 := congrArg Int32.toInt hv1776
          have x1777 := HI.eqI hI0 (p := 59) (b := 0) (hv1776)
          obtain ⟨v1778, hv1778⟩ : ∃ v, gI g0 59 12 = v := ⟨_, rfl⟩
          have rv1778 := RgF.at hI0.2.1 (p := 59) (b := 12) rfl
          rw [hv1778] at rv1778
          dsimp only at rv1778
          have tv1778 := congrArg Int32.toInt hv1778
          have x1779 := HI.eqI hI0 (p := 59) (b := 12) (hv1778)
          obtain ⟨v1780, hv1780⟩ : ∃ v, gI g0 59 10 = v := ⟨_, rfl⟩
          have tv1780 := congrArg Int32.toInt hv1780
          have x1781 := HI.eqI hI0 (p := 59) (b := 10) (hv1780)
          obtain ⟨v1782, hv1782⟩ : ∃ v, gI g0 59 11 = v := ⟨_, rfl⟩
          have tv1782 := congrArg Int32.toInt hv1782
          have x1783 := HI.eqI hI0 (p := 59) (b := 11) (hv1782)
          obtain ⟨v1784, hv1784⟩ : ∃ v, gI g0 59 4 = v := ⟨_, rfl⟩
          have rv1784 := RgF.at hI0.2.1 (p := 59) (b := 4) rfl
          rw [hv1784] at rv1784
          dsimp only at rv1784
          have tv1784 := congrArg Int32.toInt hv1784
          have x1785 := HI.eqI hI0 (p := 59) (b := 4) (hv1784)
          obtain ⟨v1786, hv1786⟩ : ∃ v, gI g0 116 0 = v := ⟨_, rfl⟩
          have rv1786 := RgF.at hI0.2.1 (p := 116) (b := 0) rfl
          rw [hv1786] at rv1786
          dsimp only at rv1786
          have tv1786 := congrArg Int32.toInt hv1786
          have x1787 := HI.eqI hI0 (p := 116) (b := 0) (hv1786)
          obtain ⟨v1788, hv1788⟩ : ∃ v, gI g0 116 12 = v := ⟨_, rfl⟩
          have rv1788 := RgF.at hI0.2.1 (p := 116) (b := 12) rfl
          rw [hv1788] at rv1788
          dsimp only at rv1788
          have tv1788 := congrArg Int32.toInt hv1788
          have x1789 := HI.eqI hI0 (p := 116) (b := 12) (hv1788)
          obtain ⟨v1790, hv1790⟩ : ∃ v, gI g0 116 10 = v := ⟨_, rfl⟩
          have tv1790 := congrArg Int32.toInt hv1790
          have x1791 := HI.eqI hI0 (p := 116) (b := 10) (hv1790)
          obtain ⟨v1792, hv1792⟩ : ∃ v, gI g0 116 11 = v := ⟨_, rfl⟩
          have tv1792 := congrArg Int32.toInt hv1792
          have x1793 := HI.eqI hI0 (p := 116) (b := 11) (hv1792)
          obtain ⟨v1794, hv1794⟩ : ∃ v, gI g0 116 4 = v := ⟨_, rfl⟩
          have rv1794 := RgF.at hI0.2.1 (p := 116) (b := 4) rfl
          rw [hv1794] at rv1794
          dsimp only at rv1794
          have tv1794 := congrArg Int32.toInt hv1794
          have x1795 := HI.eqI hI0 (p := 116) (b := 4) (hv1794)
          obtain ⟨v1796, hv1796⟩ : ∃ v, eA g0 173 0 = v := ⟨_, rfl⟩
          have tv1796 := congrArg Int32.toInt hv1796
          have x1797 := HI.eqA hI0 (p := 173) (j := 0) (hv1796)
          have y1798 : (eA g0 173 0).toInt = v1434.toInt := by rw [← hv1434, show a1.toInt = 0 by omega]
          obtain ⟨v1799, hv1799⟩ : ∃ v, eA g0 173 1 = v := ⟨_, rfl⟩
          have tv1799 := congrArg Int32.toInt hv1799
          have x1800 := HI.eqA hI0 (p := 173) (j := 1) (hv1799)
          have y1801 : a1.toInt = 0 → (eA g0 173 0).toInt = v1434.toInt := fun e => by rw [← hv1434, e]
          have e : a1.toInt = 0 := by omega
          have z1802 := HI.eqI hI1760 (p := 1) (b := 0) (((hF1761.1 1 0 (by decide)).trans hv1766))
          have z1803 := HI.eqI hI1760 (p := 1) (b := 12) (((hF1761.1 1 12 (by decide)).trans hv1768))
          have z1804 := HI.eqI hI1760 (p := 1) (b := 10) (((hF1761.1 1 10 (by decide)).trans hv1770))
          have z1805 := HI.eqI hI1760 (p := 1) (b := 11) (((hF1761.1 1 11 (by decide)).trans hv1772))
          have z1806 := HI.eqI hI1760 (p := 1) (b := 4) (((hF1761.1 1 4 (by decide)).trans hv1774))
          have x1807 := HI.eqA hI0 (p := 173) (j := 0) (hv1796)
          have y1808 : (eA g0 173 0).toInt = v1434.toInt := by rw [← hv1434, show a1.toInt = 0 by omega]
          have x1809 := HI.eqA hI0 (p := 173) (j := 1) (hv1799)
          exact ⟨_, rfl, hI1760, hF1764, _, rfl, by omega, ⟨⟨by omega, by omega, by omega, by omega, by omega⟩, (by intro i i0 i1; refine Eq.trans ?_ (if_neg (show ¬ (a1.toInt = 0 ∧ (eA g0 173 0).toInt ≠ 0) from by omega)).symm; refine Eq.trans ?_ (if_neg (show ¬ (a1.toInt = 1 ∧ (eA g0 173 1).toInt ≠ 0) from by omega)).symm; refine (eA_ti ((hF1761.2.1 2 (by decide)))).trans ?_; (first | rfl | exact eA_ix (by omega) | omega)), (by intro i i0 i1; refine Eq.trans ?_ (if_neg (show ¬ (a1.toInt = 0 ∧ (eA g0 173 0).toInt ≠ 0) from by omega)).symm; refine Eq.trans ?_ (if_neg (show ¬ (a1.toInt = 1 ∧ (eA g0 173 1).toInt ≠ 0) from by omega)).symm; refine (eA_ti ((hF1761.2.1 3 (by decide)))).trans ?_; (first | rfl | exact eA_ix (by omega) | omega)), (by intro i i0 i1; refine Eq.trans ?_ (if_neg (show ¬ (a1.toInt = 0 ∧ (eA g0 173 0).toInt ≠ 0) from by omega)).symm; refine Eq.trans ?_ (if_neg (show ¬ (a1.toInt = 1 ∧ (eA g0 173 1).toInt ≠ 0) from by omega)).symm; refine (eA_ti ((hF1761.2.1 4 (by decide)))).trans ?_; (first | rfl | exact eA_ix (by omega) | omega)), (by intro i i0 i1; refine Eq.trans ?_ (if_neg (show ¬ (a1.toInt = 0 ∧ (eA g0 173 0).toInt ≠ 0) from by omega)).symm; refine Eq.trans ?_ (if_neg (show ¬ (a1.toInt = 1 ∧ (eA g0 173 1).toInt ≠ 0) from by omega)).symm; refine (eA_ti ((hF1761.2.1 14 (by decide)))).trans ?_; (first | rfl | exact eA_ix (by omega) | omega)), (by intro i i0 i1; refine Eq.trans ?_ (if_neg (show ¬ (a1.toInt = 0 ∧ (eA g0 173 0).toInt ≠ 0) from by omega)).symm; refine Eq.trans ?_ (if_neg (show ¬ (a1.toInt = 1 ∧ (eA g0 173 1).toInt ≠ 0) from by omega)).symm; refine (eA_ti ((hF1761.2.1 15 (by decide)))).trans ?_; (first | rfl | exact eA_ix (by omega) | omega)), (by intro i i0 i1; refine Eq.trans ?_ (if_neg (show ¬ (a1.toInt = 0 ∧ (eA g0 173 0).toInt ≠ 0) from by omega)).symm; refine Eq.trans ?_ (if_neg (show ¬ (a1.toInt = 1 ∧ (eA g0 173 1).toInt ≠ 0) from by omega)).symm; refine (eA_ti ((hF1761.2.1 5 (by decide)))).trans ?_; (first | rfl | exact eA_ix (by omega) | omega))⟩⟩
      have c1433_1 : a1.toInt = 1 := by omega
      refine q_aald (Sh.rar hI0.1 ka_58) (by decide) 1 (by omega) (by decide) (some 116) rfl ?_
      refine r_goto ?_
      refine At.enter rfl ?_
      refine q_aret ?_
      refine At.enter rfl ?_
      refine r_astore_n ([(2, .ref 116), (0, .ref 0), (1, .int a1)]) rfl ?_
      refine r_aload_n rfl ?_
      refine r_nnr ?_
      refine At.enter rfl ?_
      refine r_aload_n rfl ?_
      refine q_getR (Sh.ref hI0.1 kx_0 rfl) ?_
      refine r_iload_n rfl ?_
      obtain ⟨v1810, hv1810⟩ : ∃ v, eA g0 173 a1.toInt = v := ⟨_, rfl⟩
      refine q_bald (Sh.arr hI0.1 ka_173) a1.toInt rfl (by omega) v1810 hv1810 ?_
      refine r_ifs 25 rfl (fun c1811 => ?_) (fun c1811 => ?_)
      · have c1811_ : v1810.toInt ≠ 0 := en_k_ne_t c1811
        refine At.enter rfl ?_
        refine r_aload_n rfl ?_
        refine q_getR (Sh.ref hI0.1 kx_0 rfl) ?_
        refine r_aload_n rfl ?_
        refine q_inlV 40 rfl [.ref 1, .ref 116] [] (Nat.le_of_ble_eq_true rfl) rfl ?_
        refine Ev.mk rfl rfl ⟨Nat.le_of_ble_eq_true rfl, Or.inr (q_rc hI0.1 kx_1 rfl)⟩ ?_
        show At _ none _ _ (0, [(0, .ref 1), (1, .ref 116)], [], (_, _)) _
        refine At.enter rfl ?_
        refine r_aload_n rfl ?_
        refine r_aload_n rfl ?_
        obtain ⟨v1812, hv1812⟩ : ∃ v, gI g0 116 0 = v := ⟨_, rfl⟩
        have rv1812 := RgF.at hI0.2.1 (p := 116) (b := 0) rfl
        rw [hv1812] at rv1812
        dsimp only at rv1812
        refine q_getI (Sh.int hI0.1 kx_116 rfl) v1812 hv1812 ?_
        refine q_putI (Sh.int hI0.1 kx_1 rfl) rfl ?_
        have hI1813 := HI.wI1 hI0 kx_1 rfl (p := 1) (b := 0) (v := v1812) rfl (by dsimp only; omega)
        have hF1814 := Fr.wI (p := 1) (b := 0) (v := v1812) hF0 rfl
        refine r_aload_n rfl ?_
        refine q_getR (Sh.ref hI1813.1 kx_116 rfl) ?_
        refine r_iconst 0 rfl ?_
        refine r_aload_n rfl ?_
        refine q_getR (Sh.ref hI1813.1 kx_1 rfl) ?_
        refine r_iconst 0 rfl ?_
        refine r_bipush 12 rfl ?_
        have zv1815 : (0 : Int32).toInt = 0 := rfl
        have zv1816 : (0 : Int32).toInt = 0 := rfl
        have zv1817 : (12 : Int32).toInt = 12 := rfl
        refine q_cpy rfl (Nat.le_of_ble_eq_true rfl) (Sh.arr hI1813.1 ka_117) (Sh.arr hI1813.1 ka_2) ⟨by omega, by omega, by omega, by omega, by omega⟩ ?_
        have hI1818 := HI.cpy0 hI1813 ka_117 ka_2 rfl rfl ((0 : Int32).toInt.toNat) ((0 : Int32).toInt.toNat) ((12 : Int32).toInt.toNat) (by omega) (by omega)
        have hF1819 := Fr.cpy (p0 := 117) (p1 := 2) hF1814 rfl ((0 : Int32).toInt.toNat) ((0 : Int32).toInt.toNat) ((12 : Int32).toInt.toNat)
        refine r_aload_n rfl ?_
        refine q_getR (Sh.ref hI1818.1 kx_116 rfl) ?_
        refine r_iconst 0 rfl ?_
        refine r_aload_n rfl ?_
        refine q_getR (Sh.ref hI1818.1 kx_1 rfl) ?_
        refine r_iconst 0 rfl ?_
        refine r_bipush 12 rfl ?_
        have zv1820 : (0 : Int32).toInt = 0 := rfl
        have zv1821 : (0 : Int32).toInt = 0 := rfl
        have zv1822 : (12 : Int32).toInt = 12 := rfl
        refine q_cpy rfl (Nat.le_of_ble_eq_true rfl) (Sh.arr hI1818.1 ka_118) (Sh.arr hI1818.1 ka_3) ⟨by omega, by omega, by omega, by omega, by omega⟩ ?_
        have hI1823 := HI.cpy0 hI1818 ka_118 ka_3 rfl rfl ((0 : Int32).toInt.toNat) ((0 : Int32).toInt.toNat) ((12 : Int32).toInt.toNat) (by omega) (by omega)
        have hF1824 := Fr.cpy (p0 := 118) (p1 := 3) hF1819 rfl ((0 : Int32).toInt.toNat) ((0 : Int32).toInt.toNat) ((12 : Int32).toInt.toNat)
        refine r_aload_n rfl ?_
        refine q_getR (Sh.ref hI1823.1 kx_116 rfl) ?_
        refine r_iconst 0 rfl ?_
        refine r_aload_n rfl ?_
        refine q_getR (Sh.ref hI1823.1 kx_1 rfl) ?_
        refine r_iconst 0 rfl ?_
        refine r_bipush 12 rfl ?_
        have zv1825 : (0 : Int32).toInt = 0 := rfl
        have zv1826 : (0 : Int32).toInt = 0 := rfl
        have zv1827 : (12 : Int32).toInt = 12 := rfl
        refine q_cpy rfl (Nat.le_of_ble_eq_true rfl) (Sh.arr hI1823.1 ka_119) (Sh.arr hI1823.1 ka_4) ⟨by omega, by omega, by omega, by omega, by omega⟩ ?_
        have hI1828 := HI.cpy0 hI1823 ka_119 ka_4 rfl rfl ((0 : Int32).toInt.toNat) ((0 : Int32).toInt.toNat) ((12 : Int32).toInt.toNat) (by omega) (by omega)
        have hF1829 := Fr.cpy (p0 := 119) (p1 := 4) hF1824 rfl ((0 : Int32).toInt.toNat) ((0 : Int32).toInt.toNat) ((12 : Int32).toInt.toNat)
        refine r_aload_n rfl ?_
        refine r_aload_n rfl ?_
        obtain ⟨v1830, hv1830⟩ : ∃ v, gI g0 116 4 = v := ⟨_, rfl⟩
        have rv1830 := RgF.at hI0.2.1 (p := 116) (b := 4) rfl
        rw [hv1830] at rv1830
        dsimp only at rv1830
        refine q_getI (Sh.int hI1828.1 kx_116 rfl) v1830 (((gI_sW).trans ((gI_sW).trans ((gI_sW).trans (gI_sI_ne (by decide))))).trans hv1830) ?_
        refine q_putI (Sh.int hI1828.1 kx_1 rfl) rfl ?_
        have hI1831 := HI.wI1 hI1828 kx_1 rfl (p := 1) (b := 4) (v := v1830) rfl (by dsimp only; omega)
        have hF1832 := Fr.wI (p := 1) (b := 4) (v := v1830) hF1829 rfl
        refine r_aload_n rfl ?_
        refine q_getR (Sh.ref hI1831.1 kx_116 rfl) ?_
        refine r_iconst 0 rfl ?_
        refine r_aload_n rfl ?_
        refine q_getR (Sh.ref hI1831.1 kx_1 rfl) ?_
        refine r_iconst 0 rfl ?_
        refine r_bipush 48 rfl ?_
        have zv1833 : (0 : Int32).toInt = 0 := rfl
        have zv1834 : (0 : Int32).toInt = 0 := rfl
        have zv1835 : (48 : Int32).toInt = 48 := rfl
        refine q_cpy rfl (Nat.le_of_ble_eq_true rfl) (Sh.arr hI1831.1 ka_120) (Sh.arr hI1831.1 ka_5) ⟨by omega, by omega, by omega, by omega, by omega⟩ ?_
        have hI1836 := HI.cpy0 hI1831 ka_120 ka_5 rfl rfl ((0 : Int32).toInt.toNat) ((0 : Int32).toInt.toNat) ((48 : Int32).toInt.toNat) (by omega) (by omega)
        have hF1837 := Fr.cpy (p0 := 120) (p1 := 5) hF1832 rfl ((0 : Int32).toInt.toNat) ((0 : Int32).toInt.toNat) ((48 : Int32).toInt.toNat)
        refine r_aload_n rfl ?_
        refine r_aload_n rfl ?_
        obtain ⟨v1838, hv1838⟩ : ∃ v, gI g0 116 6 = v := ⟨_, rfl⟩
        have rv1838 := RgF.at hI0.2.1 (p := 116) (b := 6) rfl
        rw [hv1838] at rv1838
        dsimp only at rv1838
        refine q_getI (Sh.int hI1836.1 kx_116 rfl) v1838 (((gI_sW).trans ((gI_sI_ne (by decide)).trans ((gI_sW).trans ((gI_sW).trans ((gI_sW).trans (gI_sI_ne (by decide))))))).trans hv1838) ?_
        refine q_putI (Sh.int hI1836.1 kx_1 rfl) rfl ?_
        have hI1839 := HI.wI1 hI1836 kx_1 rfl (p := 1) (b := 6) (v := v1838) rfl (by dsimp only; omega)
        have hF1840 := Fr.wI (p := 1) (b := 6) (v := v1838) hF1837 rfl
        refine r_iconst 0 rfl ?_
        refine r_istore_n ([(2, .int 0), (0, .ref 1), (1, .ref 116)]) rfl ?_
        refine Ar.fall 86 rfl ?_
        have z_2074 : (0 : Int32).toInt = 0 := rfl
        refine w_loopI (fun n_ l_ g_ => ∃ x2055 : Int32, n_ = 6 - x2055.toInt ∧ HI g_ ∧ Fr F_X10_back_0 A_X10_back_0 g0 g_ ∧ gI g_ 1 0 = v1812 ∧ gI g_ 1 4 = v1830 ∧ en_get 0 l_ = some (.ref 1) ∧ en_get 1 l_ = some (.ref 116) ∧ en_get 2 l_ = some (.int x2055) ∧ (0 ≤ x2055.toInt ∧ x2055.toInt ≤ 6) ∧ (∀ i : Int, 0 ≤ i → i < 12 → (eA g_ 2 (i)).toInt = (eA g0 117 (i)).toInt) ∧ (∀ i : Int, 0 ≤ i → i < 12 → (eA g_ 3 (i)).toInt = (eA g0 118 (i)).toInt) ∧ (∀ i : Int, 0 ≤ i → i < 12 → (eA g_ 4 (i)).toInt = (eA g0 119 (i)).toInt) ∧ (∀ i : Int, 0 ≤ i → i < 8 → (eA g_ 14 (i)).toInt = (eA g0 14 (i)).toInt) ∧ (∀ i : Int, 0 ≤ i → i < 8 → (eA g_ 15 (i)).toInt = (eA g0 15 (i)).toInt) ∧ (∀ i : Int, 0 ≤ i → i < 48 → (eA g_ 5 (i)).toInt = (eA g0 120 (i)).toInt)) ?_ (6 - 0) ⟨0, by first | rfl | omega, hI1839, hF1840, ((gI_sI_ne (by decide)).trans ((gI_sW).trans ((gI_sI_ne (by decide)).trans ((gI_sW).trans ((gI_sW).trans ((gI_sW).trans (gI_sI_eq hI0.1 kx_1 rfl _))))))), ((gI_sI_ne (by decide)).trans ((gI_sW).trans (gI_sI_eq hI1828.1 kx_1 rfl _))), rfl, rfl, rfl, by decide, (by intro i i0 i1; refine (eA_tq (((gA_sI).trans ((gA_sW_ne (by decide)).trans ((gA_sI).trans ((gA_sW_ne (by decide)).trans ((gA_sW_ne (by decide)).trans ((gA_cpF hI1813.1 ka_117 ka_2 (by decide) (by decide) (by decide)).trans (gA_sI))))))))).trans ?_; (first | rfl | exact eA_ix (by omega) | omega)), (by intro i i0 i1; refine (eA_tq (((gA_sI).trans ((gA_sW_ne (by decide)).trans ((gA_sI).trans ((gA_sW_ne (by decide)).trans ((gA_cpF hI1818.1 ka_118 ka_3 (by decide) (by decide) (by decide)).trans ((gA_sW_ne (by decide)).trans (gA_sI))))))))).trans ?_; (first | rfl | exact eA_ix (by omega) | omega)), (by intro i i0 i1; refine (eA_tq (((gA_sI).trans ((gA_sW_ne (by decide)).trans ((gA_sI).trans ((gA_cpF hI1823.1 ka_119 ka_4 (by decide) (by decide) (by decide)).trans ((gA_sW_ne (by decide)).trans ((gA_sW_ne (by decide)).trans (gA_sI))))))))).trans ?_; (first | rfl | exact eA_ix (by omega) | omega)), (by intro i i0 i1; refine (eA_ti (((gA_sI).trans ((gA_sW_ne (by decide)).trans ((gA_sI).trans ((gA_sW_ne (by decide)).trans ((gA_sW_ne (by decide)).trans ((gA_sW_ne (by decide)).trans (gA_sI))))))))).trans ?_; (first | rfl | exact eA_ix (by omega) | omega)), (by intro i i0 i1; refine (eA_ti (((gA_sI).trans ((gA_sW_ne (by decide)).trans ((gA_sI).trans ((gA_sW_ne (by decide)).trans ((gA_sW_ne (by decide)).trans ((gA_sW_ne (by decide)).trans (gA_sI))))))))).trans ?_; (first | rfl | exact eA_ix (by omega) | omega)), (by intro i i0 i1; refine (eA_tq (((gA_sI).trans ((gA_cpF hI1831.1 ka_120 ka_5 (by decide) (by decide) (by decide)).trans ((gA_sI).trans ((gA_sW_ne (by decide)).trans ((gA_sW_ne (by decide)).trans ((gA_sW_ne (by decide)).trans (gA_sI))))))))).trans ?_; (first | rfl | exact eA_ix (by omega) | omega))⟩
        rintro n2060 l2059 g2056 ⟨x2055, hm2075, hI2057, hF2058, e2062, e2063, e2064, e2065, e2066, r2067, q2068, q2069, q2070, q2071, q2072, q2073⟩ ih2061
        have tv2076 := congrArg Int32.toInt e2062
        have tv2077 := congrArg Int32.toInt e2063
        refine At.enter rfl ?_
        refine r_iload_n e2066 ?_
        refine r_bipush 6 rfl ?_
        refine r_ics 92 rfl (fun c2078 => ?_) (fun c2078 => ?_)
        · have c2078_ : x2055.toInt ≥ 6 := en_i_ge_t c2078
          refine At.enter rfl ?_
          refine r_aload_n e2064 ?_
          refine r_aload_n e2065 ?_
          obtain ⟨v2079, hv2079⟩ : ∃ v, gI g0 116 9 = v := ⟨_, rfl⟩
          refine q_getI (Sh.int hI2057.1 kx_116 rfl) v2079 ((hF2058.1 116 9 (by decide)).trans hv2079) ?_
          refine q_putI (Sh.int hI2057.1 kx_1 rfl) rfl ?_
          have hI2080 := HI.wI0 hI2057 kx_1 rfl (p := 1) (b := 9) (v := v2079) rfl
          have hF2081 := Fr.wI (p := 1) (b := 9) (v := v2079) hF2058 rfl
          refine r_aload_n e2064 ?_
          refine r_aload_n e2065 ?_
          obtain ⟨v2082, hv2082⟩ : ∃ v, gI g0 116 10 = v := ⟨_, rfl⟩
          refine q_getI (Sh.int hI2080.1 kx_116 rfl) v2082 (((gI_sI_ne (by decide)).trans (hF2058.1 116 10 (by decide))).trans hv2082) ?_
          refine q_putI (Sh.int hI2080.1 kx_1 rfl) rfl ?_
          have hI2083 := HI.wI0 hI2080 kx_1 rfl (p := 1) (b := 10) (v := v2082) rfl
          have hF2084 := Fr.wI (p := 1) (b := 10) (v := v2082) hF2081 rfl
          refine r_aload_n e2064 ?_
          refine r_aload_n e2065 ?_
          obtain ⟨v2085, hv2085⟩ : ∃ v, gI g0 116 11 = v := ⟨_, rfl⟩
          refine q_getI (Sh.int hI2083.1 kx_116 rfl) v2085 (((gI_sI_ne (by decide)).trans ((gI_sI_ne (by decide)).trans (hF2058.1 116 11 (by decide)))).trans hv2085) ?_
          refine q_putI (Sh.int hI2083.1 kx_1 rfl) rfl ?_
          have hI2086 := HI.wI0 hI2083 kx_1 rfl (p := 1) (b := 11) (v := v2085) rfl
          have hF2087 := Fr.wI (p := 1) (b := 11) (v := v2085) hF2084 rfl
          refine r_aload_n e2064 ?_
          refine r_aload_n e2065 ?_
          obtain ⟨v2088, hv2088⟩ : ∃ v, gI g0 116 12 = v := ⟨_, rfl⟩
          have rv2088 := RgF.at hI0.2.1 (p := 116) (b := 12) rfl
          rw [hv2088] at rv2088
          dsimp only at rv2088
          refine q_getI (Sh.int hI2086.1 kx_116 rfl) v2088 (((gI_sI_ne (by decide)).trans ((gI_sI_ne (by decide)).trans ((gI_sI_ne (by decide)).trans (hF2058.1 116 12 (by decide))))).trans hv2088) ?_
          refine q_putI (Sh.int hI2086.1 kx_1 rfl) rfl ?_
          have hI2089 := HI.wI1 hI2086 kx_1 rfl (p := 1) (b := 12) (v := v2088) rfl (by dsimp only; omega)
          have hF2090 := Fr.wI (p := 1) (b := 12) (v := v2088) hF2087 rfl
          refine r_aload_n e2065 ?_
          refine q_getR (Sh.ref hI2089.1 kx_116 rfl) ?_
          refine r_iconst 0 rfl ?_
          refine r_aload_n e2064 ?_
          refine q_getR (Sh.ref hI2089.1 kx_1 rfl) ?_
          refine r_iconst 0 rfl ?_
          refine r_bipush 8 rfl ?_
          have zv2091 : (0 : Int32).toInt = 0 := rfl
          have zv2092 : (0 : Int32).toInt = 0 := rfl
          have zv2093 : (8 : Int32).toInt = 8 := rfl
          refine q_cpy rfl (Nat.le_of_ble_eq_true rfl) (Sh.arr hI2089.1 ka_129) (Sh.arr hI2089.1 ka_14) ⟨by omega, by omega, by omega, by omega, by omega⟩ ?_
          have hI2094 := HI.cpy0 hI2089 ka_129 ka_14 rfl rfl ((0 : Int32).toInt.toNat) ((0 : Int32).toInt.toNat) ((8 : Int32).toInt.toNat) (by omega) (by omega)
          have hF2095 := Fr.cpy (p0 := 129) (p1 := 14) hF2090 rfl ((0 : Int32).toInt.toNat) ((0 : Int32).toInt.toNat) ((8 : Int32).toInt.toNat)
          refine r_aload_n e2065 ?_
          refine q_getR (Sh.ref hI2094.1 kx_116 rfl) ?_
          refine r_iconst 0 rfl ?_
          refine r_aload_n e2064 ?_
          refine q_getR (Sh.ref hI2094.1 kx_1 rfl) ?_
          refine r_iconst 0 rfl ?_
          refine r_bipush 8 rfl ?_
          have zv2096 : (0 : Int32).toInt = 0 := rfl
          have zv2097 : (0 : Int32).toInt = 0 := rfl
          have zv2098 : (8 : Int32).toInt = 8 := rfl
          refine q_cpy rfl (Nat.le_of_ble_eq_true rfl) (Sh.arr hI2094.1 ka_130) (Sh.arr hI2094.1 ka_15) ⟨by omega, by omega, by omega, by omega, by omega⟩ ?_
          have hI2099 := HI.cpy0 hI2094 ka_130 ka_15 rfl rfl ((0 : Int32).toInt.toNat) ((0 : Int32).toInt.toNat) ((8 : Int32).toInt.toNat) (by omega) (by omega)
          have hF2100 := Fr.cpy (p0 := 130) (p1 := 15) hF2095 rfl ((0 : Int32).toInt.toNat) ((0 : Int32).toInt.toNat) ((8 : Int32).toInt.toNat)
          refine q_vret ?_
          refine At.enter rfl ?_
          refine r_aload_n rfl ?_
          refine r_callV 44 rfl [.ref 0] [] (Nat.le_of_ble_eq_true rfl) rfl (T_X10_changed_0 _ hI2099) ?_
          rintro _ _ ⟨g2101, rfl, hI2102, hF2103, rfl⟩
          refine At.stn ?_
          have hF2106 := Fr.tr hF2100 hF2103 rfl rfl
          refine At.enter rfl ?_
          refine r_aload_n rfl ?_
          refine r_iconst 0 rfl ?_
          refine q_inlV 49 rfl [.ref 0, .int 0] [] (Nat.le_of_ble_eq_true rfl) rfl ?_
          refine Ev.mk rfl rfl ⟨Nat.le_of_ble_eq_true rfl, Or.inr (q_rc hI2102.1 kx_0 rfl)⟩ ?_
          show At _ none _ _ (0, [(0, .ref 0), (1, .int 0)], [], (_, _)) _
          refine At.enter rfl ?_
          refine r_aload_n rfl ?_
          refine r_iconst 0 rfl ?_
          refine q_putI (Sh.int hI2102.1 kx_0 rfl) rfl ?_
          have hI2107 := HI.wI0 hI2102 kx_0 rfl (p := 0) (b := 17) (v := 0) rfl
          have hF2108 := Fr.wI (p := 0) (b := 17) (v := 0) hF2106 rfl
          refine r_iload_n rfl ?_
          refine q_ireti ?_
          refine At.enter rfl ?_
          refine r_ireti ?_
          have zv2109 : (0 : Int32).toInt = 0 := rfl
          have e : a1.toInt = 1 := by omega
          have k2110_ : (eA g0 173 1).toInt = v1810.toInt := by rw [← hv1810, e]
          have k2110 : (eA g0 173 1).toInt ≠ 0 := by omega
          obtain ⟨v2111, hv2111⟩ : ∃ v, eA g0 173 0 = v := ⟨_, rfl⟩
          have tv2111 := congrArg Int32.toInt hv2111
          have x2112 := HI.eqA hI0 (p := 173) (j := 0) (hv2111)
          obtain ⟨v2113, hv2113⟩ : ∃ v, eA g0 173 1 = v := ⟨_, rfl⟩
          have tv2113 := congrArg Int32.toInt hv2113
          have x2114 := HI.eqA hI0 (p := 173) (j := 1) (hv2113)
          have y2115 : (eA g0 173 1).toInt = v1810.toInt := by rw [← hv1810, show a1.toInt = 1 by omega]
          exact ⟨_, rfl, hI2107, hF2108, _, rfl, by decide, ⟨⟨(fun h => absurd (e.symm.trans h.1) (by decide)), (fun _ => ⟨(by first | rfl | decide), (HI.eqI hI2107 (p := 1) (b := 0) ((((gI_sI_ne (by decide)).trans ((hF2103.1 1 0 (by decide)).trans ((gI_sW).trans ((gI_sW).trans ((gI_sI_ne (by decide)).trans ((gI_sI_ne (by decide)).trans ((gI_sI_ne (by decide)).trans (gI_sI_ne (by decide))))))))).trans e2062))).trans (HI.eqI hI0 (p := 116) (b := 0) (hv1812)).symm, (HI.eqI hI2107 (p := 1) (b := 12) (((gI_sI_ne (by decide)).trans ((hF2103.1 1 12 (by decide)).trans ((gI_sW).trans ((gI_sW).trans (gI_sI_eq hI2086.1 kx_1 rfl _))))))).trans (HI.eqI hI0 (p := 116) (b := 12) (hv2088)).symm, (HI.eqI hI2107 (p := 1) (b := 10) (((gI_sI_ne (by decide)).trans ((hF2103.1 1 10 (by decide)).trans ((gI_sW).trans ((gI_sW).trans ((gI_sI_ne (by decide)).trans ((gI_sI_ne (by decide)).trans (gI_sI_eq hI2080.1 kx_1 rfl _))))))))).trans (HI.eqI hI0 (p := 116) (b := 10) (hv2082)).symm, (HI.eqI hI2107 (p := 1) (b := 11) (((gI_sI_ne (by decide)).trans ((hF2103.1 1 11 (by decide)).trans ((gI_sW).trans ((gI_sW).trans ((gI_sI_ne (by decide)).trans (gI_sI_eq hI2083.1 kx_1 rfl _)))))))).trans (HI.eqI hI0 (p := 116) (b := 11) (hv2085)).symm, (HI.eqI hI2107 (p := 1) (b := 4) ((((gI_sI_ne (by decide)).trans ((hF2103.1 1 4 (by decide)).trans ((gI_sW).trans ((gI_sW).trans ((gI_sI_ne (by decide)).trans ((gI_sI_ne (by decide)).trans ((gI_sI_ne (by decide)).trans (gI_sI_ne (by decide))))))))).trans e2063))).trans (HI.eqI hI0 (p := 116) (b := 4) (hv1830)).symm⟩), (fun h => absurd ⟨e, k2110⟩ h.2), (fun h => False.elim (by omega)), (fun h => absurd ⟨e, k2110⟩ h.2.2.2)⟩, (by intro i i0 i1; exact (Decidable.em (a1.toInt = 0 ∧ (eA g0 173 0).toInt ≠ 0)).elim (fun k148_ => by refine Eq.trans ?_ (if_pos k148_).symm; refine (eA_ti (((gA_sI).trans ((hF2103.2.1 2 (by decide)).trans ((gA_sW_ne (by decide)).trans ((gA_sW_ne (by decide)).trans ((gA_sI).trans ((gA_sI).trans ((gA_sI).trans (gA_sI)))))))))).trans ?_; refine ((q2068 (i) (by omega) (by omega))).trans ?_; (first | rfl | exact eA_ix (by omega) | omega)) (fun k148_ => by refine Eq.trans ?_ (if_neg k148_).symm; exact (Decidable.em (a1.toInt = 1 ∧ (eA g0 173 1).toInt ≠ 0)).elim (fun k149_ => by refine Eq.trans ?_ (if_pos k149_).symm; refine (eA_ti (((gA_sI).trans ((hF2103.2.1 2 (by decide)).trans ((gA_sW_ne (by decide)).trans ((gA_sW_ne (by decide)).trans ((gA_sI).trans ((gA_sI).trans ((gA_sI).trans (gA_sI)))))))))).trans ?_; refine ((q2068 (i) (by omega) (by omega))).trans ?_; (first | rfl | exact eA_ix (by omega) | omega)) (fun k149_ => by refine Eq.trans ?_ (if_neg k149_).symm; refine (eA_ti (((gA_sI).trans ((hF2103.2.1 2 (by decide)).trans ((gA_sW_ne (by decide)).trans ((gA_sW_ne (by decide)).trans ((gA_sI).trans ((gA_sI).trans ((gA_sI).trans (gA_sI)))))))))).trans ?_; refine ((q2068 (i) (by omega) (by omega))).trans ?_; (first | rfl | exact eA_ix (by omega) | omega)))), (by intro i i0 i1; exact (Decidable.em (a1.toInt = 0 ∧ (eA g0 173 0).toInt ≠ 0)).elim (fun k150_ => by refine Eq.trans ?_ (if_pos k150_).symm; refine (eA_ti (((gA_sI).trans ((hF2103.2.1 3 (by decide)).trans ((gA_sW_ne (by decide)).trans ((gA_sW_ne (by decide)).trans ((gA_sI).trans ((gA_sI).trans ((gA_sI).trans (gA_sI)))))))))).trans ?_; refine ((q2069 (i) (by omega) (by omega))).trans ?_; (first | rfl | exact eA_ix (by omega) | omega)) (fun k150_ => by refine Eq.trans ?_ (if_neg k150_).symm; exact (Decidable.em (a1.toInt = 1 ∧ (eA g0 173 1).toInt ≠ 0)).elim (fun k151_ => by refine Eq.trans ?_ (if_pos k151_).symm; refine (eA_ti (((gA_sI).trans ((hF2103.2.1 3 (by decide)).trans ((gA_sW_ne (by decide)).trans ((gA_sW_ne (by decide)).trans ((gA_sI).trans ((gA_sI).trans ((gA_sI).trans (gA_sI)))))))))).trans ?_; refine ((q2069 (i) (by omega) (by omega))).trans ?_; (first | rfl | exact eA_ix (by omega) | omega)) (fun k151_ => by refine Eq.trans ?_ (if_neg k151_).symm; refine (eA_ti (((gA_sI).trans ((hF2103.2.1 3 (by decide)).trans ((gA_sW_ne (by decide)).trans ((gA_sW_ne (by decide)).trans ((gA_sI).trans ((gA_sI).trans ((gA_sI).trans (gA_sI)))))))))).trans ?_; refine ((q2069 (i) (by omega) (by omega))).trans ?_; (first | rfl | exact eA_ix (by omega) | omega)))), (by intro i i0 i1; exact (Decidable.em (a1.toInt = 0 ∧ (eA g0 173 0).toInt ≠ 0)).elim (fun k152_ => by refine Eq.trans ?_ (if_pos k152_).symm; refine (eA_ti (((gA_sI).trans ((hF2103.2.1 4 (by decide)).trans ((gA_sW_ne (by decide)).trans ((gA_sW_ne (by decide)).trans ((gA_sI).trans ((gA_sI).trans ((gA_sI).trans (gA_sI)))))))))).trans ?_; refine ((q2070 (i) (by omega) (by omega))).trans ?_; (first | rfl | exact eA_ix (by omega) | omega)) (fun k152_ => by refine Eq.trans ?_ (if_neg k152_).symm; exact (Decidable.em (a1.toInt = 1 ∧ (eA g0 173 1).toInt ≠ 0)).elim (fun k153_ => by refine Eq.trans ?_ (if_pos k153_).symm; refine (eA_ti (((gA_sI).trans ((hF2103.2.1 4 (by decide)).trans ((gA_sW_ne (by decide)).trans ((gA_sW_ne (by decide)).trans ((gA_sI).trans ((gA_sI).trans ((gA_sI).trans (gA_sI)))))))))).trans ?_; refine ((q2070 (i) (by omega) (by omega))).trans ?_; (first | rfl | exact eA_ix (by omega) | omega)) (fun k153_ => by refine Eq.trans ?_ (if_neg k153_).symm; refine (eA_ti (((gA_sI).trans ((hF2103.2.1 4 (by decide)).trans ((gA_sW_ne (by decide)).trans ((gA_sW_ne (by decide)).trans ((gA_sI).trans ((gA_sI).trans ((gA_sI).trans (gA_sI)))))))))).trans ?_; refine ((q2070 (i) (by omega) (by omega))).trans ?_; (first | rfl | exact eA_ix (by omega) | omega)))), (by intro i i0 i1; exact (Decidable.em (a1.toInt = 0 ∧ (eA g0 173 0).toInt ≠ 0)).elim (fun k154_ => by refine Eq.trans ?_ (if_pos k154_).symm; refine (eA_tq (((gA_sI).trans ((hF2103.2.1 14 (by decide)).trans ((gA_sW_ne (by decide)).trans ((gA_cpF hI2089.1 ka_129 ka_14 (by decide) (by decide) (by decide)).trans ((gA_sI).trans ((gA_sI).trans ((gA_sI).trans ((gA_sI).trans (hF2058.2.1 129 (by decide)))))))))))).trans ?_; (first | rfl | exact eA_ix (by omega) | omega)) (fun k154_ => by refine Eq.trans ?_ (if_neg k154_).symm; exact (Decidable.em (a1.toInt = 1 ∧ (eA g0 173 1).toInt ≠ 0)).elim (fun k155_ => by refine Eq.trans ?_ (if_pos k155_).symm; refine (eA_tq (((gA_sI).trans ((hF2103.2.1 14 (by decide)).trans ((gA_sW_ne (by decide)).trans ((gA_cpF hI2089.1 ka_129 ka_14 (by decide) (by decide) (by decide)).trans ((gA_sI).trans ((gA_sI).trans ((gA_sI).trans ((gA_sI).trans (hF2058.2.1 129 (by decide)))))))))))).trans ?_; (first | rfl | exact eA_ix (by omega) | omega)) (fun k155_ => by refine Eq.trans ?_ (if_neg k155_).symm; refine (eA_tq (((gA_sI).trans ((hF2103.2.1 14 (by decide)).trans ((gA_sW_ne (by decide)).trans ((gA_cpF hI2089.1 ka_129 ka_14 (by decide) (by decide) (by decide)).trans ((gA_sI).trans ((gA_sI).trans ((gA_sI).trans ((gA_sI).trans (hF2058.2.1 129 (by decide)))))))))))).trans ?_; (first | rfl | exact eA_ix (by omega) | omega)))), (by intro i i0 i1; exact (Decidable.em (a1.toInt = 0 ∧ (eA g0 173 0).toInt ≠ 0)).elim (fun k156_ => by refine Eq.trans ?_ (if_pos k156_).symm; refine (eA_tq (((gA_sI).trans ((hF2103.2.1 15 (by decide)).trans ((gA_cpF hI2094.1 ka_130 ka_15 (by decide) (by decide) (by decide)).trans ((gA_sW_ne (by decide)).trans ((gA_sI).trans ((gA_sI).trans ((gA_sI).trans ((gA_sI).trans (hF2058.2.1 130 (by decide)))))))))))).trans ?_; (first | rfl | exact eA_ix (by omega) | omega)) (fun k156_ => by refine Eq.trans ?_ (if_neg k156_).symm; exact (Decidable.em (a1.toInt = 1 ∧ (eA g0 173 1).toInt ≠ 0)).elim (fun k157_ => by refine Eq.trans ?_ (if_pos k157_).symm; refine (eA_tq (((gA_sI).trans ((hF2103.2.1 15 (by decide)).trans ((gA_cpF hI2094.1 ka_130 ka_15 (by decide) (by decide) (by decide)).trans ((gA_sW_ne (by decide)).trans ((gA_sI).trans ((gA_sI).trans ((gA_sI).trans ((gA_sI).trans (hF2058.2.1 130 (by decide)))))))))))).trans ?_; (first | rfl | exact eA_ix (by omega) | omega)) (fun k157_ => by refine Eq.trans ?_ (if_neg k157_).symm; refine (eA_tq (((gA_sI).trans ((hF2103.2.1 15 (by decide)).trans ((gA_cpF hI2094.1 ka_130 ka_15 (by decide) (by decide) (by decide)).trans ((gA_sW_ne (by decide)).trans ((gA_sI).trans ((gA_sI).trans ((gA_sI).trans ((gA_sI).trans (hF2058.2.1 130 (by decide)))))))))))).trans ?_; (first | rfl | exact eA_ix (by omega) | omega)))), (by intro i i0 i1; exact (Decidable.em (a1.toInt = 0 ∧ (eA g0 173 0).toInt ≠ 0)).elim (fun k158_ => by refine Eq.trans ?_ (if_pos k158_).symm; refine (eA_ti (((gA_sI).trans ((hF2103.2.1 5 (by decide)).trans ((gA_sW_ne (by decide)).trans ((gA_sW_ne (by decide)).trans ((gA_sI).trans ((gA_sI).trans ((gA_sI).trans (gA_sI)))))))))).trans ?_; refine ((q2073 (i) (by omega) (by omega))).trans ?_; (first | rfl | exact eA_ix (by omega) | omega)) (fun k158_ => by refine Eq.trans ?_ (if_neg k158_).symm; exact (Decidable.em (a1.toInt = 1 ∧ (eA g0 173 1).toInt ≠ 0)).elim (fun k159_ => by refine Eq.trans ?_ (if_pos k159_).symm; refine (eA_ti (((gA_sI).trans ((hF2103.2.1 5 (by decide)).trans ((gA_sW_ne (by decide)).trans ((gA_sW_ne (by decide)).trans ((gA_sI).trans ((gA_sI).trans ((gA_sI).trans (gA_sI)))))))))).trans ?_; refine ((q2073 (i) (by omega) (by omega))).trans ?_; (first | rfl | exact eA_ix (by omega) | omega)) (fun k159_ => by refine Eq.trans ?_ (if_neg k159_).symm; refine (eA_ti (((gA_sI).trans ((hF2103.2.1 5 (by decide)).trans ((gA_sW_ne (by decide)).trans ((gA_sW_ne (by decide)).trans ((gA_sI).trans ((gA_sI).trans ((gA_sI).trans (gA_sI)))))))))).trans ?_; refine ((q2073 (i) (by omega) (by omega))).trans ?_; (first | rfl | exact eA_ix (by omega) | omega))))⟩⟩
        · have c2078_ : x2055.toInt < 6 := en_i_ge_f c2078
          refine At.enter rfl ?_
          refine r_aload_n e2064 ?_
          refine r_iload_n e2066 ?_
          refine r_callV 97 rfl [.ref 1, .int x2055] [] (Nat.le_of_ble_eq_true rfl) rfl (T_X0_lawAt_1 _ hI2057 x2055) ?_
          rintro _ _ ⟨g2116, rfl, hI2117, hF2118, v2119, rfl, hr2120⟩
          refine At.str ?_
          have hF2121 := Fr.tr hF2058 hF2118 rfl rfl
          refine At.enter rfl ?_
          refine r_aload_n e2065 ?_
          refine r_iload_n e2066 ?_
          refine r_callV 102 rfl [.ref 116, .int x2055] [.ref (v2119)] (Nat.le_of_ble_eq_true rfl) rfl (T_X0_lawAt_116 _ hI2117 x2055) ?_
          rintro _ _ ⟨g2122, rfl, hI2123, hF2124, v2125, rfl, hr2126⟩
          refine At.str ?_
          have hF2127 := Fr.tr hF2121 hF2124 rfl rfl
          refine At.enter rfl ?_
          refine r_callV 105 rfl [.ref (v2119), .ref (v2125)] [] (Nat.le_of_ble_eq_true rfl) rfl (T_X4_become_law _ hI2123 (v2119) hr2120 (v2125) hr2126) ?_
          rintro _ _ ⟨g2128, rfl, hI2129, hF2130, rfl⟩
          refine At.stn ?_
          have hF2133 := Fr.tr hF2127 hF2130 rfl rfl
          refine At.enter rfl ?_
          refine q_iinc e2066 (x2055.toInt + 1) rfl (by omega) (fun v2134 hv2134 => ?_)
          refine r_goto ?_
          exact ih2061 (6 - v2134.toInt) _ _ ⟨v2134, by first | rfl | omega, hI2129, hF2133, (((hF2130.1 1 0 (by decide)).trans ((hF2124.1 1 0 (by decide)).trans (hF2118.1 1 0 (by decide)))).trans e2062), (((hF2130.1 1 4 (by decide)).trans ((hF2124.1 1 4 (by decide)).trans (hF2118.1 1 4 (by decide)))).trans e2063), (w_p1 (by decide) (Or.inr rfl) e2064), (w_p1 (by decide) (Or.inr rfl) e2065), (w_e1 _ _ _), by omega, (by intro i i0 i1; refine (eA_ti (((hF2130.2.1 2 (by decide)).trans ((hF2124.2.1 2 (by decide)).trans (hF2118.2.1 2 (by decide)))))).trans ?_; refine ((q2068 (i) (by omega) (by omega))).trans ?_; (first | rfl | exact eA_ix (by omega) | omega)), (by intro i i0 i1; refine (eA_ti (((hF2130.2.1 3 (by decide)).trans ((hF2124.2.1 3 (by decide)).trans (hF2118.2.1 3 (by decide)))))).trans ?_; refine ((q2069 (i) (by omega) (by omega))).trans ?_; (first | rfl | exact eA_ix (by omega) | omega)), (by intro i i0 i1; refine (eA_ti (((hF2130.2.1 4 (by decide)).trans ((hF2124.2.1 4 (by decide)).trans (hF2118.2.1 4 (by decide)))))).trans ?_; refine ((q2070 (i) (by omega) (by omega))).trans ?_; (first | rfl | exact eA_ix (by omega) | omega)), (by intro i i0 i1; refine (eA_ti (((hF2130.2.1 14 (by decide)).trans ((hF2124.2.1 14 (by decide)).trans (hF2118.2.1 14 (by decide)))))).trans ?_; refine ((q2071 (i) (by omega) (by omega))).trans ?_; (first | rfl | exact eA_ix (by omega) | omega)), (by intro i i0 i1; refine (eA_ti (((hF2130.2.1 15 (by decide)).trans ((hF2124.2.1 15 (by decide)).trans (hF2118.2.1 15 (by decide)))))).trans ?_; refine ((q2072 (i) (by omega) (by omega))).trans ?_; (first | rfl | exact eA_ix (by omega) | omega)), (by intro i i0 i1; refine (eA_ti (((hF2130.2.1 5 (by decide)).trans ((hF2124.2.1 5 (by decide)).trans (hF2118.2.1 5 (by decide)))))).trans ?_; refine ((q2073 (i) (by omega) (by omega))).trans ?_; (first | rfl | exact eA_ix (by omega) | omega))⟩ ⟨by omega, by omega⟩
      · have c1811_ : v1810.toInt = 0 := en_k_ne_f c1811
        refine At.enter rfl ?_
        refine r_aload_n rfl ?_
        refine r_bipush (-2) rfl ?_
        refine r_callV 31 rfl [.ref 0, .int (-2)] [] (Nat.le_of_ble_eq_true rfl) rfl (T_X10_refused_0 _ hI0 (-2) (by decide)) ?_
        rintro _ _ ⟨g2135, rfl, hI2136, hF2137, v2138, rfl, hr2139⟩
        refine At.sti ?_
        have hF2140 := Fr.tr hF0 hF2137 rfl rfl
        have zv2141 : ((-2) : Int32).toInt = (-2) := rfl
        refine At.enter rfl ?_
        refine r_ireti ?_
        obtain ⟨v2142, hv2142⟩ : ∃ v, gI g0 1 0 = v := ⟨_, rfl⟩
        have rv2142 := RgF.at hI0.2.1 (p := 1) (b := 0) rfl
        rw [hv2142] at rv2142
        dsimp only at rv2142
        have tv2142 := congrArg Int32.toInt hv2142
        have x2143 := HI.eqI hI0 (p := 1) (b := 0) (hv2142)
        obtain ⟨v2144, hv2144⟩ : ∃ v, gI g0 1 12 = v := ⟨_, rfl⟩
        have rv2144 := RgF.at hI0.2.1 (p := 1) (b := 12) rfl
        rw [hv2144] at rv2144
        dsimp only at rv2144
        have tv2144 := congrArg Int32.toInt hv2144
        have x2145 := HI.eqI hI0 (p := 1) (b := 12) (hv2144)
        obtain ⟨v2146, hv2146⟩ : ∃ v, gI g0 1 10 = v := ⟨_, rfl⟩
        have tv2146 := congrArg Int32.toInt hv2146
        have x2147 := HI.eqI hI0 (p := 1) (b := 10) (hv2146)
        obtain ⟨v2148, hv2148⟩ : ∃ v, gI g0 1 11 = v := ⟨_, rfl⟩
        have tv2148 := congrArg Int32.toInt hv2148
        have x2149 := HI.eqI hI0 (p := 1) (b := 11) (hv2148)
        obtain ⟨v2150, hv2150⟩ : ∃ v, gI g0 1 4 = v := ⟨_, rfl⟩
        have rv2150 := RgF.at hI0.2.1 (p := 1) (b := 4) rfl
        rw [hv2150] at rv2150
        dsimp only at rv2150
        have tv2150 := congrArg Int32.toInt hv2150
        have x2151 := HI.eqI hI0 (p := 1) (b := 4) (hv2150)
        obtain ⟨v2152, hv2152⟩ : ∃ v, gI g0 59 0 = v := ⟨_, rfl⟩
        have rv2152 := RgF.at hI0.2.1 (p := 59) (b := 0) rfl
        rw [hv2152] at rv2152
        dsimp only at rv2152
        have tv2152 := congrArg Int32.toInt hv2152
        have x2153 := HI.eqI hI0 (p := 59) (b := 0) (hv2152)
        obtain ⟨v2154, hv2154⟩ : ∃ v, gI g0 59 12 = v := ⟨_, rfl⟩
        have rv2154 := RgF.at hI0.2.1 (p := 59) (b := 12) rfl
        rw [hv2154] at rv2154
        dsimp only at rv2154
        have tv2154 := congrArg Int32.toInt hv2154
        have x2155 := HI.eqI hI0 (p := 59) (b := 12) (hv2154)
        obtain ⟨v2156, hv2156⟩ : ∃ v, gI g0 59 10 = v := ⟨_, rfl⟩
        have tv2156 := congrArg Int32.toInt hv2156
        have x2157 := HI.eqI hI0 (p := 59) (b := 10) (hv2156)
        obtain ⟨v2158, hv2158⟩ : ∃ v, gI g0 59 11 = v := ⟨_, rfl⟩
        have tv2158 := congrArg Int32.toInt hv2158
        have x2159 := HI.eqI hI0 (p := 59) (b := 11) (hv2158)
        obtain ⟨v2160, hv2160⟩ : ∃ v, gI g0 59 4 = v := ⟨_, rfl⟩
        have rv2160 := RgF.at hI0.2.1 (p := 59) (b := 4) rfl
        rw [hv2160] at rv2160
        dsimp only at rv2160
        have tv2160 := congrArg Int32.toInt hv2160
        have x2161 := HI.eqI hI0 (p := 59) (b := 4) (hv2160)
        obtain ⟨v2162, hv2162⟩ : ∃ v, gI g0 116 0 = v := ⟨_, rfl⟩
        have rv2162 := RgF.at hI0.2.1 (p := 116) (b := 0) rfl
        rw [hv2162] at rv2162
        dsimp only at rv2162
        have tv2162 := congrArg Int32.toInt hv2162
        have x2163 := HI.eqI hI0 (p := 116) (b := 0) (hv2162)
        obtain ⟨v2164, hv2164⟩ : ∃ v, gI g0 116 12 = v := ⟨_, rfl⟩
        have rv2164 := RgF.at hI0.2.1 (p := 116) (b := 12) rfl
        rw [hv2164] at rv2164
        dsimp only at rv2164
        have tv2164 := congrArg Int32.toInt hv2164
        have x2165 := HI.eqI hI0 (p := 116) (b := 12) (hv2164)
        obtain ⟨v2166, hv2166⟩ : ∃ v, gI g0 116 10 = v := ⟨_, rfl⟩
        have tv2166 := congrArg Int32.toInt hv2166
        have x2167 := HI.eqI hI0 (p := 116) (b := 10) (hv2166)
        obtain ⟨v2168, hv2168⟩ : ∃ v, gI g0 116 11 = v := ⟨_, rfl⟩
        have tv2168 := congrArg Int32.toInt hv2168
        have x2169 := HI.eqI hI0 (p := 116) (b := 11) (hv2168)
        obtain ⟨v2170, hv2170⟩ : ∃ v, gI g0 116 4 = v := ⟨_, rfl⟩
        have rv2170 := RgF.at hI0.2.1 (p := 116) (b := 4) rfl
        rw [hv2170] at rv2170
        dsimp only at rv2170
        have tv2170 := congrArg Int32.toInt hv2170
        have x2171 := HI.eqI hI0 (p := 116) (b := 4) (hv2170)
        obtain ⟨v2172, hv2172⟩ : ∃ v, eA g0 173 0 = v := ⟨_, rfl⟩
        have tv2172 := congrArg Int32.toInt hv2172
        have x2173 := HI.eqA hI0 (p := 173) (j := 0) (hv2172)
        obtain ⟨v2174, hv2174⟩ : ∃ v, eA g0 173 1 = v := ⟨_, rfl⟩
        have tv2174 := congrArg Int32.toInt hv2174
        have x2175 := HI.eqA hI0 (p := 173) (j := 1) (hv2174)
        have y2176 : (eA g0 173 1).toInt = v1810.toInt := by rw [← hv1810, show a1.toInt = 1 by omega]
        have y2177 : a1.toInt = 1 → (eA g0 173 1).toInt = v1810.toInt := fun e => by rw [← hv1810, e]
        have e : a1.toInt = 1 := by omega
        have z2178 := HI.eqI hI2136 (p := 1) (b := 0) (((hF2137.1 1 0 (by decide)).trans hv2142))
        have z2179 := HI.eqI hI2136 (p := 1) (b := 12) (((hF2137.1 1 12 (by decide)).trans hv2144))
        have z2180 := HI.eqI hI2136 (p := 1) (b := 10) (((hF2137.1 1 10 (by decide)).trans hv2146))
        have z2181 := HI.eqI hI2136 (p := 1) (b := 11) (((hF2137.1 1 11 (by decide)).trans hv2148))
        have z2182 := HI.eqI hI2136 (p := 1) (b := 4) (((hF2137.1 1 4 (by decide)).trans hv2150))
        have x2183 := HI.eqA hI0 (p := 173) (j := 0) (hv2172)
        have x2184 := HI.eqA hI0 (p := 173) (j := 1) (hv2174)
        have y2185 : (eA g0 173 1).toInt = v1810.toInt := by rw [← hv1810, show a1.toInt = 1 by omega]
        exact ⟨_, rfl, hI2136, hF2140, _, rfl, by omega, ⟨⟨by omega, by omega, by omega, by omega, by omega⟩, (by intro i i0 i1; refine Eq.trans ?_ (if_neg (show ¬ (a1.toInt = 0 ∧ (eA g0 173 0).toInt ≠ 0) from by omega)).symm; refine Eq.trans ?_ (if_neg (show ¬ (a1.toInt = 1 ∧ (eA g0 173 1).toInt ≠ 0) from by omega)).symm; refine (eA_ti ((hF2137.2.1 2 (by decide)))).trans ?_; (first | rfl | exact eA_ix (by omega) | omega)), (by intro i i0 i1; refine Eq.trans ?_ (if_neg (show ¬ (a1.toInt = 0 ∧ (eA g0 173 0).toInt ≠ 0) from by omega)).symm; refine Eq.trans ?_ (if_neg (show ¬ (a1.toInt = 1 ∧ (eA g0 173 1).toInt ≠ 0) from by omega)).symm; refine (eA_ti ((hF2137.2.1 3 (by decide)))).trans ?_; (first | rfl | exact eA_ix (by omega) | omega)), (by intro i i0 i1; refine Eq.trans ?_ (if_neg (show ¬ (a1.toInt = 0 ∧ (eA g0 173 0).toInt ≠ 0) from by omega)).symm; refine Eq.trans ?_ (if_neg (show ¬ (a1.toInt = 1 ∧ (eA g0 173 1).toInt ≠ 0) from by omega)).symm; refine (eA_ti ((hF2137.2.1 4 (by decide)))).trans ?_; (first | rfl | exact eA_ix (by omega) | omega)), (by intro i i0 i1; refine Eq.trans ?_ (if_neg (show ¬ (a1.toInt = 0 ∧ (eA g0 173 0).toInt ≠ 0) from by omega)).symm; refine Eq.trans ?_ (if_neg (show ¬ (a1.toInt = 1 ∧ (eA g0 173 1).toInt ≠ 0) from by omega)).symm; refine (eA_ti ((hF2137.2.1 14 (by decide)))).trans ?_; (first | rfl | exact eA_ix (by omega) | omega)), (by intro i i0 i1; refine Eq.trans ?_ (if_neg (show ¬ (a1.toInt = 0 ∧ (eA g0 173 0).toInt ≠ 0) from by omega)).symm; refine Eq.trans ?_ (if_neg (show ¬ (a1.toInt = 1 ∧ (eA g0 173 1).toInt ≠ 0) from by omega)).symm; refine (eA_ti ((hF2137.2.1 15 (by decide)))).trans ?_; (first | rfl | exact eA_ix (by omega) | omega)), (by intro i i0 i1; refine Eq.trans ?_ (if_neg (show ¬ (a1.toInt = 0 ∧ (eA g0 173 0).toInt ≠ 0) from by omega)).symm; refine Eq.trans ?_ (if_neg (show ¬ (a1.toInt = 1 ∧ (eA g0 173 1).toInt ≠ 0) from by omega)).symm; refine (eA_ti ((hF2137.2.1 5 (by decide)))).trans ?_; (first | rfl | exact eA_ix (by omega) | omega))⟩⟩
