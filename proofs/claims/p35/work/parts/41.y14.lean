def F_X10_drawn_0 : List (Nat × Nat) := []
def A_X10_drawn_0 : List Nat := []
set_option maxRecDepth 100000 in
set_option maxHeartbeats 4000000 in
theorem T_X10_drawn_0 (d : Nat) {N : Nat} {g0 : List en_E} (hI0 : HI g0) (a1 : Int32) (a2 : Int32) : Ev (d + 2) 139 [.ref 0, .int a1, .int a2] (g0, N) (fun w h' => ∃ g', h' = (g', N) ∧ HI g' ∧ Fr F_X10_drawn_0 A_X10_drawn_0 g0 g' ∧ ∃ r : Int32, w = some (.int r) ∧ True) := by
  have hF0 : Fr F_X10_drawn_0 A_X10_drawn_0 g0 g0 := Fr.rf
  refine Ev.mk rfl rfl ⟨Nat.le_of_ble_eq_true rfl, Or.inr (q_rc hI0.1 kx_0 rfl)⟩ ?_
  show At _ none _ _ (0, [(0, .ref 0), (1, .int a1), (2, .int a2)], [], (_, _)) _
  refine At.enter rfl ?_
  refine r_iload_n rfl ?_
  refine r_iconst 0 rfl ?_
  refine r_aload_n rfl ?_
  obtain ⟨v23, hv23⟩ : ∃ v, gI g0 0 15 = v := ⟨_, rfl⟩
  have rv23 := RgF.at hI0.2.1 (p := 0) (b := 15) rfl
  rw [hv23] at rv23
  dsimp only at rv23
  refine q_getI (Sh.int hI0.1 kx_0 rfl) v23 hv23 ?_
  refine r_iconst 1 rfl ?_
  refine q_isub (v23.toInt - 1) rfl (by omega) (fun v24 hv24 => ?_)
  refine q_inlS 11 rfl [.int a1, .int 0, .int v24] [] (Nat.le_of_ble_eq_true rfl) rfl ?_
  refine Ev.mk rfl rfl ⟨Nat.le_of_ble_eq_true rfl, Or.inl rfl⟩ ?_
  show At _ none _ _ (0, [(0, .int a1), (1, .int 0), (2, .int v24)], [], (_, _)) _
  refine At.enter rfl ?_
  refine r_iload_n rfl ?_
  refine r_iload_n rfl ?_
  refine r_ics 5 rfl (fun c25 => ?_) (fun c25 => ?_)
  · have c25_ : a1.toInt < 0 := en_i_lt_t c25
    refine At.enter rfl ?_
    refine r_iconst 0 rfl ?_
    refine Ar.fall 15 rfl ?_
    refine At.enter rfl ?_
    refine q_iretz (by decide) ?_
    refine At.enter rfl ?_
    refine r_ift (by decide) ?_
    refine At.enter rfl ?_
    refine r_iconst (-1) rfl ?_
    refine r_ireti ?_
    exact ⟨_, rfl, hI0, hF0, _, rfl, trivial⟩
  · have c25_ : a1.toInt ≥ 0 := en_i_lt_f c25
    refine At.enter rfl ?_
    refine r_iload_n rfl ?_
    refine r_iload_n rfl ?_
    have bv27 := q_bnd a1
    have bv28 := q_bnd v24
    refine r_ics 10 rfl (fun c26 => ?_) (fun c26 => ?_)
    · have c26_ : a1.toInt > v24.toInt := en_i_gt_t c26
      refine At.enter rfl ?_
      refine r_iconst 0 rfl ?_
      refine Ar.fall 15 rfl ?_
      refine At.enter rfl ?_
      refine q_iretz (by decide) ?_
      refine At.enter rfl ?_
      refine r_ift (by decide) ?_
      refine At.enter rfl ?_
      refine r_iconst (-1) rfl ?_
      refine r_ireti ?_
      exact ⟨_, rfl, hI0, hF0, _, rfl, trivial⟩
    · have c26_ : a1.toInt ≤ v24.toInt := en_i_gt_f c26
      refine At.enter rfl ?_
      refine r_iconst 1 rfl ?_
      refine r_goto ?_
      refine At.enter rfl ?_
      refine q_iretz (by decide) ?_
      refine At.enter rfl ?_
      refine r_iff 14 rfl (by decide) ?_
      refine At.enter rfl ?_
      refine r_iload_n rfl ?_
      refine r_iconst 0 rfl ?_
      refine r_iconst 1 rfl ?_
      refine q_inlS 20 rfl [.int a2, .int 0, .int 1] [] (Nat.le_of_ble_eq_true rfl) rfl ?_
      refine Ev.mk rfl rfl ⟨Nat.le_of_ble_eq_true rfl, Or.inl rfl⟩ ?_
      show At _ none _ _ (0, [(0, .int a2), (1, .int 0), (2, .int 1)], [], (_, _)) _
      refine At.enter rfl ?_
      refine r_iload_n rfl ?_
      refine r_iload_n rfl ?_
      refine r_ics 5 rfl (fun c29 => ?_) (fun c29 => ?_)
      · have c29_ : a2.toInt < 0 := en_i_lt_t c29
        refine At.enter rfl ?_
        refine r_iconst 0 rfl ?_
        refine Ar.fall 15 rfl ?_
        refine At.enter rfl ?_
        refine q_iretz (by decide) ?_
        refine At.enter rfl ?_
        refine r_iff 23 rfl (by decide) ?_
        refine At.enter rfl ?_
        refine r_iconst (-1) rfl ?_
        refine r_ireti ?_
        exact ⟨_, rfl, hI0, hF0, _, rfl, trivial⟩
      · have c29_ : a2.toInt ≥ 0 := en_i_lt_f c29
        refine At.enter rfl ?_
        refine r_iload_n rfl ?_
        refine r_iload_n rfl ?_
        refine r_ics 10 rfl (fun c30 => ?_) (fun c30 => ?_)
        · have c30_ : a2.toInt > 1 := en_i_gt_t c30
          refine At.enter rfl ?_
          refine r_iconst 0 rfl ?_
          refine Ar.fall 15 rfl ?_
          refine At.enter rfl ?_
          refine q_iretz (by decide) ?_
          refine At.enter rfl ?_
          refine r_iff 23 rfl (by decide) ?_
          refine At.enter rfl ?_
          refine r_iconst (-1) rfl ?_
          refine r_ireti ?_
          exact ⟨_, rfl, hI0, hF0, _, rfl, trivial⟩
        · have c30_ : a2.toInt ≤ 1 := en_i_gt_f c30
          refine At.enter rfl ?_
          refine r_iconst 1 rfl ?_
          refine r_goto ?_
          refine At.enter rfl ?_
          refine q_iretz (by decide) ?_
          refine At.enter rfl ?_
          refine r_ift (by decide) ?_
          refine At.enter rfl ?_
          refine r_iload_n rfl ?_
          refine r_ifs 29 rfl (fun c31 => ?_) (fun c31 => ?_)
          · have c31_ : a2.toInt ≠ 0 := en_k_ne_t c31
            refine At.enter rfl ?_
            refine r_aload_n rfl ?_
            refine q_getR (Sh.ref hI0.1 kx_0 rfl) ?_
            refine r_iload_n rfl ?_
            obtain ⟨v32, hv32⟩ : ∃ v, eA g0 229 a1.toInt = v := ⟨_, rfl⟩
            refine q_iald (Sh.arr hI0.1 ka_229) a1.toInt rfl (by omega) v32 hv32 ?_
            refine Ar.fall 44 rfl ?_
            refine At.enter rfl ?_
            refine r_ireti ?_
            exact ⟨_, rfl, hI0, hF0, _, rfl, trivial⟩
          · have c31_ : a2.toInt = 0 := en_k_ne_f c31
            refine At.enter rfl ?_
            refine r_aload_n rfl ?_
            refine q_getR (Sh.ref hI0.1 kx_0 rfl) ?_
            refine r_iload_n rfl ?_
            obtain ⟨v33, hv33⟩ : ∃ v, eA g0 228 a1.toInt = v := ⟨_, rfl⟩
            refine q_iald (Sh.arr hI0.1 ka_228) a1.toInt rfl (by omega) v33 hv33 ?_
            refine r_goto ?_
            refine At.enter rfl ?_
            refine r_ireti ?_
            exact ⟨_, rfl, hI0, hF0, _, rfl, trivial⟩

def F_X10_image_0 : List (Nat × Nat) := [(0, 17), (7, 0), (7, 3), (7, 4), (16, 0), (16, 3), (16, 4), (23, 0), (23, 3), (23, 4), (30, 0), (30, 3), (30, 4), (37, 0), (37, 3), (37, 4), (44, 0), (44, 3), (44, 4), (51, 0), (51, 3), (51, 4), (59, 0), (59, 4), (59, 6), (59, 9), (59, 10), (59, 11), (59, 12), (65, 0), (65, 3), (65, 4), (74, 0), (74, 3), (74, 4), (81, 0), (81, 3), (81, 4), (88, 0), (88, 3), (88, 4), (95, 0), (95, 3), (95, 4), (102, 0), (102, 3), (102, 4), (109, 0), (109, 3), (109, 4), (116, 0), (116, 4), (116, 6), (116, 9), (116, 10), (116, 11), (116, 12), (122, 0), (122, 3), (122, 4), (131, 0), (131, 3), (131, 4), (138, 0), (138, 3), (138, 4), (145, 0), (145, 3), (145, 4), (152, 0), (152, 3), (152, 4), (159, 0), (159, 3), (159, 4), (166, 0), (166, 3), (166, 4), (177, 0), (177, 3), (177, 4)]
def A_X10_image_0 : List Nat := [8, 9, 10, 11, 12, 13, 17, 18, 19, 20, 21, 22, 24, 25, 26, 27, 28, 29, 31, 32, 33, 34, 35, 36, 38, 39, 40, 41, 42, 43, 45, 46, 47, 48, 49, 50, 52, 53, 54, 55, 56, 57, 60, 61, 62, 63, 66, 67, 68, 69, 70, 71, 72, 73, 75, 76, 77, 78, 79, 80, 82, 83, 84, 85, 86, 87, 89, 90, 91, 92, 93, 94, 96, 97, 98, 99, 100, 101, 103, 104, 105, 106, 107, 108, 110, 111, 112, 113, 114, 115, 117, 118, 119, 120, 123, 124, 125, 126, 127, 128, 129, 130, 132, 133, 134, 135, 136, 137, 139, 140, 141, 142, 143, 144, 146, 147, 148, 149, 150, 151, 153, 154, 155, 156, 157, 158, 160, 161, 162, 163, 164, 165, 167, 168, 169, 170, 171, 172, 173, 178, 179, 180, 181, 182, 183, 230]
set_option maxRecDepth 100000 in
set_option maxHeartbeats 4000000 in
theorem T_X10_image_0 (d : Nat) {N : Nat} {g0 : List en_E} (hI0 : HI g0) (a1 : Int32) : Ev (d + 3) 140 [.ref 0, .int a1] (g0, N) (fun w h' => ∃ g', h' = (g', N) ∧ HI g' ∧ Fr F_X10_image_0 A_X10_image_0 g0 g' ∧ ∃ r : Int32, w = some (.int r) ∧ ((-1) ≤ r.toInt ∧ r.toInt ≤ 0) ∧ (((a1.toInt = 0 → (eA g' 173 0).toInt = 1 ∧ r.toInt = 0 ∧ (gI g' 59 0).toInt = (gI g0 1 0).toInt ∧ (gI g' 59 12).toInt = (gI g0 1 12).toInt ∧ (gI g' 59 10).toInt = (gI g0 1 10).toInt ∧ (gI g' 59 11).toInt = (gI g0 1 11).toInt) ∧ (a1.toInt ≠ 0 → (eA g' 173 0).toInt = (eA g0 173 0).toInt ∧ (gI g' 59 0).toInt = (gI g0 59 0).toInt ∧ (gI g' 59 12).toInt = (gI g0 59 12).toInt ∧ (gI g' 59 10).toInt = (gI g0 59 10).toInt ∧ (gI g' 59 11).toInt = (gI g0 59 11).toInt) ∧ (a1.toInt = 1 → (eA g' 173 1).toInt = 1 ∧ r.toInt = 0 ∧ (gI g' 116 0).toInt = (gI g0 1 0).toInt ∧ (gI g' 116 12).toInt = (gI g0 1 12).toInt ∧ (gI g' 116 10).toInt = (gI g0 1 10).toInt ∧ (gI g' 116 11).toInt = (gI g0 1 11).toInt) ∧ (a1.toInt ≠ 1 → (eA g' 173 1).toInt = (eA g0 173 1).toInt ∧ (gI g' 116 0).toInt = (gI g0 116 0).toInt ∧ (gI g' 116 12).toInt = (gI g0 116 12).toInt ∧ (gI g' 116 10).toInt = (gI g0 116 10).toInt ∧ (gI g' 116 11).toInt = (gI g0 116 11).toInt) ∧ (a1.toInt < 0 ∨ 1 < a1.toInt → r.toInt = -1)) ∧ (∀ i : Int, 0 ≤ i → i < 12 → (eA g' 60 (i)).toInt = if a1.toInt = 0 then (eA g0 2 (i)).toInt else (eA g0 60 (i)).toInt) ∧ (∀ i : Int, 0 ≤ i → i < 12 → (eA g' 61 (i)).toInt = if a1.toInt = 0 then (eA g0 3 (i)).toInt else (eA g0 61 (i)).toInt) ∧ (∀ i : Int, 0 ≤ i → i < 12 → (eA g' 62 (i)).toInt = if a1.toInt = 0 then (eA g0 4 (i)).toInt else (eA g0 62 (i)).toInt) ∧ (∀ i : Int, 0 ≤ i → i < 8 → (eA g' 72 (i)).toInt = if a1.toInt = 0 then (eA g0 14 (i)).toInt else (eA g0 72 (i)).toInt) ∧ (∀ i : Int, 0 ≤ i → i < 8 → (eA g' 73 (i)).toInt = if a1.toInt = 0 then (eA g0 15 (i)).toInt else (eA g0 73 (i)).toInt) ∧ (∀ i : Int, 0 ≤ i → i < 12 → (eA g' 117 (i)).toInt = if a1.toInt = 1 then (eA g0 2 (i)).toInt else (eA g0 117 (i)).toInt) ∧ (∀ i : Int, 0 ≤ i → i < 12 → (eA g' 118 (i)).toInt = if a1.toInt = 1 then (eA g0 3 (i)).toInt else (eA g0 118 (i)).toInt) ∧ (∀ i : Int, 0 ≤ i → i < 12 → (eA g' 119 (i)).toInt = if a1.toInt = 1 then (eA g0 4 (i)).toInt else (eA g0 119 (i)).toInt) ∧ (∀ i : Int, 0 ≤ i → i < 8 → (eA g' 129 (i)).toInt = if a1.toInt = 1 then (eA g0 14 (i)).toInt else (eA g0 129 (i)).toInt) ∧ (∀ i : Int, 0 ≤ i → i < 8 → (eA g' 130 (i)).toInt = if a1.toInt = 1 then (eA g0 15 (i)).toInt else (eA g0 130 (i)).toInt))) := by
  have hF0 : Fr F_X10_image_0 A_X10_image_0 g0 g0 := Fr.rf
  refine Ev.mk rfl rfl ⟨Nat.le_of_ble_eq_true rfl, Or.inr (q_rc hI0.1 kx_0 rfl)⟩ ?_
  show At _ none _ _ (0, [(0, .ref 0), (1, .int a1)], [], (_, _)) _
  refine At.enter rfl ?_
  refine r_aload_n rfl ?_
  refine r_iload_n rfl ?_
  refine q_inlV 5 rfl [.ref 0, .int a1] [] (Nat.le_of_ble_eq_true rfl) rfl ?_
  refine Ev.mk rfl rfl ⟨Nat.le_of_ble_eq_true rfl, Or.inr (q_rc hI0.1 kx_0 rfl)⟩ ?_
  show At _ none _ _ (0, [(0, .ref 0), (1, .int a1)], [], (_, _)) _
  refine At.enter rfl ?_
  refine r_iload_n rfl ?_
  refine r_iconst 0 rfl ?_
  refine r_iconst 1 rfl ?_
  refine q_inlS 6 rfl [.int a1, .int 0, .int 1] [] (Nat.le_of_ble_eq_true rfl) rfl ?_
  refine Ev.mk rfl rfl ⟨Nat.le_of_ble_eq_true rfl, Or.inl rfl⟩ ?_
  show At _ none _ _ (0, [(0, .int a1), (1, .int 0), (2, .int 1)], [], (_, _)) _
  refine At.enter rfl ?_
  refine r_iload_n rfl ?_
  refine r_iload_n rfl ?_
  refine r_ics 5 rfl (fun c1367 => ?_) (fun c1367 => ?_)
  · have c1367_ : a1.toInt < 0 := en_i_lt_t c1367
    refine At.enter rfl ?_
    refine r_iconst 0 rfl ?_
    refine Ar.fall 15 rfl ?_
    refine At.enter rfl ?_
    refine q_iretz (by decide) ?_
    refine At.enter rfl ?_
    refine r_ift (by decide) ?_
    refine At.enter rfl ?_
    refine r_null ?_
    refine Ar.fall 19 rfl ?_
    refine At.enter rfl ?_
    refine q_zret ?_
    refine At.enter rfl ?_
    refine r_zstore_n ([(2, .null), (0, .ref 0), (1, .int a1)]) rfl ?_
    refine r_zload_n rfl ?_
    refine r_nnz 10 rfl ?_
    refine At.enter rfl ?_
    refine r_aload_n rfl ?_
    refine r_iconst (-1) rfl ?_
    refine r_callV 15 rfl [.ref 0, .int (-1)] [] (Nat.le_of_ble_eq_true rfl) rfl (T_X10_refused_0 _ hI0 (-1) (by decide)) ?_
    rintro _ _ ⟨g1368, rfl, hI1369, hF1370, v1371, rfl, hr1372⟩
    refine At.sti ?_
    have hF1373 := Fr.tr hF0 hF1370 rfl rfl
    have zv1374 : ((-1) : Int32).toInt = (-1) := rfl
    refine At.enter rfl ?_
    refine r_ireti ?_
    obtain ⟨v1375, hv1375⟩ : ∃ v, gI g0 1 0 = v := ⟨_, rfl⟩
    have rv1375 := RgF.at hI0.2.1 (p := 1) (b := 0) rfl
    rw [hv1375] at rv1375
    dsimp only at rv1375
    have tv1375 := congrArg Int32.toInt hv1375
    have x1376 := HI.eqI hI0 (p := 1) (b := 0) (hv1375)
    obtain ⟨v1377, hv1377⟩ : ∃ v, gI g0 1 12 = v := ⟨_, rfl⟩
    have rv1377 := RgF.at hI0.2.1 (p := 1) (b := 12) rfl
    rw [hv1377] at rv1377
    dsimp only at rv1377
    have tv1377 := congrArg Int32.toInt hv1377
    have x1378 := HI.eqI hI0 (p := 1) (b := 12) (hv1377)
    obtain ⟨v1379, hv1379⟩ : ∃ v, gI g0 1 10 = v := ⟨_, rfl⟩
    have tv1379 := congrArg Int32.toInt hv1379
    have x1380 := HI.eqI hI0 (p := 1) (b := 10) (hv1379)
    obtain ⟨v1381, hv1381⟩ : ∃ v, gI g0 1 11 = v := ⟨_, rfl⟩
    have tv1381 := congrArg Int32.toInt hv1381
    have x1382 := HI.eqI hI0 (p := 1) (b := 11) (hv1381)
    obtain ⟨v1383, hv1383⟩ : ∃ v, gI g0 59 0 = v := ⟨_, rfl⟩
    have rv1383 := RgF.at hI0.2.1 (p := 59) (b := 0) rfl
    rw [hv1383] at rv1383
    dsimp only at rv1383
    have tv1383 := congrArg Int32.toInt hv1383
    have x1384 := HI.eqI hI0 (p := 59) (b := 0) (hv1383)
    obtain ⟨v1385, hv1385⟩ : ∃ v, gI g0 59 12 = v := ⟨_, rfl⟩
    have rv1385 := RgF.at hI0.2.1 (p := 59) (b := 12) rfl
    rw [hv1385] at rv1385
    dsimp only at rv1385
    have tv1385 := congrArg Int32.toInt hv1385
    have x1386 := HI.eqI hI0 (p := 59) (b := 12) (hv1385)
    obtain ⟨v1387, hv1387⟩ : ∃ v, gI g0 59 10 = v := ⟨_, rfl⟩
    have tv1387 := congrArg Int32.toInt hv1387
    have x1388 := HI.eqI hI0 (p := 59) (b := 10) (hv1387)
    obtain ⟨v1389, hv1389⟩ : ∃ v, gI g0 59 11 = v := ⟨_, rfl⟩
    have tv1389 := congrArg Int32.toInt hv1389
    have x1390 := HI.eqI hI0 (p := 59) (b := 11) (hv1389)
    obtain ⟨v1391, hv1391⟩ : ∃ v, gI g0 116 0 = v := ⟨_, rfl⟩
    have rv1391 := RgF.at hI0.2.1 (p := 116) (b := 0) rfl
    rw [hv1391] at rv1391
    dsimp only at rv1391
    have tv1391 := congrArg Int32.toInt hv1391
    have x1392 := HI.eqI hI0 (p := 116) (b := 0) (hv1391)
    obtain ⟨v1393, hv1393⟩ : ∃ v, gI g0 116 12 = v := ⟨_, rfl⟩
    have rv1393 := RgF.at hI0.2.1 (p := 116) (b := 12) rfl
    rw [hv1393] at rv1393
    dsimp only at rv1393
    have tv1393 := congrArg Int32.toInt hv1393
    have x1394 := HI.eqI hI0 (p := 116) (b := 12) (hv1393)
    obtain ⟨v1395, hv1395⟩ : ∃ v, gI g0 116 10 = v := ⟨_, rfl⟩
    have tv1395 := congrArg Int32.toInt hv1395
    have x1396 := HI.eqI hI0 (p := 116) (b := 10) (hv1395)
    obtain ⟨v1397, hv1397⟩ : ∃ v, gI g0 116 11 = v := ⟨_, rfl⟩
    have tv1397 := congrArg Int32.toInt hv1397
    have x1398 := HI.eqI hI0 (p := 116) (b := 11) (hv1397)
    obtain ⟨v1399, hv1399⟩ : ∃ v, eA g0 173 0 = v := ⟨_, rfl⟩
    have tv1399 := congrArg Int32.toInt hv1399
    have x1400 := HI.eqA hI0 (p := 173) (j := 0) (hv1399)
    obtain ⟨v1401, hv1401⟩ : ∃ v, eA g0 173 1 = v := ⟨_, rfl⟩
    have tv1401 := congrArg Int32.toInt hv1401
    have x1402 := HI.eqA hI0 (p := 173) (j := 1) (hv1401)
    have x1403 := HI.eqI hI1369 (p := 59) (b := 0) (((hF1370.1 59 0 (by decide)).trans hv1383))
    have x1404 := HI.eqI hI1369 (p := 59) (b := 12) (((hF1370.1 59 12 (by decide)).trans hv1385))
    have x1405 := HI.eqI hI1369 (p := 59) (b := 10) (((hF1370.1 59 10 (by decide)).trans hv1387))
    have x1406 := HI.eqI hI1369 (p := 59) (b := 11) (((hF1370.1 59 11 (by decide)).trans hv1389))
    have x1407 := HI.eqI hI1369 (p := 116) (b := 0) (((hF1370.1 116 0 (by decide)).trans hv1391))
    have x1408 := HI.eqI hI1369 (p := 116) (b := 12) (((hF1370.1 116 12 (by decide)).trans hv1393))
    have x1409 := HI.eqI hI1369 (p := 116) (b := 10) (((hF1370.1 116 10 (by decide)).trans hv1395))
    have x1410 := HI.eqI hI1369 (p := 116) (b := 11) (((hF1370.1 116 11 (by decide)).trans hv1397))
    have x1411 := HI.eqA hI1369 (p := 173) (j := 0) (((eA_c (hF1370.2.1 173 (by decide))).trans hv1399))
    have x1412 := HI.eqA hI1369 (p := 173) (j := 1) (((eA_c (hF1370.2.1 173 (by decide))).trans hv1401))
    exact ⟨_, rfl, hI1369, hF1373, _, rfl, by omega, ⟨⟨by omega, by omega, by omega, by omega, by omega⟩, (by intro i i0 i1; refine Eq.trans ?_ (if_neg (show ¬ (a1.toInt = 0) from by omega)).symm; refine (eA_ti ((hF1370.2.1 60 (by decide)))).trans ?_; (first | rfl | exact eA_ix (by omega) | omega)), (by intro i i0 i1; refine Eq.trans ?_ (if_neg (show ¬ (a1.toInt = 0) from by omega)).symm; refine (eA_ti ((hF1370.2.1 61 (by decide)))).trans ?_; (first | rfl | exact eA_ix (by omega) | omega)), (by intro i i0 i1; refine Eq.trans ?_ (if_neg (show ¬ (a1.toInt = 0) from by omega)).symm; refine (eA_ti ((hF1370.2.1 62 (by decide)))).trans ?_; (first | rfl | exact eA_ix (by omega) | omega)), (by intro i i0 i1; refine Eq.trans ?_ (if_neg (show ¬ (a1.toInt = 0) from by omega)).symm; refine (eA_ti ((hF1370.2.1 72 (by decide)))).trans ?_; (first | rfl | exact eA_ix (by omega) | omega)), (by intro i i0 i1; refine Eq.trans ?_ (if_neg (show ¬ (a1.toInt = 0) from by omega)).symm; refine (eA_ti ((hF1370.2.1 73 (by decide)))).trans ?_; (first | rfl | exact eA_ix (by omega) | omega)), (by intro i i0 i1; refine Eq.trans ?_ (if_neg (show ¬ (a1.toInt = 1) from by omega)).symm; refine (eA_ti ((hF1370.2.1 117 (by decide)))).trans ?_; (first | rfl | exact eA_ix (by omega) | omega)), (by intro i i0 i1; refine Eq.trans ?_ (if_neg (show ¬ (a1.toInt = 1) from by omega)).symm; refine (eA_ti ((hF1370.2.1 118 (by decide)))).trans ?_; (first | rfl | exact eA_ix (by omega) | omega)), (by intro i i0 i1; refine Eq.trans ?_ (if_neg (show ¬ (a1.toInt = 1) from by omega)).symm; refine (eA_ti ((hF1370.2.1 119 (by decide)))).trans ?_; (first | rfl | exact eA_ix (by omega) | omega)), (by intro i i0 i1; refine Eq.trans ?_ (if_neg (show ¬ (a1.toInt = 1) from by omega)).symm; refine (eA_ti ((hF1370.2.1 129 (by decide)))).trans ?_; (first | rfl | exact eA_ix (by omega) | omega)), (by intro i i0 i1; refine Eq.trans ?_ (if_neg (show ¬ (a1.toInt = 1) from by omega)).symm; refine (eA_ti ((hF1370.2.1 130 (by decide)))).trans ?_; (first | rfl | exact eA_ix (by omega) | omega))⟩⟩
  · have c1367_ : a1.toInt ≥ 0 := en_i_lt_f c1367
    refine At.enter rfl ?_
    refine r_iload_n rfl ?_
    refine r_iload_n rfl ?_
    refine r_ics 10 rfl (fun c1413 => ?_) (fun c1413 => ?_)
    · have c1413_ : a1.toInt > 1 := en_i_gt_t c1413
      refine At.enter rfl ?_
      refine r_iconst 0 rfl ?_
      refine Ar.fall 15 rfl ?_
      refine At.enter rfl ?_
      refine q_iretz (by decide) ?_
      refine At.enter rfl ?_
      refine r_ift (by decide) ?_
      refine At.enter rfl ?_
      refine r_null ?_
      refine Ar.fall 19 rfl ?_
      refine At.enter rfl ?_
      refine q_zret ?_
      refine At.enter rfl ?_
      refine r_zstore_n ([(2, .null), (0, .ref 0), (1, .int a1)]) rfl ?_
      refine r_zload_n rfl ?_
      refine r_nnz 10 rfl ?_
      refine At.enter rfl ?_
      refine r_aload_n rfl ?_
      refine r_iconst (-1) rfl ?_
      refine r_callV 15 rfl [.ref 0, .int (-1)] [] (Nat.le_of_ble_eq_true rfl) rfl (T_X10_refused_0 _ hI0 (-1) (by decide)) ?_
      rintro _ _ ⟨g1414, rfl, hI1415, hF1416, v1417, rfl, hr1418⟩
      refine At.sti ?_
      have hF1419 := Fr.tr hF0 hF1416 rfl rfl
      have zv1420 : ((-1) : Int32).toInt = (-1) := rfl
      refine At.enter rfl ?_
      refine r_ireti ?_
      obtain ⟨v1421, hv1421⟩ : ∃ v, gI g0 1 0 = v := ⟨_, rfl⟩
      have rv1421 := RgF.at hI0.2.1 (p := 1) (b := 0) rfl
      rw [hv1421] at rv1421
      dsimp only at rv1421
      have tv1421 := congrArg Int32.toInt hv1421
      have x1422 := HI.eqI hI0 (p := 1) (b := 0) (hv1421)
      obtain ⟨v1423, hv1423⟩ : ∃ v, gI g0 1 12 = v := ⟨_, rfl⟩
      have rv1423 := RgF.at hI0.2.1 (p := 1) (b := 12) rfl
      rw [hv1423] at rv1423
      dsimp only at rv1423
      have tv1423 := congrArg Int32.toInt hv1423
      have x1424 := HI.eqI hI0 (p := 1) (b := 12) (hv1423)
      obtain ⟨v1425, hv1425⟩ : ∃ v, gI g0 1 10 = v := ⟨_, rfl⟩
      have tv1425 := congrArg Int32.toInt hv1425
      have x1426 := HI.eqI hI0 (p := 1) (b := 10) (hv1425)
      obtain ⟨v1427, hv1427⟩ : ∃ v, gI g0 1 11 = v := ⟨_, rfl⟩
      have tv1427 := congrArg Int32.toInt hv1427
      have x1428 := HI.eqI hI0 (p := 1) (b := 11) (hv1427)
      obtain ⟨v1429, hv1429⟩ : ∃ v, gI g0 59 0 = v := ⟨_, rfl⟩
      have rv1429 := RgF.at hI0.2.1 (p := 59) (b := 0) rfl
      rw [hv1429] at rv1429
      dsimp only at rv1429
      have tv1429 := congrArg Int32.toInt hv1429
      have x1430 := HI.eqI hI0 (p := 59) (b := 0) (hv1429)
      obtain ⟨v1431, hv1431⟩ : ∃ v, gI g0 59 12 = v := ⟨_, rfl⟩
      have rv1431 := RgF.at hI0.2.1 (p := 59) (b := 12) rfl
      rw [hv1431] at rv1431
      dsimp only at rv1431
      have tv1431 := congrArg Int32.toInt hv1431
      have x1432 := HI.eqI hI0 (p := 59) (b := 12) (hv1431)
      obtain ⟨v1433, hv1433⟩ : ∃ v, gI g0 59 10 = v := ⟨_, rfl⟩
      have tv1433 := congrArg Int32.toInt hv1433
      have x1434 := HI.eqI hI0 (p := 59) (b := 10) (hv1433)
      obtain ⟨v1435, hv1435⟩ : ∃ v, gI g0 59 11 = v := ⟨_, rfl⟩
      have tv1435 := congrArg Int32.toInt hv1435
      have x1436 := HI.eqI hI0 (p := 59) (b := 11) (hv1435)
      obtain ⟨v1437, hv1437⟩ : ∃ v, gI g0 116 0 = v := ⟨_, rfl⟩
      have rv1437 := RgF.at hI0.2.1 (p := 116) (b := 0) rfl
      rw [hv1437] at rv1437
      dsimp only at rv1437
      have tv1437 := congrArg Int32.toInt hv1437
      have x1438 := HI.eqI hI0 (p := 116) (b := 0) (hv1437)
      obtain ⟨v1439, hv1439⟩ : ∃ v, gI g0 116 12 = v := ⟨_, rfl⟩
      have rv1439 := RgF.at hI0.2.1 (p := 116) (b := 12) rfl
      rw [hv1439] at rv1439
      dsimp only at rv1439
      have tv1439 := congrArg Int32.toInt hv1439
      have x1440 := HI.eqI hI0 (p := 116) (b := 12) (hv1439)
      obtain ⟨v1441, hv1441⟩ : ∃ v, gI g0 116 10 = v := ⟨_, rfl⟩
      have tv1441 := congrArg Int32.toInt hv1441
      have x1442 := HI.eqI hI0 (p := 116) (b := 10) (hv1441)
      obtain ⟨v1443, hv1443⟩ : ∃ v, gI g0 116 11 = v := ⟨_, rfl⟩
      have tv1443 := congrArg Int32.toInt hv1443
      have x1444 := HI.eqI hI0 (p := 116) (b := 11) (hv1443)
      obtain ⟨v1445, hv1445⟩ : ∃ v, eA g0 173 0 = v := ⟨_, rfl⟩
      have tv1445 := congrArg Int32.toInt hv1445
      have x1446 := HI.eqA hI0 (p := 173) (j := 0) (hv1445)
      obtain ⟨v1447, hv1447⟩ : ∃ v, eA g0 173 1 = v := ⟨_, rfl⟩
      have tv1447 := congrArg Int32.toInt hv1447
      have x1448 := HI.eqA hI0 (p := 173) (j := 1) (hv1447)
      have x1449 := HI.eqI hI1415 (p := 59) (b := 0) (((hF1416.1 59 0 (by decide)).trans hv1429))
      have x1450 := HI.eqI hI1415 (p := 59) (b := 12) (((hF1416.1 59 12 (by decide)).trans hv1431))
      have x1451 := HI.eqI hI1415 (p := 59) (b := 10) (((hF1416.1 59 10 (by decide)).trans hv1433))
      have x1452 := HI.eqI hI1415 (p := 59) (b := 11) (((hF1416.1 59 11 (by decide)).trans hv1435))
      have x1453 := HI.eqI hI1415 (p := 116) (b := 0) (((hF1416.1 116 0 (by decide)).trans hv1437))
      have x1454 := HI.eqI hI1415 (p := 116) (b := 12) (((hF1416.1 116 12 (by decide)).trans hv1439))
      have x1455 := HI.eqI hI1415 (p := 116) (b := 10) (((hF1416.1 116 10 (by decide)).trans hv1441))
      have x1456 := HI.eqI hI1415 (p := 116) (b := 11) (((hF1416.1 116 11 (by decide)).trans hv1443))
      have x1457 := HI.eqA hI1415 (p := 173) (j := 0) (((eA_c (hF1416.2.1 173 (by decide))).trans hv1445))
      have x1458 := HI.eqA hI1415 (p := 173) (j := 1) (((eA_c (hF1416.2.1 173 (by decide))).trans hv1447))
      exact ⟨_, rfl, hI1415, hF1419, _, rfl, by omega, ⟨⟨by omega, by omega, by omega, by omega, by omega⟩, (by intro i i0 i1; refine Eq.trans ?_ (if_neg (show ¬ (a1.toInt = 0) from by omega)).symm; refine (eA_ti ((hF1416.2.1 60 (by decide)))).trans ?_; (first | rfl | exact eA_ix (by omega) | omega)), (by intro i i0 i1; refine Eq.trans ?_ (if_neg (show ¬ (a1.toInt = 0) from by omega)).symm; refine (eA_ti ((hF1416.2.1 61 (by decide)))).trans ?_; (first | rfl | exact eA_ix (by omega) | omega)), (by intro i i0 i1; refine Eq.trans ?_ (if_neg (show ¬ (a1.toInt = 0) from by omega)).symm; refine (eA_ti ((hF1416.2.1 62 (by decide)))).trans ?_; (first | rfl | exact eA_ix (by omega) | omega)), (by intro i i0 i1; refine Eq.trans ?_ (if_neg (show ¬ (a1.toInt = 0) from by omega)).symm; refine (eA_ti ((hF1416.2.1 72 (by decide)))).trans ?_; (first | rfl | exact eA_ix (by omega) | omega)), (by intro i i0 i1; refine Eq.trans ?_ (if_neg (show ¬ (a1.toInt = 0) from by omega)).symm; refine (eA_ti ((hF1416.2.1 73 (by decide)))).trans ?_; (first | rfl | exact eA_ix (by omega) | omega)), (by intro i i0 i1; refine Eq.trans ?_ (if_neg (show ¬ (a1.toInt = 1) from by omega)).symm; refine (eA_ti ((hF1416.2.1 117 (by decide)))).trans ?_; (first | rfl | exact eA_ix (by omega) | omega)), (by intro i i0 i1; refine Eq.trans ?_ (if_neg (show ¬ (a1.toInt = 1) from by omega)).symm; refine (eA_ti ((hF1416.2.1 118 (by decide)))).trans ?_; (first | rfl | exact eA_ix (by omega) | omega)), (by intro i i0 i1; refine Eq.trans ?_ (if_neg (show ¬ (a1.toInt = 1) from by omega)).symm; refine (eA_ti ((hF1416.2.1 119 (by decide)))).trans ?_; (first | rfl | exact eA_ix (by omega) | omega)), (by intro i i0 i1; refine Eq.trans ?_ (if_neg (show ¬ (a1.toInt = 1) from by omega)).symm; refine (eA_ti ((hF1416.2.1 129 (by decide)))).trans ?_; (first | rfl | exact eA_ix (by omega) | omega)), (by intro i i0 i1; refine Eq.trans ?_ (if_neg (show ¬ (a1.toInt = 1) from by omega)).symm; refine (eA_ti ((hF1416.2.1 130 (by decide)))).trans ?_; (first | rfl | exact eA_ix (by omega) | omega))⟩⟩
    · have c1413_ : a1.toInt ≤ 1 := en_i_gt_f c1413
      refine At.enter rfl ?_
      refine r_iconst 1 rfl ?_
      refine r_goto ?_
      refine At.enter rfl ?_
      refine q_iretz (by decide) ?_
      refine At.enter rfl ?_
      refine r_iff 9 rfl (by decide) ?_
      refine At.enter rfl ?_
      refine r_aload_n rfl ?_
      refine q_getR (Sh.ref hI0.1 kx_0 rfl) ?_
      refine r_iload_n rfl ?_
      by_cases c1459_0 : a1.toInt = 0
      · refine q_aald (Sh.rar hI0.1 ka_58) (by decide) 0 (by omega) (by decide) (some 59) rfl ?_
        refine r_goto ?_
        refine At.enter rfl ?_
        refine q_aret ?_
        refine At.enter rfl ?_
        refine r_astore_n ([(2, .ref 59), (0, .ref 0), (1, .int a1)]) rfl ?_
        refine r_aload_n rfl ?_
        refine r_nnr ?_
        refine At.enter rfl ?_
        refine r_aload_n rfl ?_
        refine r_aload_n rfl ?_
        refine q_getR (Sh.ref hI0.1 kx_0 rfl) ?_
        refine q_inlV 24 rfl [.ref 59, .ref 1] [] (Nat.le_of_ble_eq_true rfl) rfl ?_
        refine Ev.mk rfl rfl ⟨Nat.le_of_ble_eq_true rfl, Or.inr (q_rc hI0.1 kx_59 rfl)⟩ ?_
        show At _ none _ _ (0, [(0, .ref 59), (1, .ref 1)], [], (_, _)) _
        refine At.enter rfl ?_
        refine r_aload_n rfl ?_
        refine r_aload_n rfl ?_
        obtain ⟨v1460, hv1460⟩ : ∃ v, gI g0 1 0 = v := ⟨_, rfl⟩
        have rv1460 := RgF.at hI0.2.1 (p := 1) (b := 0) rfl
        rw [hv1460] at rv1460
        dsimp only at rv1460
        refine q_getI (Sh.int hI0.1 kx_1 rfl) v1460 hv1460 ?_
        refine q_putI (Sh.int hI0.1 kx_59 rfl) rfl ?_
        have hI1461 := HI.wI1 hI0 kx_59 rfl (p := 59) (b := 0) (v := v1460) rfl (by dsimp only; omega)
        have hF1462 := Fr.wI (p := 59) (b := 0) (v := v1460) hF0 rfl
        refine r_aload_n rfl ?_
        refine q_getR (Sh.ref hI1461.1 kx_1 rfl) ?_
        refine r_iconst 0 rfl ?_
        refine r_aload_n rfl ?_
        refine q_getR (Sh.ref hI1461.1 kx_59 rfl) ?_
        refine r_iconst 0 rfl ?_
        refine r_bipush 12 rfl ?_
        have zv1463 : (0 : Int32).toInt = 0 := rfl
        have zv1464 : (0 : Int32).toInt = 0 := rfl
        have zv1465 : (12 : Int32).toInt = 12 := rfl
        refine q_cpy rfl (Nat.le_of_ble_eq_true rfl) (Sh.arr hI1461.1 ka_2) (Sh.arr hI1461.1 ka_60) ⟨by omega, by omega, by omega, by omega, by omega⟩ ?_
        have hI1466 := HI.cpy0 hI1461 ka_2 ka_60 rfl rfl ((0 : Int32).toInt.toNat) ((0 : Int32).toInt.toNat) ((12 : Int32).toInt.toNat) (by omega) (by omega)
        have hF1467 := Fr.cpy (p0 := 2) (p1 := 60) hF1462 rfl ((0 : Int32).toInt.toNat) ((0 : Int32).toInt.toNat) ((12 : Int32).toInt.toNat)
        refine r_aload_n rfl ?_
        refine q_getR (Sh.ref hI1466.1 kx_1 rfl) ?_
        refine r_iconst 0 rfl ?_
        refine r_aload_n rfl ?_
        refine q_getR (Sh.ref hI1466.1 kx_59 rfl) ?_
        refine r_iconst 0 rfl ?_
        refine r_bipush 12 rfl ?_
        have zv1468 : (0 : Int32).toInt = 0 := rfl
        have zv1469 : (0 : Int32).toInt = 0 := rfl
        have zv1470 : (12 : Int32).toInt = 12 := rfl
        refine q_cpy rfl (Nat.le_of_ble_eq_true rfl) (Sh.arr hI1466.1 ka_3) (Sh.arr hI1466.1 ka_61) ⟨by omega, by omega, by omega, by omega, by omega⟩ ?_
        have hI1471 := HI.cpy0 hI1466 ka_3 ka_61 rfl rfl ((0 : Int32).toInt.toNat) ((0 : Int32).toInt.toNat) ((12 : Int32).toInt.toNat) (by omega) (by omega)
        have hF1472 := Fr.cpy (p0 := 3) (p1 := 61) hF1467 rfl ((0 : Int32).toInt.toNat) ((0 : Int32).toInt.toNat) ((12 : Int32).toInt.toNat)
        refine r_aload_n rfl ?_
        refine q_getR (Sh.ref hI1471.1 kx_1 rfl) ?_
        refine r_iconst 0 rfl ?_
        refine r_aload_n rfl ?_
        refine q_getR (Sh.ref hI1471.1 kx_59 rfl) ?_
        refine r_iconst 0 rfl ?_
        refine r_bipush 12 rfl ?_
        have zv1473 : (0 : Int32).toInt = 0 := rfl
        have zv1474 : (0 : Int32).toInt = 0 := rfl
        have zv1475 : (12 : Int32).toInt = 12 := rfl
        refine q_cpy rfl (Nat.le_of_ble_eq_true rfl) (Sh.arr hI1471.1 ka_4) (Sh.arr hI1471.1 ka_62) ⟨by omega, by omega, by omega, by omega, by omega⟩ ?_
        have hI1476 := HI.cpy0 hI1471 ka_4 ka_62 rfl rfl ((0 : Int32).toInt.toNat) ((0 : Int32).toInt.toNat) ((12 : Int32).toInt.toNat) (by omega) (by omega)
        have hF1477 := Fr.cpy (p0 := 4) (p1 := 62) hF1472 rfl ((0 : Int32).toInt.toNat) ((0 : Int32).toInt.toNat) ((12 : Int32).toInt.toNat)
        refine r_aload_n rfl ?_
        refine r_aload_n rfl ?_
        obtain ⟨v1478, hv1478⟩ : ∃ v, gI g0 1 4 = v := ⟨_, rfl⟩
        have rv1478 := RgF.at hI0.2.1 (p := 1) (b := 4) rfl
        rw [hv1478] at rv1478
        dsimp only at rv1478
        refine q_getI (Sh.int hI1476.1 kx_1 rfl) v1478 (((gI_sW).trans ((gI_sW).trans ((gI_sW).trans (gI_sI_ne (by decide))))).trans hv1478) ?_
        refine q_putI (Sh.int hI1476.1 kx_59 rfl) rfl ?_
        have hI1479 := HI.wI1 hI1476 kx_59 rfl (p := 59) (b := 4) (v := v1478) rfl (by dsimp only; omega)
        have hF1480 := Fr.wI (p := 59) (b := 4) (v := v1478) hF1477 rfl
        refine r_aload_n rfl ?_
        refine q_getR (Sh.ref hI1479.1 kx_1 rfl) ?_
        refine r_iconst 0 rfl ?_
        refine r_aload_n rfl ?_
        refine q_getR (Sh.ref hI1479.1 kx_59 rfl) ?_
        refine r_iconst 0 rfl ?_
        refine r_bipush 48 rfl ?_
        have zv1481 : (0 : Int32).toInt = 0 := rfl
        have zv1482 : (0 : Int32).toInt = 0 := rfl
        have zv1483 : (48 : Int32).toInt = 48 := rfl
        refine q_cpy rfl (Nat.le_of_ble_eq_true rfl) (Sh.arr hI1479.1 ka_5) (Sh.arr hI1479.1 ka_63) ⟨by omega, by omega, by omega, by omega, by omega⟩ ?_
        have hI1484 := HI.cpy0 hI1479 ka_5 ka_63 rfl rfl ((0 : Int32).toInt.toNat) ((0 : Int32).toInt.toNat) ((48 : Int32).toInt.toNat) (by omega) (by omega)
        have hF1485 := Fr.cpy (p0 := 5) (p1 := 63) hF1480 rfl ((0 : Int32).toInt.toNat) ((0 : Int32).toInt.toNat) ((48 : Int32).toInt.toNat)
        refine r_aload_n rfl ?_
        refine r_aload_n rfl ?_
        obtain ⟨v1486, hv1486⟩ : ∃ v, gI g0 1 6 = v := ⟨_, rfl⟩
        have rv1486 := RgF.at hI0.2.1 (p := 1) (b := 6) rfl
        rw [hv1486] at rv1486
        dsimp only at rv1486
        refine q_getI (Sh.int hI1484.1 kx_1 rfl) v1486 (((gI_sW).trans ((gI_sI_ne (by decide)).trans ((gI_sW).trans ((gI_sW).trans ((gI_sW).trans (gI_sI_ne (by decide))))))).trans hv1486) ?_
        refine q_putI (Sh.int hI1484.1 kx_59 rfl) rfl ?_
        have hI1487 := HI.wI1 hI1484 kx_59 rfl (p := 59) (b := 6) (v := v1486) rfl (by dsimp only; omega)
        have hF1488 := Fr.wI (p := 59) (b := 6) (v := v1486) hF1485 rfl
        refine r_iconst 0 rfl ?_
        refine r_istore_n ([(2, .int 0), (0, .ref 59), (1, .ref 1)]) rfl ?_
        refine Ar.fall 86 rfl ?_
        obtain ⟨v1489, hv1489⟩ : ∃ v, gI g0 59 10 = v := ⟨_, rfl⟩
        have tv1489 := congrArg Int32.toInt hv1489
        obtain ⟨v1490, hv1490⟩ : ∃ v, gI g0 59 11 = v := ⟨_, rfl⟩
        have tv1490 := congrArg Int32.toInt hv1490
        obtain ⟨v1491, hv1491⟩ : ∃ v, gI g0 59 12 = v := ⟨_, rfl⟩
        have rv1491 := RgF.at hI0.2.1 (p := 59) (b := 12) rfl
        rw [hv1491] at rv1491
        dsimp only at rv1491
        have tv1491 := congrArg Int32.toInt hv1491
        obtain ⟨v1492, hv1492⟩ : ∃ v, gI g0 116 0 = v := ⟨_, rfl⟩
        have rv1492 := RgF.at hI0.2.1 (p := 116) (b := 0) rfl
        rw [hv1492] at rv1492
        dsimp only at rv1492
        have tv1492 := congrArg Int32.toInt hv1492
        obtain ⟨v1493, hv1493⟩ : ∃ v, gI g0 116 10 = v := ⟨_, rfl⟩
        have tv1493 := congrArg Int32.toInt hv1493
        obtain ⟨v1494, hv1494⟩ : ∃ v, gI g0 116 11 = v := ⟨_, rfl⟩
        have tv1494 := congrArg Int32.toInt hv1494
        obtain ⟨v1495, hv1495⟩ : ∃ v, gI g0 116 12 = v := ⟨_, rfl⟩
        have rv1495 := RgF.at hI0.2.1 (p := 116) (b := 12) rfl
        rw [hv1495] at rv1495
        dsimp only at rv1495
        have tv1495 := congrArg Int32.toInt hv1495
        obtain ⟨v1496, hv1496⟩ : ∃ v, eA g0 173 0 = v := ⟨_, rfl⟩
        have tv1496 := congrArg Int32.toInt hv1496
        obtain ⟨v1497, hv1497⟩ : ∃ v, eA g0 173 1 = v := ⟨_, rfl⟩
        have tv1497 := congrArg Int32.toInt hv1497
        have z_1735 : (0 : Int32).toInt = 0 := rfl
        refine w_loopI (fun n_ l_ g_ => ∃ x1704 : Int32, n_ = 6 - x1704.toInt ∧ HI g_ ∧ Fr F_X10_image_0 A_X10_image_0 g0 g_ ∧ gI g_ 59 0 = v1460 ∧ gI g_ 59 10 = v1489 ∧ gI g_ 59 11 = v1490 ∧ gI g_ 59 12 = v1491 ∧ gI g_ 116 0 = v1492 ∧ gI g_ 116 10 = v1493 ∧ gI g_ 116 11 = v1494 ∧ gI g_ 116 12 = v1495 ∧ eA g_ 173 0 = v1496 ∧ eA g_ 173 1 = v1497 ∧ en_get 0 l_ = some (.ref 59) ∧ en_get 1 l_ = some (.ref 1) ∧ en_get 2 l_ = some (.int x1704) ∧ (0 ≤ x1704.toInt ∧ x1704.toInt ≤ 6) ∧ (∀ i : Int, 0 ≤ i → i < 12 → (eA g_ 60 (i)).toInt = (eA g0 2 (i)).toInt) ∧ (∀ i : Int, 0 ≤ i → i < 12 → (eA g_ 61 (i)).toInt = (eA g0 3 (i)).toInt) ∧ (∀ i : Int, 0 ≤ i → i < 12 → (eA g_ 62 (i)).toInt = (eA g0 4 (i)).toInt) ∧ (∀ i : Int, 0 ≤ i → i < 8 → (eA g_ 72 (i)).toInt = (eA g0 72 (i)).toInt) ∧ (∀ i : Int, 0 ≤ i → i < 8 → (eA g_ 73 (i)).toInt = (eA g0 73 (i)).toInt) ∧ (∀ i : Int, 0 ≤ i → i < 12 → (eA g_ 117 (i)).toInt = (eA g0 117 (i)).toInt) ∧ (∀ i : Int, 0 ≤ i → i < 12 → (eA g_ 118 (i)).toInt = (eA g0 118 (i)).toInt) ∧ (∀ i : Int, 0 ≤ i → i < 12 → (eA g_ 119 (i)).toInt = (eA g0 119 (i)).toInt) ∧ (∀ i : Int, 0 ≤ i → i < 8 → (eA g_ 129 (i)).toInt = (eA g0 129 (i)).toInt) ∧ (∀ i : Int, 0 ≤ i → i < 8 → (eA g_ 130 (i)).toInt = (eA g0 130 (i)).toInt)) ?_ (6 - 0) ⟨0, by first | rfl | omega, hI1487, hF1488, ((gI_sI_ne (by decide)).trans ((gI_sW).trans ((gI_sI_ne (by decide)).trans ((gI_sW).trans ((gI_sW).trans ((gI_sW).trans (gI_sI_eq hI0.1 kx_59 rfl _))))))), (((gI_sI_ne (by decide)).trans ((gI_sW).trans ((gI_sI_ne (by decide)).trans ((gI_sW).trans ((gI_sW).trans ((gI_sW).trans (gI_sI_ne (by decide)))))))).trans hv1489), (((gI_sI_ne (by decide)).trans ((gI_sW).trans ((gI_sI_ne (by decide)).trans ((gI_sW).trans ((gI_sW).trans ((gI_sW).trans (gI_sI_ne (by decide)))))))).trans hv1490), (((gI_sI_ne (by decide)).trans ((gI_sW).trans ((gI_sI_ne (by decide)).trans ((gI_sW).trans ((gI_sW).trans ((gI_sW).trans (gI_sI_ne (by decide)))))))).trans hv1491), (((gI_sI_ne (by decide)).trans ((gI_sW).trans ((gI_sI_ne (by decide)).trans ((gI_sW).trans ((gI_sW).trans ((gI_sW).trans (gI_sI_ne (by decide)))))))).trans hv1492), (((gI_sI_ne (by decide)).trans ((gI_sW).trans ((gI_sI_ne (by decide)).trans ((gI_sW).trans ((gI_sW).trans ((gI_sW).trans (gI_sI_ne (by decide)))))))).trans hv1493), (((gI_sI_ne (by decide)).trans ((gI_sW).trans ((gI_sI_ne (by decide)).trans ((gI_sW).trans ((gI_sW).trans ((gI_sW).trans (gI_sI_ne (by decide)))))))).trans hv1494), (((gI_sI_ne (by decide)).trans ((gI_sW).trans ((gI_sI_ne (by decide)).trans ((gI_sW).trans ((gI_sW).trans ((gI_sW).trans (gI_sI_ne (by decide)))))))).trans hv1495), (((eA_c gA_sI).trans ((eA_c (gA_sW_ne (by decide))).trans ((eA_c gA_sI).trans ((eA_c (gA_sW_ne (by decide))).trans ((eA_c (gA_sW_ne (by decide))).trans ((eA_c (gA_sW_ne (by decide))).trans (eA_c gA_sI))))))).trans hv1496), (((eA_c gA_sI).trans ((eA_c (gA_sW_ne (by decide))).trans ((eA_c gA_sI).trans ((eA_c (gA_sW_ne (by decide))).trans ((eA_c (gA_sW_ne (by decide))).trans ((eA_c (gA_sW_ne (by decide))).trans (eA_c gA_sI))))))).trans hv1497), rfl, rfl, rfl, by decide, (by intro i i0 i1; refine (eA_tq (((gA_sI).trans ((gA_sW_ne (by decide)).trans ((gA_sI).trans ((gA_sW_ne (by decide)).trans ((gA_sW_ne (by decide)).trans ((gA_cpF hI1461.1 ka_2 ka_60 (by decide) (by decide) (by decide)).trans (gA_sI))))))))).trans ?_; (first | rfl | exact eA_ix (by omega) | omega)), (by intro i i0 i1; refine (eA_tq (((gA_sI).trans ((gA_sW_ne (by decide)).trans ((gA_sI).trans ((gA_sW_ne (by decide)).trans ((gA_cpF hI1466.1 ka_3 ka_61 (by decide) (by decide) (by decide)).trans ((gA_sW_ne (by decide)).trans (gA_sI))))))))).trans ?_; (first | rfl | exact eA_ix (by omega) | omega)), (by intro i i0 i1; refine (eA_tq (((gA_sI).trans ((gA_sW_ne (by decide)).trans ((gA_sI).trans ((gA_cpF hI1471.1 ka_4 ka_62 (by decide) (by decide) (by decide)).trans ((gA_sW_ne (by decide)).trans ((gA_sW_ne (by decide)).trans (gA_sI))))))))).trans ?_; (first | rfl | exact eA_ix (by omega) | omega)), (by intro i i0 i1; refine (eA_ti (((gA_sI).trans ((gA_sW_ne (by decide)).trans ((gA_sI).trans ((gA_sW_ne (by decide)).trans ((gA_sW_ne (by decide)).trans ((gA_sW_ne (by decide)).trans (gA_sI))))))))).trans ?_; (first | rfl | exact eA_ix (by omega) | omega)), (by intro i i0 i1; refine (eA_ti (((gA_sI).trans ((gA_sW_ne (by decide)).trans ((gA_sI).trans ((gA_sW_ne (by decide)).trans ((gA_sW_ne (by decide)).trans ((gA_sW_ne (by decide)).trans (gA_sI))))))))).trans ?_; (first | rfl | exact eA_ix (by omega) | omega)), (by intro i i0 i1; refine (eA_ti (((gA_sI).trans ((gA_sW_ne (by decide)).trans ((gA_sI).trans ((gA_sW_ne (by decide)).trans ((gA_sW_ne (by decide)).trans ((gA_sW_ne (by decide)).trans (gA_sI))))))))).trans ?_; (first | rfl | exact eA_ix (by omega) | omega)), (by intro i i0 i1; refine (eA_ti (((gA_sI).trans ((gA_sW_ne (by decide)).trans ((gA_sI).trans ((gA_sW_ne (by decide)).trans ((gA_sW_ne (by decide)).trans ((gA_sW_ne (by decide)).trans (gA_sI))))))))).trans ?_; (first | rfl | exact eA_ix (by omega) | omega)), (by intro i i0 i1; refine (eA_ti (((gA_sI).trans ((gA_sW_ne (by decide)).trans ((gA_sI).trans ((gA_sW_ne (by decide)).trans ((gA_sW_ne (by decide)).trans ((gA_sW_ne (by decide)).trans (gA_sI))))))))).trans ?_; (first | rfl | exact eA_ix (by omega) | omega)), (by intro i i0 i1; refine (eA_ti (((gA_sI).trans ((gA_sW_ne (by decide)).trans ((gA_sI).trans ((gA_sW_ne (by decide)).trans ((gA_sW_ne (by decide)).trans ((gA_sW_ne (by decide)).trans (gA_sI))))))))).trans ?_; (first | rfl | exact eA_ix (by omega) | omega)), (by intro i i0 i1; refine (eA_ti (((gA_sI).trans ((gA_sW_ne (by decide)).trans ((gA_sI).trans ((gA_sW_ne (by decide)).trans ((gA_sW_ne (by decide)).trans ((gA_sW_ne (by decide)).trans (gA_sI))))))))).trans ?_; (first | rfl | exact eA_ix (by omega) | omega))⟩
        rintro n1709 l1708 g1705 ⟨x1704, hm1736, hI1706, hF1707, e1711, e1712, e1713, e1714, e1715, e1716, e1717, e1718, e1719, e1720, e1721, e1722, e1723, r1724, q1725, q1726, q1727, q1728, q1729, q1730, q1731, q1732, q1733, q1734⟩ ih1710
        have tv1737 := congrArg Int32.toInt e1719
        have tv1738 := congrArg Int32.toInt e1720
        have tv1739 := congrArg Int32.toInt e1711
        have tv1740 := congrArg Int32.toInt e1712
        have tv1741 := congrArg Int32.toInt e1713
        have tv1742 := congrArg Int32.toInt e1714
        have tv1743 := congrArg Int32.toInt e1715
        have tv1744 := congrArg Int32.toInt e1716
        have tv1745 := congrArg Int32.toInt e1717
        have tv1746 := congrArg Int32.toInt e1718
        refine At.enter rfl ?_
        refine r_iload_n e1723 ?_
        refine r_bipush 6 rfl ?_
        refine r_ics 92 rfl (fun c1747 => ?_) (fun c1747 => ?_)
        · have c1747_ : x1704.toInt ≥ 6 := en_i_ge_t c1747
          refine At.enter rfl ?_
          refine r_aload_n e1721 ?_
          refine r_aload_n e1722 ?_
          obtain ⟨v1748, hv1748⟩ : ∃ v, gI g0 1 9 = v := ⟨_, rfl⟩
          refine q_getI (Sh.int hI1706.1 kx_1 rfl) v1748 ((hF1707.1 1 9 (by decide)).trans hv1748) ?_
          refine q_putI (Sh.int hI1706.1 kx_59 rfl) rfl ?_
          have hI1749 := HI.wI0 hI1706 kx_59 rfl (p := 59) (b := 9) (v := v1748) rfl
          have hF1750 := Fr.wI (p := 59) (b := 9) (v := v1748) hF1707 rfl
          refine r_aload_n e1721 ?_
          refine r_aload_n e1722 ?_
          obtain ⟨v1751, hv1751⟩ : ∃ v, gI g0 1 10 = v := ⟨_, rfl⟩
          refine q_getI (Sh.int hI1749.1 kx_1 rfl) v1751 (((gI_sI_ne (by decide)).trans (hF1707.1 1 10 (by decide))).trans hv1751) ?_
          refine q_putI (Sh.int hI1749.1 kx_59 rfl) rfl ?_
          have hI1752 := HI.wI0 hI1749 kx_59 rfl (p := 59) (b := 10) (v := v1751) rfl
          have hF1753 := Fr.wI (p := 59) (b := 10) (v := v1751) hF1750 rfl
          refine r_aload_n e1721 ?_
          refine r_aload_n e1722 ?_
          obtain ⟨v1754, hv1754⟩ : ∃ v, gI g0 1 11 = v := ⟨_, rfl⟩
          refine q_getI (Sh.int hI1752.1 kx_1 rfl) v1754 (((gI_sI_ne (by decide)).trans ((gI_sI_ne (by decide)).trans (hF1707.1 1 11 (by decide)))).trans hv1754) ?_
          refine q_putI (Sh.int hI1752.1 kx_59 rfl) rfl ?_
          have hI1755 := HI.wI0 hI1752 kx_59 rfl (p := 59) (b := 11) (v := v1754) rfl
          have hF1756 := Fr.wI (p := 59) (b := 11) (v := v1754) hF1753 rfl
          refine r_aload_n e1721 ?_
          refine r_aload_n e1722 ?_
          obtain ⟨v1757, hv1757⟩ : ∃ v, gI g0 1 12 = v := ⟨_, rfl⟩
          have rv1757 := RgF.at hI0.2.1 (p := 1) (b := 12) rfl
          rw [hv1757] at rv1757
          dsimp only at rv1757
          refine q_getI (Sh.int hI1755.1 kx_1 rfl) v1757 (((gI_sI_ne (by decide)).trans ((gI_sI_ne (by decide)).trans ((gI_sI_ne (by decide)).trans (hF1707.1 1 12 (by decide))))).trans hv1757) ?_
          refine q_putI (Sh.int hI1755.1 kx_59 rfl) rfl ?_
          have hI1758 := HI.wI1 hI1755 kx_59 rfl (p := 59) (b := 12) (v := v1757) rfl (by dsimp only; omega)
          have hF1759 := Fr.wI (p := 59) (b := 12) (v := v1757) hF1756 rfl
          refine r_aload_n e1722 ?_
          refine q_getR (Sh.ref hI1758.1 kx_1 rfl) ?_
          refine r_iconst 0 rfl ?_
          refine r_aload_n e1721 ?_
          refine q_getR (Sh.ref hI1758.1 kx_59 rfl) ?_
          refine r_iconst 0 rfl ?_
          refine r_bipush 8 rfl ?_
          have zv1760 : (0 : Int32).toInt = 0 := rfl
          have zv1761 : (0 : Int32).toInt = 0 := rfl
          have zv1762 : (8 : Int32).toInt = 8 := rfl
          refine q_cpy rfl (Nat.le_of_ble_eq_true rfl) (Sh.arr hI1758.1 ka_14) (Sh.arr hI1758.1 ka_72) ⟨by omega, by omega, by omega, by omega, by omega⟩ ?_
          have hI1763 := HI.cpy0 hI1758 ka_14 ka_72 rfl rfl ((0 : Int32).toInt.toNat) ((0 : Int32).toInt.toNat) ((8 : Int32).toInt.toNat) (by omega) (by omega)
          have hF1764 := Fr.cpy (p0 := 14) (p1 := 72) hF1759 rfl ((0 : Int32).toInt.toNat) ((0 : Int32).toInt.toNat) ((8 : Int32).toInt.toNat)
          refine r_aload_n e1722 ?_
          refine q_getR (Sh.ref hI1763.1 kx_1 rfl) ?_
          refine r_iconst 0 rfl ?_
          refine r_aload_n e1721 ?_
          refine q_getR (Sh.ref hI1763.1 kx_59 rfl) ?_
          refine r_iconst 0 rfl ?_
          refine r_bipush 8 rfl ?_
          have zv1765 : (0 : Int32).toInt = 0 := rfl
          have zv1766 : (0 : Int32).toInt = 0 := rfl
          have zv1767 : (8 : Int32).toInt = 8 := rfl
          refine q_cpy rfl (Nat.le_of_ble_eq_true rfl) (Sh.arr hI1763.1 ka_15) (Sh.arr hI1763.1 ka_73) ⟨by omega, by omega, by omega, by omega, by omega⟩ ?_
          have hI1768 := HI.cpy0 hI1763 ka_15 ka_73 rfl rfl ((0 : Int32).toInt.toNat) ((0 : Int32).toInt.toNat) ((8 : Int32).toInt.toNat) (by omega) (by omega)
          have hF1769 := Fr.cpy (p0 := 15) (p1 := 73) hF1764 rfl ((0 : Int32).toInt.toNat) ((0 : Int32).toInt.toNat) ((8 : Int32).toInt.toNat)
          refine q_vret ?_
          refine At.enter rfl ?_
          refine r_aload_n rfl ?_
          refine q_getR (Sh.ref hI1768.1 kx_0 rfl) ?_
          refine r_iload_n rfl ?_
          refine r_iconst 1 rfl ?_
          refine q_bast (Sh.arr hI1768.1 ka_173) (a1.toInt) rfl (by omega) rfl ?_
          have hI1770 := HI.wA0 hI1768 ka_173 (p := 173) rfl rfl (a1.toInt) (1)
          have hF1771 := Fr.wA (p := 173) (j := a1.toInt) (v := 1) hF1769 rfl
          refine r_aload_n rfl ?_
          refine r_iconst 0 rfl ?_
          refine q_inlV 36 rfl [.ref 0, .int 0] [] (Nat.le_of_ble_eq_true rfl) rfl ?_
          refine Ev.mk rfl rfl ⟨Nat.le_of_ble_eq_true rfl, Or.inr (q_rc hI1770.1 kx_0 rfl)⟩ ?_
          show At _ none _ _ (0, [(0, .ref 0), (1, .int 0)], [], (_, _)) _
          refine At.enter rfl ?_
          refine r_aload_n rfl ?_
          refine r_iconst 0 rfl ?_
          refine q_putI (Sh.int hI1770.1 kx_0 rfl) rfl ?_
          have hI1772 := HI.wI0 hI1770 kx_0 rfl (p := 0) (b := 17) (v := 0) rfl
          have hF1773 := Fr.wI (p := 0) (b := 17) (v := 0) hF1771 rfl
          refine r_iload_n rfl ?_
          refine q_ireti ?_
          refine At.enter rfl ?_
          refine r_ireti ?_
          have zv1774 : (0 : Int32).toInt = 0 := rfl
          have e : a1.toInt = 0 := by omega
          exact ⟨_, rfl, hI1772, hF1773, _, rfl, by decide, ⟨⟨(fun _ => ⟨(HI.eqA hI1772 (p := 173) (j := 0) (((eA_c gA_sI).trans (eA_sA_eq hI1768.1 ka_173 (by omega) (by first | decide | omega) (by first | decide | omega))))).trans rfl, (by first | rfl | decide), (HI.eqI hI1772 (p := 59) (b := 0) ((((gI_sI_ne (by decide)).trans ((gI_sW).trans ((gI_sW).trans ((gI_sW).trans ((gI_sI_ne (by decide)).trans ((gI_sI_ne (by decide)).trans ((gI_sI_ne (by decide)).trans (gI_sI_ne (by decide))))))))).trans e1711))).trans (HI.eqI hI0 (p := 1) (b := 0) (hv1460)).symm, (HI.eqI hI1772 (p := 59) (b := 12) (((gI_sI_ne (by decide)).trans ((gI_sW).trans ((gI_sW).trans ((gI_sW).trans (gI_sI_eq hI1755.1 kx_59 rfl _))))))).trans (HI.eqI hI0 (p := 1) (b := 12) (hv1757)).symm, (HI.eqI hI1772 (p := 59) (b := 10) (((gI_sI_ne (by decide)).trans ((gI_sW).trans ((gI_sW).trans ((gI_sW).trans ((gI_sI_ne (by decide)).trans ((gI_sI_ne (by decide)).trans (gI_sI_eq hI1749.1 kx_59 rfl _))))))))).trans (HI.eqI hI0 (p := 1) (b := 10) (hv1751)).symm, (HI.eqI hI1772 (p := 59) (b := 11) (((gI_sI_ne (by decide)).trans ((gI_sW).trans ((gI_sW).trans ((gI_sW).trans ((gI_sI_ne (by decide)).trans (gI_sI_eq hI1752.1 kx_59 rfl _)))))))).trans (HI.eqI hI0 (p := 1) (b := 11) (hv1754)).symm⟩), (fun h => absurd e h), (fun h => absurd (e.symm.trans h) (by decide)), (fun _ => ⟨(HI.eqA hI1772 (p := 173) (j := 1) ((((eA_c gA_sI).trans ((eA_sA_ne hI1768.1 ka_173 (by first | decide | omega) (by first | decide | omega) (by first | decide | omega)).trans ((eA_c (gA_sW_ne (by decide))).trans ((eA_c (gA_sW_ne (by decide))).trans ((eA_c gA_sI).trans ((eA_c gA_sI).trans ((eA_c gA_sI).trans (eA_c gA_sI)))))))).trans e1720))).trans (HI.eqA hI0 (p := 173) (j := 1) (hv1497)).symm, (HI.eqI hI1772 (p := 116) (b := 0) ((((gI_sI_ne (by decide)).trans ((gI_sW).trans ((gI_sW).trans ((gI_sW).trans ((gI_sI_ne (by decide)).trans ((gI_sI_ne (by decide)).trans ((gI_sI_ne (by decide)).trans (gI_sI_ne (by decide))))))))).trans e1715))).trans (HI.eqI hI0 (p := 116) (b := 0) (hv1492)).symm, (HI.eqI hI1772 (p := 116) (b := 12) ((((gI_sI_ne (by decide)).trans ((gI_sW).trans ((gI_sW).trans ((gI_sW).trans ((gI_sI_ne (by decide)).trans ((gI_sI_ne (by decide)).trans ((gI_sI_ne (by decide)).trans (gI_sI_ne (by decide))))))))).trans e1718))).trans (HI.eqI hI0 (p := 116) (b := 12) (hv1495)).symm, (HI.eqI hI1772 (p := 116) (b := 10) ((((gI_sI_ne (by decide)).trans ((gI_sW).trans ((gI_sW).trans ((gI_sW).trans ((gI_sI_ne (by decide)).trans ((gI_sI_ne (by decide)).trans ((gI_sI_ne (by decide)).trans (gI_sI_ne (by decide))))))))).trans e1716))).trans (HI.eqI hI0 (p := 116) (b := 10) (hv1493)).symm, (HI.eqI hI1772 (p := 116) (b := 11) ((((gI_sI_ne (by decide)).trans ((gI_sW).trans ((gI_sW).trans ((gI_sW).trans ((gI_sI_ne (by decide)).trans ((gI_sI_ne (by decide)).trans ((gI_sI_ne (by decide)).trans (gI_sI_ne (by decide))))))))).trans e1717))).trans (HI.eqI hI0 (p := 116) (b := 11) (hv1494)).symm⟩), (fun h => False.elim (by omega))⟩, (by intro i i0 i1; exact (Decidable.em (a1.toInt = 0)).elim (fun k41_ => by refine Eq.trans ?_ (if_pos k41_).symm; refine (eA_ti (((gA_sI).trans ((gA_sA_ne (by decide)).trans ((gA_sW_ne (by decide)).trans ((gA_sW_ne (by decide)).trans ((gA_sI).trans ((gA_sI).trans ((gA_sI).trans (gA_sI)))))))))).trans ?_; refine ((q1725 (i) (by omega) (by omega))).trans ?_; (first | rfl | exact eA_ix (by omega) | omega)) (fun k41_ => by refine Eq.trans ?_ (if_neg k41_).symm; refine (eA_ti (((gA_sI).trans ((gA_sA_ne (by decide)).trans ((gA_sW_ne (by decide)).trans ((gA_sW_ne (by decide)).trans ((gA_sI).trans ((gA_sI).trans ((gA_sI).trans (gA_sI)))))))))).trans ?_; refine ((q1725 (i) (by omega) (by omega))).trans ?_; (first | rfl | exact eA_ix (by omega) | omega))), (by intro i i0 i1; exact (Decidable.em (a1.toInt = 0)).elim (fun k42_ => by refine Eq.trans ?_ (if_pos k42_).symm; refine (eA_ti (((gA_sI).trans ((gA_sA_ne (by decide)).trans ((gA_sW_ne (by decide)).trans ((gA_sW_ne (by decide)).trans ((gA_sI).trans ((gA_sI).trans ((gA_sI).trans (gA_sI)))))))))).trans ?_; refine ((q1726 (i) (by omega) (by omega))).trans ?_; (first | rfl | exact eA_ix (by omega) | omega)) (fun k42_ => by refine Eq.trans ?_ (if_neg k42_).symm; refine (eA_ti (((gA_sI).trans ((gA_sA_ne (by decide)).trans ((gA_sW_ne (by decide)).trans ((gA_sW_ne (by decide)).trans ((gA_sI).trans ((gA_sI).trans ((gA_sI).trans (gA_sI)))))))))).trans ?_; refine ((q1726 (i) (by omega) (by omega))).trans ?_; (first | rfl | exact eA_ix (by omega) | omega))), (by intro i i0 i1; exact (Decidable.em (a1.toInt = 0)).elim (fun k43_ => by refine Eq.trans ?_ (if_pos k43_).symm; refine (eA_ti (((gA_sI).trans ((gA_sA_ne (by decide)).trans ((gA_sW_ne (by decide)).trans ((gA_sW_ne (by decide)).trans ((gA_sI).trans ((gA_sI).trans ((gA_sI).trans (gA_sI)))))))))).trans ?_; refine ((q1727 (i) (by omega) (by omega))).trans ?_; (first | rfl | exact eA_ix (by omega) | omega)) (fun k43_ => by refine Eq.trans ?_ (if_neg k43_).symm; refine (eA_ti (((gA_sI).trans ((gA_sA_ne (by decide)).trans ((gA_sW_ne (by decide)).trans ((gA_sW_ne (by decide)).trans ((gA_sI).trans ((gA_sI).trans ((gA_sI).trans (gA_sI)))))))))).trans ?_; refine ((q1727 (i) (by omega) (by omega))).trans ?_; (first | rfl | exact eA_ix (by omega) | omega))), (by intro i i0 i1; exact (Decidable.em (a1.toInt = 0)).elim (fun k44_ => by refine Eq.trans ?_ (if_pos k44_).symm; refine (eA_tq (((gA_sI).trans ((gA_sA_ne (by decide)).trans ((gA_sW_ne (by decide)).trans ((gA_cpF hI1758.1 ka_14 ka_72 (by decide) (by decide) (by decide)).trans ((gA_sI).trans ((gA_sI).trans ((gA_sI).trans ((gA_sI).trans (hF1707.2.1 14 (by decide)))))))))))).trans ?_; (first | rfl | exact eA_ix (by omega) | omega)) (fun k44_ => by refine Eq.trans ?_ (if_neg k44_).symm; refine (eA_tq (((gA_sI).trans ((gA_sA_ne (by decide)).trans ((gA_sW_ne (by decide)).trans ((gA_cpF hI1758.1 ka_14 ka_72 (by decide) (by decide) (by decide)).trans ((gA_sI).trans ((gA_sI).trans ((gA_sI).trans ((gA_sI).trans (hF1707.2.1 14 (by decide)))))))))))).trans ?_; (first | rfl | exact eA_ix (by omega) | omega))), (by intro i i0 i1; exact (Decidable.em (a1.toInt = 0)).elim (fun k45_ => by refine Eq.trans ?_ (if_pos k45_).symm; refine (eA_tq (((gA_sI).trans ((gA_sA_ne (by decide)).trans ((gA_cpF hI1763.1 ka_15 ka_73 (by decide) (by decide) (by decide)).trans ((gA_sW_ne (by decide)).trans ((gA_sI).trans ((gA_sI).trans ((gA_sI).trans ((gA_sI).trans (hF1707.2.1 15 (by decide)))))))))))).trans ?_; (first | rfl | exact eA_ix (by omega) | omega)) (fun k45_ => by refine Eq.trans ?_ (if_neg k45_).symm; refine (eA_tq (((gA_sI).trans ((gA_sA_ne (by decide)).trans ((gA_cpF hI1763.1 ka_15 ka_73 (by decide) (by decide) (by decide)).trans ((gA_sW_ne (by decide)).trans ((gA_sI).trans ((gA_sI).trans ((gA_sI).trans ((gA_sI).trans (hF1707.2.1 15 (by decide)))))))))))).trans ?_; (first | rfl | exact eA_ix (by omega) | omega))), (by intro i i0 i1; exact (Decidable.em (a1.toInt = 1)).elim (fun k46_ => by refine Eq.trans ?_ (if_pos k46_).symm; refine (eA_ti (((gA_sI).trans ((gA_sA_ne (by decide)).trans ((gA_sW_ne (by decide)).trans ((gA_sW_ne (by decide)).trans ((gA_sI).trans ((gA_sI).trans ((gA_sI).trans (gA_sI)))))))))).trans ?_; refine ((q1730 (i) (by omega) (by omega))).trans ?_; (first | rfl | exact eA_ix (by omega) | omega)) (fun k46_ => by refine Eq.trans ?_ (if_neg k46_).symm; refine (eA_ti (((gA_sI).trans ((gA_sA_ne (by decide)).trans ((gA_sW_ne (by decide)).trans ((gA_sW_ne (by decide)).trans ((gA_sI).trans ((gA_sI).trans ((gA_sI).trans (gA_sI)))))))))).trans ?_; refine ((q1730 (i) (by omega) (by omega))).trans ?_; (first | rfl | exact eA_ix (by omega) | omega))), (by intro i i0 i1; exact (Decidable.em (a1.toInt = 1)).elim (fun k47_ => by refine Eq.trans ?_ (if_pos k47_).symm; refine (eA_ti (((gA_sI).trans ((gA_sA_ne (by decide)).trans ((gA_sW_ne (by decide)).trans ((gA_sW_ne (by decide)).trans ((gA_sI).trans ((gA_sI).trans ((gA_sI).trans (gA_sI)))))))))).trans ?_; refine ((q1731 (i) (by omega) (by omega))).trans ?_; (first | rfl | exact eA_ix (by omega) | omega)) (fun k47_ => by refine Eq.trans ?_ (if_neg k47_).symm; refine (eA_ti (((gA_sI).trans ((gA_sA_ne (by decide)).trans ((gA_sW_ne (by decide)).trans ((gA_sW_ne (by decide)).trans ((gA_sI).trans ((gA_sI).trans ((gA_sI).trans (gA_sI)))))))))).trans ?_; refine ((q1731 (i) (by omega) (by omega))).trans ?_; (first | rfl | exact eA_ix (by omega) | omega))), (by intro i i0 i1; exact (Decidable.em (a1.toInt = 1)).elim (fun k48_ => by refine Eq.trans ?_ (if_pos k48_).symm; refine (eA_ti (((gA_sI).trans ((gA_sA_ne (by decide)).trans ((gA_sW_ne (by decide)).trans ((gA_sW_ne (by decide)).trans ((gA_sI).trans ((gA_sI).trans ((gA_sI).trans (gA_sI)))))))))).trans ?_; refine ((q1732 (i) (by omega) (by omega))).trans ?_; (first | rfl | exact eA_ix (by omega) | omega)) (fun k48_ => by refine Eq.trans ?_ (if_neg k48_).symm; refine (eA_ti (((gA_sI).trans ((gA_sA_ne (by decide)).trans ((gA_sW_ne (by decide)).trans ((gA_sW_ne (by decide)).trans ((gA_sI).trans ((gA_sI).trans ((gA_sI).trans (gA_sI)))))))))).trans ?_; refine ((q1732 (i) (by omega) (by omega))).trans ?_; (first | rfl | exact eA_ix (by omega) | omega))), (by intro i i0 i1; exact (Decidable.em (a1.toInt = 1)).elim (fun k49_ => by refine Eq.trans ?_ (if_pos k49_).symm; refine (eA_ti (((gA_sI).trans ((gA_sA_ne (by decide)).trans ((gA_sW_ne (by decide)).trans ((gA_sW_ne (by decide)).trans ((gA_sI).trans ((gA_sI).trans ((gA_sI).trans (gA_sI)))))))))).trans ?_; refine ((q1733 (i) (by omega) (by omega))).trans ?_; (first | rfl | exact eA_ix (by omega) | omega)) (fun k49_ => by refine Eq.trans ?_ (if_neg k49_).symm; refine (eA_ti (((gA_sI).trans ((gA_sA_ne (by decide)).trans ((gA_sW_ne (by decide)).trans ((gA_sW_ne (by decide)).trans ((gA_sI).trans ((gA_sI).trans ((gA_sI).trans (gA_sI)))))))))).trans ?_; refine ((q1733 (i) (by omega) (by omega))).trans ?_; (first | rfl | exact eA_ix (by omega) | omega))), (by intro i i0 i1; exact (Decidable.em (a1.toInt = 1)).elim (fun k50_ => by refine Eq.trans ?_ (if_pos k50_).symm; refine (eA_ti (((gA_sI).trans ((gA_sA_ne (by decide)).trans ((gA_sW_ne (by decide)).trans ((gA_sW_ne (by decide)).trans ((gA_sI).trans ((gA_sI).trans ((gA_sI).trans (gA_sI)))))))))).trans ?_; refine ((q1734 (i) (by omega) (by omega))).trans ?_; (first | rfl | exact eA_ix (by omega) | omega)) (fun k50_ => by refine Eq.trans ?_ (if_neg k50_).symm; refine (eA_ti (((gA_sI).trans ((gA_sA_ne (by decide)).trans ((gA_sW_ne (by decide)).trans ((gA_sW_ne (by decide)).trans ((gA_sI).trans ((gA_sI).trans ((gA_sI).trans (gA_sI)))))))))).trans ?_; refine ((q1734 (i) (by omega) (by omega))).trans ?_; (first | rfl | exact eA_ix (by omega) | omega)))⟩⟩
        · have c1747_ : x1704.toInt < 6 := en_i_ge_f c1747
          refine At.enter rfl ?_
          refine r_aload_n e1721 ?_
          refine r_iload_n e1723 ?_
          refine r_callV 97 rfl [.ref 59, .int x1704] [] (Nat.le_of_ble_eq_true rfl) rfl (T_X0_lawAt_59 _ hI1706 x1704) ?_
          rintro _ _ ⟨g1775, rfl, hI1776, hF1777, v1778, rfl, hr1779⟩
          refine At.str ?_
          have hF1780 := Fr.tr hF1707 hF1777 rfl rfl
          refine At.enter rfl ?_
          refine r_aload_n e1722 ?_
          refine r_iload_n e1723 ?_
          refine r_callV 102 rfl [.ref 1, .int x1704] [.ref (v1778)] (Nat.le_of_ble_eq_true rfl) rfl (T_X0_lawAt_1 _ hI1776 x1704) ?_
          rintro _ _ ⟨g1781, rfl, hI1782, hF1783, v1784, rfl, hr1785⟩
          refine At.str ?_
          have hF1786 := Fr.tr hF1780 hF1783 rfl rfl
          refine At.enter rfl ?_
          refine r_callV 105 rfl [.ref (v1778), .ref (v1784)] [] (Nat.le_of_ble_eq_true rfl) rfl (T_X4_become_law _ hI1782 (v1778) hr1779 (v1784) hr1785) ?_
          rintro _ _ ⟨g1787, rfl, hI1788, hF1789, rfl⟩
          refine At.stn ?_
          have hF1792 := Fr.tr hF1786 hF1789 rfl rfl
          refine At.enter rfl ?_
          refine q_iinc e1723 (x1704.toInt + 1) rfl (by omega) (fun v1793 hv1793 => ?_)
          refine r_goto ?_
          exact ih1710 (6 - v1793.toInt) _ _ ⟨v1793, by first | rfl | omega, hI1788, hF1792, (((hF1789.1 59 0 (by decide)).trans ((hF1783.1 59 0 (by decide)).trans (hF1777.1 59 0 (by decide)))).trans e1711), (((hF1789.1 59 10 (by decide)).trans ((hF1783.1 59 10 (by decide)).trans (hF1777.1 59 10 (by decide)))).trans e1712), (((hF1789.1 59 11 (by decide)).trans ((hF1783.1 59 11 (by decide)).trans (hF1777.1 59 11 (by decide)))).trans e1713), (((hF1789.1 59 12 (by decide)).trans ((hF1783.1 59 12 (by decide)).trans (hF1777.1 59 12 (by decide)))).trans e1714), (((hF1789.1 116 0 (by decide)).trans ((hF1783.1 116 0 (by decide)).trans (hF1777.1 116 0 (by decide)))).trans e1715), (((hF1789.1 116 10 (by decide)).trans ((hF1783.1 116 10 (by decide)).trans (hF1777.1 116 10 (by decide)))).trans e1716), (((hF1789.1 116 11 (by decide)).trans ((hF1783.1 116 11 (by decide)).trans (hF1777.1 116 11 (by decide)))).trans e1717), (((hF1789.1 116 12 (by decide)).trans ((hF1783.1 116 12 (by decide)).trans (hF1777.1 116 12 (by decide)))).trans e1718), (((eA_c (hF1789.2.1 173 (by decide))).trans ((eA_c (hF1783.2.1 173 (by decide))).trans (eA_c (hF1777.2.1 173 (by decide))))).trans e1719), (((eA_c (hF1789.2.1 173 (by decide))).trans ((eA_c (hF1783.2.1 173 (by decide))).trans (eA_c (hF1777.2.1 173 (by decide))))).trans e1720), (w_p1 (by decide) (Or.inr rfl) e1721), (w_p1 (by decide) (Or.inr rfl) e1722), (w_e1 _ _ _), by omega, (by intro i i0 i1; refine (eA_ti (((hF1789.2.1 60 (by decide)).trans ((hF1783.2.1 60 (by decide)).trans (hF1777.2.1 60 (by decide)))))).trans ?_; refine ((q1725 (i) (by omega) (by omega))).trans ?_; (first | rfl | exact eA_ix (by omega) | omega)), (by intro i i0 i1; refine (eA_ti (((hF1789.2.1 61 (by decide)).trans ((hF1783.2.1 61 (by decide)).trans (hF1777.2.1 61 (by decide)))))).trans ?_; refine ((q1726 (i) (by omega) (by omega))).trans ?_; (first | rfl | exact eA_ix (by omega) | omega)), (by intro i i0 i1; refine (eA_ti (((hF1789.2.1 62 (by decide)).trans ((hF1783.2.1 62 (by decide)).trans (hF1777.2.1 62 (by decide)))))).trans ?_; refine ((q1727 (i) (by omega) (by omega))).trans ?_; (first | rfl | exact eA_ix (by omega) | omega)), (by intro i i0 i1; refine (eA_ti (((hF1789.2.1 72 (by decide)).trans ((hF1783.2.1 72 (by decide)).trans (hF1777.2.1 72 (by decide)))))).trans ?_; refine ((q1728 (i) (by omega) (by omega))).trans ?_; (first | rfl | exact eA_ix (by omega) | omega)), (by intro i i0 i1; refine (eA_ti (((hF1789.2.1 73 (by decide)).trans ((hF1783.2.1 73 (by decide)).trans (hF1777.2.1 73 (by decide)))))).trans ?_; refine ((q1729 (i) (by omega) (by omega))).trans ?_; (first | rfl | exact eA_ix (by omega) | omega)), (by intro i i0 i1; refine (eA_ti (((hF1789.2.1 117 (by decide)).trans ((hF1783.2.1 117 (by decide)).trans (hF1777.2.1 117 (by decide)))))).trans ?_; refine ((q1730 (i) (by omega) (by omega))).trans ?_; (first | rfl | exact eA_ix (by omega) | omega)), (by intro i i0 i1; refine (eA_ti (((hF1789.2.1 118 (by decide)).trans ((hF1783.2.1 118 (by decide)).trans (hF1777.2.1 118 (by decide)))))).trans ?_; refine ((q1731 (i) (by omega) (by omega))).trans ?_; (first | rfl | exact eA_ix (by omega) | omega)), (by intro i i0 i1; refine (eA_ti (((hF1789.2.1 119 (by decide)).trans ((hF1783.2.1 119 (by decide)).trans (hF1777.2.1 119 (by decide)))))).trans ?_; refine ((q1732 (i) (by omega) (by omega))).trans ?_; (first | rfl | exact eA_ix (by omega) | omega)), (by intro i i0 i1; refine (eA_ti (((hF1789.2.1 129 (by decide)).trans ((hF1783.2.1 129 (by decide)).trans (hF1777.2.1 129 (by decide)))))).trans ?_; refine ((q1733 (i) (by omega) (by omega))).trans ?_; (first | rfl | exact eA_ix (by omega) | omega)), (by intro i i0 i1; refine (eA_ti (((hF1789.2.1 130 (by decide)).trans ((hF1783.2.1 130 (by decide)).trans (hF1777.2.1 130 (by decide)))))).trans ?_; refine ((q1734 (i) (by omega) (by omega))).trans ?_; (first | rfl | exact eA_ix (by omega) | omega))⟩ ⟨by omega, by omega⟩
      have c1459_1 : a1.toInt = 1 := by omega
      refine q_aald (Sh.rar hI0.1 ka_58) (by decide) 1 (by omega) (by decide) (some 116) rfl ?_
      refine r_goto ?_
      refine At.enter rfl ?_
      refine q_aret ?_
      refine At.enter rfl ?_
      refine r_astore_n ([(2, .ref 116), (0, .ref 0), (1, .int a1)]) rfl ?_
      refine r_aload_n rfl ?_
      refine r_nnr ?_
      refine At.enter rfl ?_
      refine r_aload_n rfl ?_
      refine r_aload_n rfl ?_
      refine q_getR (Sh.ref hI0.1 kx_0 rfl) ?_
      refine q_inlV 24 rfl [.ref 116, .ref 1] [] (Nat.le_of_ble_eq_true rfl) rfl ?_
      refine Ev.mk rfl rfl ⟨Nat.le_of_ble_eq_true rfl, Or.inr (q_rc hI0.1 kx_116 rfl)⟩ ?_
      show At _ none _ _ (0, [(0, .ref 116), (1, .ref 1)], [], (_, _)) _
      refine At.enter rfl ?_
      refine r_aload_n rfl ?_
      refine r_aload_n rfl ?_
      obtain ⟨v1794, hv1794⟩ : ∃ v, gI g0 1 0 = v := ⟨_, rfl⟩
      have rv1794 := RgF.at hI0.2.1 (p := 1) (b := 0) rfl
      rw [hv1794] at rv1794
      dsimp only at rv1794
      refine q_getI (Sh.int hI0.1 kx_1 rfl) v1794 hv1794 ?_
      refine q_putI (Sh.int hI0.1 kx_116 rfl) rfl ?_
      have hI1795 := HI.wI1 hI0 kx_116 rfl (p := 116) (b := 0) (v := v1794) rfl (by dsimp only; omega)
      have hF1796 := Fr.wI (p := 116) (b := 0) (v := v1794) hF0 rfl
      refine r_aload_n rfl ?_
      refine q_getR (Sh.ref hI1795.1 kx_1 rfl) ?_
      refine r_iconst 0 rfl ?_
      refine r_aload_n rfl ?_
      refine q_getR (Sh.ref hI1795.1 kx_116 rfl) ?_
      refine r_iconst 0 rfl ?_
      refine r_bipush 12 rfl ?_
      have zv1797 : (0 : Int32).toInt = 0 := rfl
      have zv1798 : (0 : Int32).toInt = 0 := rfl
      have zv1799 : (12 : Int32).toInt = 12 := rfl
      refine q_cpy rfl (Nat.le_of_ble_eq_true rfl) (Sh.arr hI1795.1 ka_2) (Sh.arr hI1795.1 ka_117) ⟨by omega, by omega, by omega, by omega, by omega⟩ ?_
      have hI1800 := HI.cpy0 hI1795 ka_2 ka_117 rfl rfl ((0 : Int32).toInt.toNat) ((0 : Int32).toInt.toNat) ((12 : Int32).toInt.toNat) (by omega) (by omega)
      have hF1801 := Fr.cpy (p0 := 2) (p1 := 117) hF1796 rfl ((0 : Int32).toInt.toNat) ((0 : Int32).toInt.toNat) ((12 : Int32).toInt.toNat)
      refine r_aload_n rfl ?_
      refine q_getR (Sh.ref hI1800.1 kx_1 rfl) ?_
      refine r_iconst 0 rfl ?_
      refine r_aload_n rfl ?_
      refine q_getR (Sh.ref hI1800.1 kx_116 rfl) ?_
      refine r_iconst 0 rfl ?_
      refine r_bipush 12 rfl ?_
      have zv1802 : (0 : Int32).toInt = 0 := rfl
      have zv1803 : (0 : Int32).toInt = 0 := rfl
      have zv1804 : (12 : Int32).toInt = 12 := rfl
      refine q_cpy rfl (Nat.le_of_ble_eq_true rfl) (Sh.arr hI1800.1 ka_3) (Sh.arr hI1800.1 ka_118) ⟨by omega, by omega, by omega, by omega, by omega⟩ ?_
      have hI1805 := HI.cpy0 hI1800 ka_3 ka_118 rfl rfl ((0 : Int32).toInt.toNat) ((0 : Int32).toInt.toNat) ((12 : Int32).toInt.toNat) (by omega) (by omega)
      have hF1806 := Fr.cpy (p0 := 3) (p1 := 118) hF1801 rfl ((0 : Int32).toInt.toNat) ((0 : Int32).toInt.toNat) ((12 : Int32).toInt.toNat)
      refine r_aload_n rfl ?_
      refine q_getR (Sh.ref hI1805.1 kx_1 rfl) ?_
      refine r_iconst 0 rfl ?_
      refine r_aload_n rfl ?_
      refine q_getR (Sh.ref hI1805.1 kx_116 rfl) ?_
      refine r_iconst 0 rfl ?_
      refine r_bipush 12 rfl ?_
      have zv1807 : (0 : Int32).toInt = 0 := rfl
      have zv1808 : (0 : Int32).toInt = 0 := rfl
      have zv1809 : (12 : Int32).toInt = 12 := rfl
      refine q_cpy rfl (Nat.le_of_ble_eq_true rfl) (Sh.arr hI1805.1 ka_4) (Sh.arr hI1805.1 ka_119) ⟨by omega, by omega, by omega, by omega, by omega⟩ ?_
      have hI1810 := HI.cpy0 hI1805 ka_4 ka_119 rfl rfl ((0 : Int32).toInt.toNat) ((0 : Int32).toInt.toNat) ((12 : Int32).toInt.toNat) (by omega) (by omega)
      have hF1811 := Fr.cpy (p0 := 4) (p1 := 119) hF1806 rfl ((0 : Int32).toInt.toNat) ((0 : Int32).toInt.toNat) ((12 : Int32).toInt.toNat)
      refine r_aload_n rfl ?_
      refine r_aload_n rfl ?_
      obtain ⟨v1812, hv1812⟩ : ∃ v, gI g0 1 4 = v := ⟨_, rfl⟩
      have rv1812 := RgF.at hI0.2.1 (p := 1) (b := 4) rfl
      rw [hv1812] at rv1812
      dsimp only at rv1812
      refine q_getI (Sh.int hI1810.1 kx_1 rfl) v1812 (((gI_sW).trans ((gI_sW).trans ((gI_sW).trans (gI_sI_ne (by decide))))).trans hv1812) ?_
      refine q_putI (Sh.int hI1810.1 kx_116 rfl) rfl ?_
      have hI1813 := HI.wI1 hI1810 kx_116 rfl (p := 116) (b := 4) (v := v1812) rfl (by dsimp only; omega)
      have hF1814 := Fr.wI (p := 116) (b := 4) (v := v1812) hF1811 rfl
      refine r_aload_n rfl ?_
      refine q_getR (Sh.ref hI1813.1 kx_1 rfl) ?_
      refine r_iconst 0 rfl ?_
      refine r_aload_n rfl ?_
      refine q_getR (Sh.ref hI1813.1 kx_116 rfl) ?_
      refine r_iconst 0 rfl ?_
      refine r_bipush 48 rfl ?_
      have zv1815 : (0 : Int32).toInt = 0 := rfl
      have zv1816 : (0 : Int32).toInt = 0 := rfl
      have zv1817 : (48 : Int32).toInt = 48 := rfl
      refine q_cpy rfl (Nat.le_of_ble_eq_true rfl) (Sh.arr hI1813.1 ka_5) (Sh.arr hI1813.1 ka_120) ⟨by omega, by omega, by omega, by omega, by omega⟩ ?_
      have hI1818 := HI.cpy0 hI1813 ka_5 ka_120 rfl rfl ((0 : Int32).toInt.toNat) ((0 : Int32).toInt.toNat) ((48 : Int32).toInt.toNat) (by omega) (by omega)
      have hF1819 := Fr.cpy (p0 := 5) (p1 := 120) hF1814 rfl ((0 : Int32).toInt.toNat) ((0 : Int32).toInt.toNat) ((48 : Int32).toInt.toNat)
      refine r_aload_n rfl ?_
      refine r_aload_n rfl ?_
      obtain ⟨v1820, hv1820⟩ : ∃ v, gI g0 1 6 = v := ⟨_, rfl⟩
      have rv1820 := RgF.at hI0.2.1 (p := 1) (b := 6) rfl
      rw [hv1820] at rv1820
      dsimp only at rv1820
      refine q_getI (Sh.int hI1818.1 kx_1 rfl) v1820 (((gI_sW).trans ((gI_sI_ne (by decide)).trans ((gI_sW).trans ((gI_sW).trans ((gI_sW).trans (gI_sI_ne (by decide))))))).trans hv1820) ?_
      refine q_putI (Sh.int hI1818.1 kx_116 rfl) rfl ?_
      have hI1821 := HI.wI1 hI1818 kx_116 rfl (p := 116) (b := 6) (v := v1820) rfl (by dsimp only; omega)
      have hF1822 := Fr.wI (p := 116) (b := 6) (v := v1820) hF1819 rfl
      refine r_iconst 0 rfl ?_
      refine r_istore_n ([(2, .int 0), (0, .ref 116), (1, .ref 1)]) rfl ?_
      refine Ar.fall 86 rfl ?_
      obtain ⟨v1823, hv1823⟩ : ∃ v, gI g0 59 0 = v := ⟨_, rfl⟩
      have rv1823 := RgF.at hI0.2.1 (p := 59) (b := 0) rfl
      rw [hv1823] at rv1823
      dsimp only at rv1823
      have tv1823 := congrArg Int32.toInt hv1823
      obtain ⟨v1824, hv1824⟩ : ∃ v, gI g0 59 10 = v := ⟨_, rfl⟩
      have tv1824 := congrArg Int32.toInt hv1824
      obtain ⟨v1825, hv1825⟩ : ∃ v, gI g0 59 11 = v := ⟨_, rfl⟩
      have tv1825 := congrArg Int32.toInt hv1825
      obtain ⟨v1826, hv1826⟩ : ∃ v, gI g0 59 12 = v := ⟨_, rfl⟩
      have rv1826 := RgF.at hI0.2.1 (p := 59) (b := 12) rfl
      rw [hv1826] at rv1826
      dsimp only at rv1826
      have tv1826 := congrArg Int32.toInt hv1826
      obtain ⟨v1827, hv1827⟩ : ∃ v, gI g0 116 10 = v := ⟨_, rfl⟩
      have tv1827 := congrArg Int32.toInt hv1827
      obtain ⟨v1828, hv1828⟩ : ∃ v, gI g0 116 11 = v := ⟨_, rfl⟩
      have tv1828 := congrArg Int32.toInt hv1828
      obtain ⟨v1829, hv1829⟩ : ∃ v, gI g0 116 12 = v := ⟨_, rfl⟩
      have rv1829 := RgF.at hI0.2.1 (p := 116) (b := 12) rfl
      rw [hv1829] at rv1829
      dsimp only at rv1829
      have tv1829 := congrArg Int32.toInt hv1829
      obtain ⟨v1830, hv1830⟩ : ∃ v, eA g0 173 0 = v := ⟨_, rfl⟩
      have tv1830 := congrArg Int32.toInt hv1830
      obtain ⟨v1831, hv1831⟩ : ∃ v, eA g0 173 1 = v := ⟨_, rfl⟩
      have tv1831 := congrArg Int32.toInt hv1831
      have z_2069 : (0 : Int32).toInt = 0 := rfl
      refine w_loopI (fun n_ l_ g_ => ∃ x2038 : Int32, n_ = 6 - x2038.toInt ∧ HI g_ ∧ Fr F_X10_image_0 A_X10_image_0 g0 g_ ∧ gI g_ 59 0 = v1823 ∧ gI g_ 59 10 = v1824 ∧ gI g_ 59 11 = v1825 ∧ gI g_ 59 12 = v1826 ∧ gI g_ 116 0 = v1794 ∧ gI g_ 116 10 = v1827 ∧ gI g_ 116 11 = v1828 ∧ gI g_ 116 12 = v1829 ∧ eA g_ 173 0 = v1830 ∧ eA g_ 173 1 = v1831 ∧ en_get 0 l_ = some (.ref 116) ∧ en_get 1 l_ = some (.ref 1) ∧ en_get 2 l_ = some (.int x2038) ∧ (0 ≤ x2038.toInt ∧ x2038.toInt ≤ 6) ∧ (∀ i : Int, 0 ≤ i → i < 12 → (eA g_ 60 (i)).toInt = (eA g0 60 (i)).toInt) ∧ (∀ i : Int, 0 ≤ i → i < 12 → (eA g_ 61 (i)).toInt = (eA g0 61 (i)).toInt) ∧ (∀ i : Int, 0 ≤ i → i < 12 → (eA g_ 62 (i)).toInt = (eA g0 62 (i)).toInt) ∧ (∀ i : Int, 0 ≤ i → i < 8 → (eA g_ 72 (i)).toInt = (eA g0 72 (i)).toInt) ∧ (∀ i : Int, 0 ≤ i → i < 8 → (eA g_ 73 (i)).toInt = (eA g0 73 (i)).toInt) ∧ (∀ i : Int, 0 ≤ i → i < 12 → (eA g_ 117 (i)).toInt = (eA g0 2 (i)).toInt) ∧ (∀ i : Int, 0 ≤ i → i < 12 → (eA g_ 118 (i)).toInt = (eA g0 3 (i)).toInt) ∧ (∀ i : Int, 0 ≤ i → i < 12 → (eA g_ 119 (i)).toInt = (eA g0 4 (i)).toInt) ∧ (∀ i : Int, 0 ≤ i → i < 8 → (eA g_ 129 (i)).toInt = (eA g0 129 (i)).toInt) ∧ (∀ i : Int, 0 ≤ i → i < 8 → (eA g_ 130 (i)).toInt = (eA g0 130 (i)).toInt)) ?_ (6 - 0) ⟨0, by first | rfl | omega, hI1821, hF1822, (((gI_sI_ne (by decide)).trans ((gI_sW).trans ((gI_sI_ne (by decide)).trans ((gI_sW).trans ((gI_sW).trans ((gI_sW).trans (gI_sI_ne (by decide)))))))).trans hv1823), (((gI_sI_ne (by decide)).trans ((gI_sW).trans ((gI_sI_ne (by decide)).trans ((gI_sW).trans ((gI_sW).trans ((gI_sW).trans (gI_sI_ne (by decide)))))))).trans hv1824), (((gI_sI_ne (by decide)).trans ((gI_sW).trans ((gI_sI_ne (by decide)).trans ((gI_sW).trans ((gI_sW).trans ((gI_sW).trans (gI_sI_ne (by decide)))))))).trans hv1825), (((gI_sI_ne (by decide)).trans ((gI_sW).trans ((gI_sI_ne (by decide)).trans ((gI_sW).trans ((gI_sW).trans ((gI_sW).trans (gI_sI_ne (by decide)))))))).trans hv1826), ((gI_sI_ne (by decide)).trans ((gI_sW).trans ((gI_sI_ne (by decide)).trans ((gI_sW).trans ((gI_sW).trans ((gI_sW).trans (gI_sI_eq hI0.1 kx_116 rfl _))))))), (((gI_sI_ne (by decide)).trans ((gI_sW).trans ((gI_sI_ne (by decide)).trans ((gI_sW).trans ((gI_sW).trans ((gI_sW).trans (gI_sI_ne (by decide)))))))).trans hv1827), (((gI_sI_ne (by decide)).trans ((gI_sW).trans ((gI_sI_ne (by decide)).trans ((gI_sW).trans ((gI_sW).trans ((gI_sW).trans (gI_sI_ne (by decide)))))))).trans hv1828), (((gI_sI_ne (by decide)).trans ((gI_sW).trans ((gI_sI_ne (by decide)).trans ((gI_sW).trans ((gI_sW).trans ((gI_sW).trans (gI_sI_ne (by decide)))))))).trans hv1829), (((eA_c gA_sI).trans ((eA_c (gA_sW_ne (by decide))).trans ((eA_c gA_sI).trans ((eA_c (gA_sW_ne (by decide))).trans ((eA_c (gA_sW_ne (by decide))).trans ((eA_c (gA_sW_ne (by decide))).trans (eA_c gA_sI))))))).trans hv1830), (((eA_c gA_sI).trans ((eA_c (gA_sW_ne (by decide))).trans ((eA_c gA_sI).trans ((eA_c (gA_sW_ne (by decide))).trans ((eA_c (gA_sW_ne (by decide))).trans ((eA_c (gA_sW_ne (by decide))).trans (eA_c gA_sI))))))).trans hv1831), rfl, rfl, rfl, by decide, (by intro i i0 i1; refine (eA_ti (((gA_sI).trans ((gA_sW_ne (by decide)).trans ((gA_sI).trans ((gA_sW_ne (by decide)).trans ((gA_sW_ne (by decide)).trans ((gA_sW_ne (by decide)).trans (gA_sI))))))))).trans ?_; (first | rfl | exact eA_ix (by omega) | omega)), (by intro i i0 i1; refine (eA_ti (((gA_sI).trans ((gA_sW_ne (by decide)).trans ((gA_sI).trans ((gA_sW_ne (by decide)).trans ((gA_sW_ne (by decide)).trans ((gA_sW_ne (by decide)).trans (gA_sI))))))))).trans ?_; (first | rfl | exact eA_ix (by omega) | omega)), (by intro i i0 i1; refine (eA_ti (((gA_sI).trans ((gA_sW_ne (by decide)).trans ((gA_sI).trans ((gA_sW_ne (by decide)).trans ((gA_sW_ne (by decide)).trans ((gA_sW_ne (by decide)).trans (gA_sI))))))))).trans ?_; (first | rfl | exact eA_ix (by omega) | omega)), (by intro i i0 i1; refine (eA_ti (((gA_sI).trans ((gA_sW_ne (by decide)).trans ((gA_sI).trans ((gA_sW_ne (by decide)).trans ((gA_sW_ne (by decide)).trans ((gA_sW_ne (by decide)).trans (gA_sI))))))))).trans ?_; (first | rfl | exact eA_ix (by omega) | omega)), (by intro i i0 i1; refine (eA_ti (((gA_sI).trans ((gA_sW_ne (by decide)).trans ((gA_sI).trans ((gA_sW_ne (by decide)).trans ((gA_sW_ne (by decide)).trans ((gA_sW_ne (by decide)).trans (gA_sI))))))))).trans ?_; (first | rfl | exact eA_ix (by omega) | omega)), (by intro i i0 i1; refine (eA_tq (((gA_sI).trans ((gA_sW_ne (by decide)).trans ((gA_sI).trans ((gA_sW_ne (by decide)).trans ((gA_sW_ne (by decide)).trans ((gA_cpF hI1795.1 ka_2 ka_117 (by decide) (by decide) (by decide)).trans (gA_sI))))))))).trans ?_; (first | rfl | exact eA_ix (by omega) | omega)), (by intro i i0 i1; refine (eA_tq (((gA_sI).trans ((gA_sW_ne (by decide)).trans ((gA_sI).trans ((gA_sW_ne (by decide)).trans ((gA_cpF hI1800.1 ka_3 ka_118 (by decide) (by decide) (by decide)).trans ((gA_sW_ne (by decide)).trans (gA_sI))))))))).trans ?_; (first | rfl | exact eA_ix (by omega) | omega)), (by intro i i0 i1; refine (eA_tq (((gA_sI).trans ((gA_sW_ne (by decide)).trans ((gA_sI).trans ((gA_cpF hI1805.1 ka_4 ka_119 (by decide) (by decide) (by decide)).trans ((gA_sW_ne (by decide)).trans ((gA_sW_ne (by decide)).trans (gA_sI))))))))).trans ?_; (first | rfl | exact eA_ix (by omega) | omega)), (by intro i i0 i1; refine (eA_ti (((gA_sI).trans ((gA_sW_ne (by decide)).trans ((gA_sI).trans ((gA_sW_ne (by decide)).trans ((gA_sW_ne (by decide)).trans ((gA_sW_ne (by decide)).trans (gA_sI))))))))).trans ?_; (first | rfl | exact eA_ix (by omega) | omega)), (by intro i i0 i1; refine (eA_ti (((gA_sI).trans ((gA_sW_ne (by decide)).trans ((gA_sI).trans ((gA_sW_ne (by decide)).trans ((gA_sW_ne (by decide)).trans ((gA_sW_ne (by decide)).trans (gA_sI))))))))).trans ?_; (first | rfl | exact eA_ix (by omega) | omega))⟩
      rintro n2043 l2042 g2039 ⟨x2038, hm2070, hI2040, hF2041, e2045, e2046, e2047, e2048, e2049, e2050, e2051, e2052, e2053, e2054, e2055, e2056, e2057, r2058, q2059, q2060, q2061, q2062, q2063, q2064, q2065, q2066, q2067, q2068⟩ ih2044
      have tv2071 := congrArg Int32.toInt e2053
      have tv2072 := congrArg Int32.toInt e2054
      have tv2073 := congrArg Int32.toInt e2045
      have tv2074 := congrArg Int32.toInt e2046
      have tv2075 := congrArg Int32.toInt e2047
      have tv2076 := congrArg Int32.toInt e2048
      have tv2077 := congrArg Int32.toInt e2049
      have tv2078 := congrArg Int32.toInt e2050
      have tv2079 := congrArg Int32.toInt e2051
      have tv2080 := congrArg Int32.toInt e2052
      refine At.enter rfl ?_
      refine r_iload_n e2057 ?_
      refine r_bipush 6 rfl ?_
      refine r_ics 92 rfl (fun c2081 => ?_) (fun c2081 => ?_)
      · have c2081_ : x2038.toInt ≥ 6 := en_i_ge_t c2081
        refine At.enter rfl ?_
        refine r_aload_n e2055 ?_
        refine r_aload_n e2056 ?_
        obtain ⟨v2082, hv2082⟩ : ∃ v, gI g0 1 9 = v := ⟨_, rfl⟩
        refine q_getI (Sh.int hI2040.1 kx_1 rfl) v2082 ((hF2041.1 1 9 (by decide)).trans hv2082) ?_
        refine q_putI (Sh.int hI2040.1 kx_116 rfl) rfl ?_
        have hI2083 := HI.wI0 hI2040 kx_116 rfl (p := 116) (b := 9) (v := v2082) rfl
        have hF2084 := Fr.wI (p := 116) (b := 9) (v := v2082) hF2041 rfl
        refine r_aload_n e2055 ?_
        refine r_aload_n e2056 ?_
        obtain ⟨v2085, hv2085⟩ : ∃ v, gI g0 1 10 = v := ⟨_, rfl⟩
        refine q_getI (Sh.int hI2083.1 kx_1 rfl) v2085 (((gI_sI_ne (by decide)).trans (hF2041.1 1 10 (by decide))).trans hv2085) ?_
        refine q_putI (Sh.int hI2083.1 kx_116 rfl) rfl ?_
        have hI2086 := HI.wI0 hI2083 kx_116 rfl (p := 116) (b := 10) (v := v2085) rfl
        have hF2087 := Fr.wI (p := 116) (b := 10) (v := v2085) hF2084 rfl
        refine r_aload_n e2055 ?_
        refine r_aload_n e2056 ?_
        obtain ⟨v2088, hv2088⟩ : ∃ v, gI g0 1 11 = v := ⟨_, rfl⟩
        refine q_getI (Sh.int hI2086.1 kx_1 rfl) v2088 (((gI_sI_ne (by decide)).trans ((gI_sI_ne (by decide)).trans (hF2041.1 1 11 (by decide)))).trans hv2088) ?_
        refine q_putI (Sh.int hI2086.1 kx_116 rfl) rfl ?_
        have hI2089 := HI.wI0 hI2086 kx_116 rfl (p := 116) (b := 11) (v := v2088) rfl
        have hF2090 := Fr.wI (p := 116) (b := 11) (v := v2088) hF2087 rfl
        refine r_aload_n e2055 ?_
        refine r_aload_n e2056 ?_
        obtain ⟨v2091, hv2091⟩ : ∃ v, gI g0 1 12 = v := ⟨_, rfl⟩
        have rv2091 := RgF.at hI0.2.1 (p := 1) (b := 12) rfl
        rw [hv2091] at rv2091
        dsimp only at rv2091
        refine q_getI (Sh.int hI2089.1 kx_1 rfl) v2091 (((gI_sI_ne (by decide)).trans ((gI_sI_ne (by decide)).trans ((gI_sI_ne (by decide)).trans (hF2041.1 1 12 (by decide))))).trans hv2091) ?_
        refine q_putI (Sh.int hI2089.1 kx_116 rfl) rfl ?_
        have hI2092 := HI.wI1 hI2089 kx_116 rfl (p := 116) (b := 12) (v := v2091) rfl (by dsimp only; omega)
        have hF2093 := Fr.wI (p := 116) (b := 12) (v := v2091) hF2090 rfl
        refine r_aload_n e2056 ?_
        refine q_getR (Sh.ref hI2092.1 kx_1 rfl) ?_
        refine r_iconst 0 rfl ?_
        refine r_aload_n e2055 ?_
        refine q_getR (Sh.ref hI2092.1 kx_116 rfl) ?_
        refine r_iconst 0 rfl ?_
        refine r_bipush 8 rfl ?_
        have zv2094 : (0 : Int32).toInt = 0 := rfl
        have zv2095 : (0 : Int32).toInt = 0 := rfl
        have zv2096 : (8 : Int32).toInt = 8 := rfl
        refine q_cpy rfl (Nat.le_of_ble_eq_true rfl) (Sh.arr hI2092.1 ka_14) (Sh.arr hI2092.1 ka_129) ⟨by omega, by omega, by omega, by omega, by omega⟩ ?_
        have hI2097 := HI.cpy0 hI2092 ka_14 ka_129 rfl rfl ((0 : Int32).toInt.toNat) ((0 : Int32).toInt.toNat) ((8 : Int32).toInt.toNat) (by omega) (by omega)
        have hF2098 := Fr.cpy (p0 := 14) (p1 := 129) hF2093 rfl ((0 : Int32).toInt.toNat) ((0 : Int32).toInt.toNat) ((8 : Int32).toInt.toNat)
        refine r_aload_n e2056 ?_
        refine q_getR (Sh.ref hI2097.1 kx_1 rfl) ?_
        refine r_iconst 0 rfl ?_
        refine r_aload_n e2055 ?_
        refine q_getR (Sh.ref hI2097.1 kx_116 rfl) ?_
        refine r_iconst 0 rfl ?_
        refine r_bipush 8 rfl ?_
        have zv2099 : (0 : Int32).toInt = 0 := rfl
        have zv2100 : (0 : Int32).toInt = 0 := rfl
        have zv2101 : (8 : Int32).toInt = 8 := rfl
        refine q_cpy rfl (Nat.le_of_ble_eq_true rfl) (Sh.arr hI2097.1 ka_15) (Sh.arr hI2097.1 ka_130) ⟨by omega, by omega, by omega, by omega, by omega⟩ ?_
        have hI2102 := HI.cpy0 hI2097 ka_15 ka_130 rfl rfl ((0 : Int32).toInt.toNat) ((0 : Int32).toInt.toNat) ((8 : Int32).toInt.toNat) (by omega) (by omega)
        have hF2103 := Fr.cpy (p0 := 15) (p1 := 130) hF2098 rfl ((0 : Int32).toInt.toNat) ((0 : Int32).toInt.toNat) ((8 : Int32).toInt.toNat)
        refine q_vret ?_
        refine At.enter rfl ?_
        refine r_aload_n rfl ?_
        refine q_getR (Sh.ref hI2102.1 kx_0 rfl) ?_
        refine r_iload_n rfl ?_
        refine r_iconst 1 rfl ?_
        refine q_bast (Sh.arr hI2102.1 ka_173) (a1.toInt) rfl (by omega) rfl ?_
        have hI2104 := HI.wA0 hI2102 ka_173 (p := 173) rfl rfl (a1.toInt) (1)
        have hF2105 := Fr.wA (p := 173) (j := a1.toInt) (v := 1) hF2103 rfl
        refine r_aload_n rfl ?_
        refine r_iconst 0 rfl ?_
        refine q_inlV 36 rfl [.ref 0, .int 0] [] (Nat.le_of_ble_eq_true rfl) rfl ?_
        refine Ev.mk rfl rfl ⟨Nat.le_of_ble_eq_true rfl, Or.inr (q_rc hI2104.1 kx_0 rfl)⟩ ?_
        show At _ none _ _ (0, [(0, .ref 0), (1, .int 0)], [], (_, _)) _
        refine At.enter rfl ?_
        refine r_aload_n rfl ?_
        refine r_iconst 0 rfl ?_
        refine q_putI (Sh.int hI2104.1 kx_0 rfl) rfl ?_
        have hI2106 := HI.wI0 hI2104 kx_0 rfl (p := 0) (b := 17) (v := 0) rfl
        have hF2107 := Fr.wI (p := 0) (b := 17) (v := 0) hF2105 rfl
        refine r_iload_n rfl ?_
        refine q_ireti ?_
        refine At.enter rfl ?_
        refine r_ireti ?_
        have zv2108 : (0 : Int32).toInt = 0 := rfl
        have e : a1.toInt = 1 := by omega
        exact ⟨_, rfl, hI2106, hF2107, _, rfl, by decide, ⟨⟨(fun h => absurd (e.symm.trans h) (by decide)), (fun _ => ⟨(HI.eqA hI2106 (p := 173) (j := 0) ((((eA_c gA_sI).trans ((eA_sA_ne hI2102.1 ka_173 (by first | decide | omega) (by first | decide | omega) (by first | decide | omega)).trans ((eA_c (gA_sW_ne (by decide))).trans ((eA_c (gA_sW_ne (by decide))).trans ((eA_c gA_sI).trans ((eA_c gA_sI).trans ((eA_c gA_sI).trans (eA_c gA_sI)))))))).trans e2053))).trans (HI.eqA hI0 (p := 173) (j := 0) (hv1830)).symm, (HI.eqI hI2106 (p := 59) (b := 0) ((((gI_sI_ne (by decide)).trans ((gI_sW).trans ((gI_sW).trans ((gI_sW).trans ((gI_sI_ne (by decide)).trans ((gI_sI_ne (by decide)).trans ((gI_sI_ne (by decide)).trans (gI_sI_ne (by decide))))))))).trans e2045))).trans (HI.eqI hI0 (p := 59) (b := 0) (hv1823)).symm, (HI.eqI hI2106 (p := 59) (b := 12) ((((gI_sI_ne (by decide)).trans ((gI_sW).trans ((gI_sW).trans ((gI_sW).trans ((gI_sI_ne (by decide)).trans ((gI_sI_ne (by decide)).trans ((gI_sI_ne (by decide)).trans (gI_sI_ne (by decide))))))))).trans e2048))).trans (HI.eqI hI0 (p := 59) (b := 12) (hv1826)).symm, (HI.eqI hI2106 (p := 59) (b := 10) ((((gI_sI_ne (by decide)).trans ((gI_sW).trans ((gI_sW).trans ((gI_sW).trans ((gI_sI_ne (by decide)).trans ((gI_sI_ne (by decide)).trans ((gI_sI_ne (by decide)).trans (gI_sI_ne (by decide))))))))).trans e2046))).trans (HI.eqI hI0 (p := 59) (b := 10) (hv1824)).symm, (HI.eqI hI2106 (p := 59) (b := 11) ((((gI_sI_ne (by decide)).trans ((gI_sW).trans ((gI_sW).trans ((gI_sW).trans ((gI_sI_ne (by decide)).trans ((gI_sI_ne (by decide)).trans ((gI_sI_ne (by decide)).trans (gI_sI_ne (by decide))))))))).trans e2047))).trans (HI.eqI hI0 (p := 59) (b := 11) (hv1825)).symm⟩), (fun _ => ⟨(HI.eqA hI2106 (p := 173) (j := 1) (((eA_c gA_sI).trans (eA_sA_eq hI2102.1 ka_173 (by omega) (by first | decide | omega) (by first | decide | omega))))).trans rfl, (by first | rfl | decide), (HI.eqI hI2106 (p := 116) (b := 0) ((((gI_sI_ne (by decide)).trans ((gI_sW).trans ((gI_sW).trans ((gI_sW).trans ((gI_sI_ne (by decide)).trans ((gI_sI_ne (by decide)).trans ((gI_sI_ne (by decide)).trans (gI_sI_ne (by decide))))))))).trans e2049))).trans (HI.eqI hI0 (p := 1) (b := 0) (hv1794)).symm, (HI.eqI hI2106 (p := 116) (b := 12) (((gI_sI_ne (by decide)).trans ((gI_sW).trans ((gI_sW).trans ((gI_sW).trans (gI_sI_eq hI2089.1 kx_116 rfl _))))))).trans (HI.eqI hI0 (p := 1) (b := 12) (hv2091)).symm, (HI.eqI hI2106 (p := 116) (b := 10) (((gI_sI_ne (by decide)).trans ((gI_sW).trans ((gI_sW).trans ((gI_sW).trans ((gI_sI_ne (by decide)).trans ((gI_sI_ne (by decide)).trans (gI_sI_eq hI2083.1 kx_116 rfl _))))))))).trans (HI.eqI hI0 (p := 1) (b := 10) (hv2085)).symm, (HI.eqI hI2106 (p := 116) (b := 11) (((gI_sI_ne (by decide)).trans ((gI_sW).trans ((gI_sW).trans ((gI_sW).trans ((gI_sI_ne (by decide)).trans (gI_sI_eq hI2086.1 kx_116 rfl _)))))))).trans (HI.eqI hI0 (p := 1) (b := 11) (hv2088)).symm⟩), (fun h => absurd e h), (fun h => False.elim (by omega))⟩, (by intro i i0 i1; exact (Decidable.em (a1.toInt = 0)).elim (fun k51_ => by refine Eq.trans ?_ (if_pos k51_).symm; refine (eA_ti (((gA_sI).trans ((gA_sA_ne (by decide)).trans ((gA_sW_ne (by decide)).trans ((gA_sW_ne (by decide)).trans ((gA_sI).trans ((gA_sI).trans ((gA_sI).trans (gA_sI)))))))))).trans ?_; refine ((q2059 (i) (by omega) (by omega))).trans ?_; (first | rfl | exact eA_ix (by omega) | omega)) (fun k51_ => by refine Eq.trans ?_ (if_neg k51_).symm; refine (eA_ti (((gA_sI).trans ((gA_sA_ne (by decide)).trans ((gA_sW_ne (by decide)).trans ((gA_sW_ne (by decide)).trans ((gA_sI).trans ((gA_sI).trans ((gA_sI).trans (gA_sI)))))))))).trans ?_; refine ((q2059 (i) (by omega) (by omega))).trans ?_; (first | rfl | exact eA_ix (by omega) | omega))), (by intro i i0 i1; exact (Decidable.em (a1.toInt = 0)).elim (fun k52_ => by refine Eq.trans ?_ (if_pos k52_).symm; refine (eA_ti (((gA_sI).trans ((gA_sA_ne (by decide)).trans ((gA_sW_ne (by decide)).trans ((gA_sW_ne (by decide)).trans ((gA_sI).trans ((gA_sI).trans ((gA_sI).trans (gA_sI)))))))))).trans ?_; refine ((q2060 (i) (by omega) (by omega))).trans ?_; (first | rfl | exact eA_ix (by omega) | omega)) (fun k52_ => by refine Eq.trans ?_ (if_neg k52_).symm; refine (eA_ti (((gA_sI).trans ((gA_sA_ne (by decide)).trans ((gA_sW_ne (by decide)).trans ((gA_sW_ne (by decide)).trans ((gA_sI).trans ((gA_sI).trans ((gA_sI).trans (gA_sI)))))))))).trans ?_; refine ((q2060 (i) (by omega) (by omega))).trans ?_; (first | rfl | exact eA_ix (by omega) | omega))), (by intro i i0 i1; exact (Decidable.em (a1.toInt = 0)).elim (fun k53_ => by refine Eq.trans ?_ (if_pos k53_).symm; refine (eA_ti (((gA_sI).trans ((gA_sA_ne (by decide)).trans ((gA_sW_ne (by decide)).trans ((gA_sW_ne (by decide)).trans ((gA_sI).trans ((gA_sI).trans ((gA_sI).trans (gA_sI)))))))))).trans ?_; refine ((q2061 (i) (by omega) (by omega))).trans ?_; (first | rfl | exact eA_ix (by omega) | omega)) (fun k53_ => by refine Eq.trans ?_ (if_neg k53_).symm; refine (eA_ti (((gA_sI).trans ((gA_sA_ne (by decide)).trans ((gA_sW_ne (by decide)).trans ((gA_sW_ne (by decide)).trans ((gA_sI).trans ((gA_sI).trans ((gA_sI).trans (gA_sI)))))))))).trans ?_; refine ((q2061 (i) (by omega) (by omega))).trans ?_; (first | rfl | exact eA_ix (by omega) | omega))), (by intro i i0 i1; exact (Decidable.em (a1.toInt = 0)).elim (fun k54_ => by refine Eq.trans ?_ (if_pos k54_).symm; refine (eA_ti (((gA_sI).trans ((gA_sA_ne (by decide)).trans ((gA_sW_ne (by decide)).trans ((gA_sW_ne (by decide)).trans ((gA_sI).trans ((gA_sI).trans ((gA_sI).trans (gA_sI)))))))))).trans ?_; refine ((q2062 (i) (by omega) (by omega))).trans ?_; (first | rfl | exact eA_ix (by omega) | omega)) (fun k54_ => by refine Eq.trans ?_ (if_neg k54_).symm; refine (eA_ti (((gA_sI).trans ((gA_sA_ne (by decide)).trans ((gA_sW_ne (by decide)).trans ((gA_sW_ne (by decide)).trans ((gA_sI).trans ((gA_sI).trans ((gA_sI).trans (gA_sI)))))))))).trans ?_; refine ((q2062 (i) (by omega) (by omega))).trans ?_; (first | rfl | exact eA_ix (by omega) | omega))), (by intro i i0 i1; exact (Decidable.em (a1.toInt = 0)).elim (fun k55_ => by refine Eq.trans ?_ (if_pos k55_).symm; refine (eA_ti (((gA_sI).trans ((gA_sA_ne (by decide)).trans ((gA_sW_ne (by decide)).trans ((gA_sW_ne (by decide)).trans ((gA_sI).trans ((gA_sI).trans ((gA_sI).trans (gA_sI)))))))))).trans ?_; refine ((q2063 (i) (by omega) (by omega))).trans ?_; (first | rfl | exact eA_ix (by omega) | omega)) (fun k55_ => by refine Eq.trans ?_ (if_neg k55_).symm; refine (eA_ti (((gA_sI).trans ((gA_sA_ne (by decide)).trans ((gA_sW_ne (by decide)).trans ((gA_sW_ne (by decide)).trans ((gA_sI).trans ((gA_sI).trans ((gA_sI).trans (gA_sI)))))))))).trans ?_; refine ((q2063 (i) (by omega) (by omega))).trans ?_; (first | rfl | exact eA_ix (by omega) | omega))), (by intro i i0 i1; exact (Decidable.em (a1.toInt = 1)).elim (fun k56_ => by refine Eq.trans ?_ (if_pos k56_).symm; refine (eA_ti (((gA_sI).trans ((gA_sA_ne (by decide)).trans ((gA_sW_ne (by decide)).trans ((gA_sW_ne (by decide)).trans ((gA_sI).trans ((gA_sI).trans ((gA_sI).trans (gA_sI)))))))))).trans ?_; refine ((q2064 (i) (by omega) (by omega))).trans ?_; (first | rfl | exact eA_ix (by omega) | omega)) (fun k56_ => by refine Eq.trans ?_ (if_neg k56_).symm; refine (eA_ti (((gA_sI).trans ((gA_sA_ne (by decide)).trans ((gA_sW_ne (by decide)).trans ((gA_sW_ne (by decide)).trans ((gA_sI).trans ((gA_sI).trans ((gA_sI).trans (gA_sI)))))))))).trans ?_; refine ((q2064 (i) (by omega) (by omega))).trans ?_; (first | rfl | exact eA_ix (by omega) | omega))), (by intro i i0 i1; exact (Decidable.em (a1.toInt = 1)).elim (fun k57_ => by refine Eq.trans ?_ (if_pos k57_).symm; refine (eA_ti (((gA_sI).trans ((gA_sA_ne (by decide)).trans ((gA_sW_ne (by decide)).trans ((gA_sW_ne (by decide)).trans ((gA_sI).trans ((gA_sI).trans ((gA_sI).trans (gA_sI)))))))))).trans ?_; refine ((q2065 (i) (by omega) (by omega))).trans ?_; (first | rfl | exact eA_ix (by omega) | omega)) (fun k57_ => by refine Eq.trans ?_ (if_neg k57_).symm; refine (eA_ti (((gA_sI).trans ((gA_sA_ne (by decide)).trans ((gA_sW_ne (by decide)).trans ((gA_sW_ne (by decide)).trans ((gA_sI).trans ((gA_sI).trans ((gA_sI).trans (gA_sI)))))))))).trans ?_; refine ((q2065 (i) (by omega) (by omega))).trans ?_; (first | rfl | exact eA_ix (by omega) | omega))), (by intro i i0 i1; exact (Decidable.em (a1.toInt = 1)).elim (fun k58_ => by refine Eq.trans ?_ (if_pos k58_).symm; refine (eA_ti (((gA_sI).trans ((gA_sA_ne (by decide)).trans ((gA_sW_ne (by decide)).trans ((gA_sW_ne (by decide)).trans ((gA_sI).trans ((gA_sI).trans ((gA_sI).trans (gA_sI)))))))))).trans ?_; refine ((q2066 (i) (by omega) (by omega))).trans ?_; (first | rfl | exact eA_ix (by omega) | omega)) (fun k58_ => by refine Eq.trans ?_ (if_neg k58_).symm; refine (eA_ti (((gA_sI).trans ((gA_sA_ne (by decide)).trans ((gA_sW_ne (by decide)).trans ((gA_sW_ne (by decide)).trans ((gA_sI).trans ((gA_sI).trans ((gA_sI).trans (gA_sI)))))))))).trans ?_; refine ((q2066 (i) (by omega) (by omega))).trans ?_; (first | rfl | exact eA_ix (by omega) | omega))), (by intro i i0 i1; exact (Decidable.em (a1.toInt = 1)).elim (fun k59_ => by refine Eq.trans ?_ (if_pos k59_).symm; refine (eA_tq (((gA_sI).trans ((gA_sA_ne (by decide)).trans ((gA_sW_ne (by decide)).trans ((gA_cpF hI2092.1 ka_14 ka_129 (by decide) (by decide) (by decide)).trans ((gA_sI).trans ((gA_sI).trans ((gA_sI).trans ((gA_sI).trans (hF2041.2.1 14 (by decide)))))))))))).trans ?_; (first | rfl | exact eA_ix (by omega) | omega)) (fun k59_ => by refine Eq.trans ?_ (if_neg k59_).symm; refine (eA_tq (((gA_sI).trans ((gA_sA_ne (by decide)).trans ((gA_sW_ne (by decide)).trans ((gA_cpF hI2092.1 ka_14 ka_129 (by decide) (by decide) (by decide)).trans ((gA_sI).trans ((gA_sI).trans ((gA_sI).trans ((gA_sI).trans (hF2041.2.1 14 (by decide)))))))))))).trans ?_; (first | rfl | exact eA_ix (by omega) | omega))), (by intro i i0 i1; exact (Decidable.em (a1.toInt = 1)).elim (fun k60_ => by refine Eq.trans ?_ (if_pos k60_).symm; refine (eA_tq (((gA_sI).trans ((gA_sA_ne (by decide)).trans ((gA_cpF hI2097.1 ka_15 ka_130 (by decide) (by decide) (by decide)).trans ((gA_sW_ne (by decide)).trans ((gA_sI).trans ((gA_sI).trans ((gA_sI).trans ((gA_sI).trans (hF2041.2.1 15 (by decide)))))))))))).trans ?_; (first | rfl | exact eA_ix (by omega) | omega)) (fun k60_ => by refine Eq.trans ?_ (if_neg k60_).symm; refine (eA_tq (((gA_sI).trans ((gA_sA_ne (by decide)).trans ((gA_cpF hI2097.1 ka_15 ka_130 (by decide) (by decide) (by decide)).trans ((gA_sW_ne (by decide)).trans ((gA_sI).trans ((gA_sI).trans ((gA_sI).trans ((gA_sI).trans (hF2041.2.1 15 (by decide)))))))))))).trans ?_; (first | rfl | exact eA_ix (by omega) | omega)))⟩⟩
      · have c2081_ : x2038.toInt < 6 := en_i_ge_f c2081
        refine At.enter rfl ?_
        refine r_aload_n e2055 ?_
        refine r_iload_n e2057 ?_
        refine r_callV 97 rfl [.ref 116, .int x2038] [] (Nat.le_of_ble_eq_true rfl) rfl (T_X0_lawAt_116 _ hI2040 x2038) ?_
        rintro _ _ ⟨g2109, rfl, hI2110, hF2111, v2112, rfl, hr2113⟩
        refine At.str ?_
        have hF2114 := Fr.tr hF2041 hF2111 rfl rfl
        refine At.enter rfl ?_
        refine r_aload_n e2056 ?_
        refine r_iload_n e2057 ?_
        refine r_callV 102 rfl [.ref 1, .int x2038] [.ref (v2112)] (Nat.le_of_ble_eq_true rfl) rfl (T_X0_lawAt_1 _ hI2110 x2038) ?_
        rintro _ _ ⟨g2115, rfl, hI2116, hF2117, v2118, rfl, hr2119⟩
        refine At.str ?_
        have hF2120 := Fr.tr hF2114 hF2117 rfl rfl
        refine At.enter rfl ?_
        refine r_callV 105 rfl [.ref (v2112), .ref (v2118)] [] (Nat.le_of_ble_eq_true rfl) rfl (T_X4_become_law _ hI2116 (v2112) hr2113 (v2118) hr2119) ?_
        rintro _ _ ⟨g2121, rfl, hI2122, hF2123, rfl⟩
        refine At.stn ?_
        have hF2126 := Fr.tr hF2120 hF2123 rfl rfl
        refine At.enter rfl ?_
        refine q_iinc e2057 (x2038.toInt + 1) rfl (by omega) (fun v2127 hv2127 => ?_)
        refine r_goto ?_
        exact ih2044 (6 - v2127.toInt) _ _ ⟨v2127, by first | rfl | omega, hI2122, hF2126, (((hF2123.1 59 0 (by decide)).trans ((hF2117.1 59 0 (by decide)).trans (hF2111.1 59 0 (by decide)))).trans e2045), (((hF2123.1 59 10 (by decide)).trans ((hF2117.1 59 10 (by decide)).trans (hF2111.1 59 10 (by decide)))).trans e2046), (((hF2123.1 59 11 (by decide)).trans ((hF2117.1 59 11 (by decide)).trans (hF2111.1 59 11 (by decide)))).trans e2047), (((hF2123.1 59 12 (by decide)).trans ((hF2117.1 59 12 (by decide)).trans (hF2111.1 59 12 (by decide)))).trans e2048), (((hF2123.1 116 0 (by decide)).trans ((hF2117.1 116 0 (by decide)).trans (hF2111.1 116 0 (by decide)))).trans e2049), (((hF2123.1 116 10 (by decide)).trans ((hF2117.1 116 10 (by decide)).trans (hF2111.1 116 10 (by decide)))).trans e2050), (((hF2123.1 116 11 (by decide)).trans ((hF2117.1 116 11 (by decide)).trans (hF2111.1 116 11 (by decide)))).trans e2051), (((hF2123.1 116 12 (by decide)).trans ((hF2117.1 116 12 (by decide)).trans (hF2111.1 116 12 (by decide)))).trans e2052), (((eA_c (hF2123.2.1 173 (by decide))).trans ((eA_c (hF2117.2.1 173 (by decide))).trans (eA_c (hF2111.2.1 173 (by decide))))).trans e2053), (((eA_c (hF2123.2.1 173 (by decide))).trans ((eA_c (hF2117.2.1 173 (by decide))).trans (eA_c (hF2111.2.1 173 (by decide))))).trans e2054), (w_p1 (by decide) (Or.inr rfl) e2055), (w_p1 (by decide) (Or.inr rfl) e2056), (w_e1 _ _ _), by omega, (by intro i i0 i1; refine (eA_ti (((hF2123.2.1 60 (by decide)).trans ((hF2117.2.1 60 (by decide)).trans (hF2111.2.1 60 (by decide)))))).trans ?_; refine ((q2059 (i) (by omega) (by omega))).trans ?_; (first | rfl | exact eA_ix (by omega) | omega)), (by intro i i0 i1; refine (eA_ti (((hF2123.2.1 61 (by decide)).trans ((hF2117.2.1 61 (by decide)).trans (hF2111.2.1 61 (by decide)))))).trans ?_; refine ((q2060 (i) (by omega) (by omega))).trans ?_; (first | rfl | exact eA_ix (by omega) | omega)), (by intro i i0 i1; refine (eA_ti (((hF2123.2.1 62 (by decide)).trans ((hF2117.2.1 62 (by decide)).trans (hF2111.2.1 62 (by decide)))))).trans ?_; refine ((q2061 (i) (by omega) (by omega))).trans ?_; (first | rfl | exact eA_ix (by omega) | omega)), (by intro i i0 i1; refine (eA_ti (((hF2123.2.1 72 (by decide)).trans ((hF2117.2.1 72 (by decide)).trans (hF2111.2.1 72 (by decide)))))).trans ?_; refine ((q2062 (i) (by omega) (by omega))).trans ?_; (first | rfl | exact eA_ix (by omega) | omega)), (by intro i i0 i1; refine (eA_ti (((hF2123.2.1 73 (by decide)).trans ((hF2117.2.1 73 (by decide)).trans (hF2111.2.1 73 (by decide)))))).trans ?_; refine ((q2063 (i) (by omega) (by omega))).trans ?_; (first | rfl | exact eA_ix (by omega) | omega)), (by intro i i0 i1; refine (eA_ti (((hF2123.2.1 117 (by decide)).trans ((hF2117.2.1 117 (by decide)).trans (hF2111.2.1 117 (by decide)))))).trans ?_; refine ((q2064 (i) (by omega) (by omega))).trans ?_; (first | rfl | exact eA_ix (by omega) | omega)), (by intro i i0 i1; refine (eA_ti (((hF2123.2.1 118 (by decide)).trans ((hF2117.2.1 118 (by decide)).trans (hF2111.2.1 118 (by decide)))))).trans ?_; refine ((q2065 (i) (by omega) (by omega))).trans ?_; (first | rfl | exact eA_ix (by omega) | omega)), (by intro i i0 i1; refine (eA_ti (((hF2123.2.1 119 (by decide)).trans ((hF2117.2.1 119 (by decide)).trans (hF2111.2.1 119 (by decide)))))).trans ?_; refine ((q2066 (i) (by omega) (by omega))).trans ?_; (first | rfl | exact eA_ix (by omega) | omega)), (by intro i i0 i1; refine (eA_ti (((hF2123.2.1 129 (by decide)).trans ((hF2117.2.1 129 (by decide)).trans (hF2111.2.1 129 (by decide)))))).trans ?_; refine ((q2067 (i) (by omega) (by omega))).trans ?_; (first | rfl | exact eA_ix (by omega) | omega)), (by intro i i0 i1; refine (eA_ti (((hF2123.2.1 130 (by decide)).trans ((hF2117.2.1 130 (by decide)).trans (hF2111.2.1 130 (by decide)))))).trans ?_; refine ((q2068 (i) (by omega) (by omega))).trans ?_; (first | rfl | exact eA_ix (by omega) | omega))⟩ ⟨by omega, by omega⟩
