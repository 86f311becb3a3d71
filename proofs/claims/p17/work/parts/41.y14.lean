def F_X10_drawn_0 : List (Nat × Nat) := []
def A_X10_drawn_0 : List Nat := []
set_option maxRecDepth 100000 in
set_option maxHeartbeats 4000000 in
theorem T_X10_drawn_0 (d : Nat) {N : Nat} {g0 : List en_E} (hI0 : HI g0) (a1 : Int32) (a2 : Int32) : Ev (d + 2) 139 [.ref 0, .int a1, .int a2] (g0, N) (fun w h' => ∃ g', h' = (g', N) ∧ HI g' ∧ Fr F_X10_drawn_0 A_X10_drawn_0 g0 g' ∧ ∃ r : Int32, w = some (.int r) ∧ True) := by
  have hF0 : Fr F_X10_drawn_0 A_X10_drawn_0 g0 g0 := Fr.rf
  refine Ev.mk rfl rfl ⟨Nat.le_of_ble_eq_true rfl, Or.inr (q_rc hI0.1 kx_0 rfl)⟩ ?_
  show At _ none _ _ (0, [(0, .ref 0), (1, .int a1), (2, .int a2)], [], (_, _)) _
  refine At.enter rfl ?_
  refine r_iload_n rfl ?_
  refine r_iconst 0 rfl ?_
  refine r_aload_n rfl ?_
  obtain ⟨v23, hv23⟩ : ∃ v, gI g0 0 15 = v := ⟨_, rfl⟩
  have rv23 := RgF.at hI0.2.1 (p := 0) (b := 15) rfl
  rw [hv23] at rv23
  dsimp only at rv23
  refine q_getI (Sh.int hI0.1 kx_0 rfl) v23 hv23 ?_
  refine r_iconst 1 rfl ?_
  refine q_isub (v23.toInt - 1) rfl (by omega) (fun v24 hv24 => ?_)
  refine q_inlS 11 rfl [.int a1, .int 0, .int v24] [] (Nat.le_of_ble_eq_true rfl) rfl ?_
  refine Ev.mk rfl rfl ⟨Nat.le_of_ble_eq_true rfl, Or.inl rfl⟩ ?_
  show At _ none _ _ (0, [(0, .int a1), (1, .int 0), (2, .int v24)], [], (_, _)) _
  refine At.enter rfl ?_
  refine r_iload_n rfl ?_
  refine r_iload_n rfl ?_
  refine r_ics 5 rfl (fun c25 => ?_) (fun c25 => ?_)
  · have c25_ : a1.toInt < 0 := en_i_lt_t c25
    refine At.enter rfl ?_
    refine r_iconst 0 rfl ?_
    refine Ar.fall 15 rfl ?_
    refine At.enter rfl ?_
    refine q_iretz (by decide) ?_
    refine At.enter rfl ?_
    refine r_ift (by decide) ?_
    refine At.enter rfl ?_
    refine r_iconst (-1) rfl ?_
    refine r_ireti ?_
    exact ⟨_, rfl, hI0, hF0, _, rfl, trivial⟩
  · have c25_ : a1.toInt ≥ 0 := en_i_lt_f c25
    refine At.enter rfl ?_
    refine r_iload_n rfl ?_
    refine r_iload_n rfl ?_
    have bv27 := q_bnd a1
    have bv28 := q_bnd v24
    refine r_ics 10 rfl (fun c26 => ?_) (fun c26 => ?_)
    · have c26_ : a1.toInt > v24.toInt := en_i_gt_t c26
      refine At.enter rfl ?_
      refine r_iconst 0 rfl ?_
      refine Ar.fall 15 rfl ?_
      refine At.enter rfl ?_
      refine q_iretz (by decide) ?_
      refine At.enter rfl ?_
      refine r_ift (by decide) ?_
      refine At.enter rfl ?_
      refine r_iconst (-1) rfl ?_
      refine r_ireti ?_
      exact ⟨_, rfl, hI0, hF0, _, rfl, trivial⟩
    · have c26_ : a1.toInt ≤ v24.toInt := en_i_gt_f c26
      refine At.enter rfl ?_
      refine r_iconst 1 rfl ?_
      refine r_goto ?_
      refine At.enter rfl ?_
      refine q_iretz (by decide) ?_
      refine At.enter rfl ?_
      refine r_iff 14 rfl (by decide) ?_
      refine At.enter rfl ?_
      refine r_iload_n rfl ?_
      refine r_iconst 0 rfl ?_
      refine r_iconst 1 rfl ?_
      refine q_inlS 20 rfl [.int a2, .int 0, .int 1] [] (Nat.le_of_ble_eq_true rfl) rfl ?_
      refine Ev.mk rfl rfl ⟨Nat.le_of_ble_eq_true rfl, Or.inl rfl⟩ ?_
      show At _ none _ _ (0, [(0, .int a2), (1, .int 0), (2, .int 1)], [], (_, _)) _
      refine At.enter rfl ?_
      refine r_iload_n rfl ?_
      refine r_iload_n rfl ?_
      refine r_ics 5 rfl (fun c29 => ?_) (fun c29 => ?_)
      · have c29_ : a2.toInt < 0 := en_i_lt_t c29
        refine At.enter rfl ?_
        refine r_iconst 0 rfl ?_
        refine Ar.fall 15 rfl ?_
        refine At.enter rfl ?_
        refine q_iretz (by decide) ?_
        refine At.enter rfl ?_
        refine r_iff 23 rfl (by decide) ?_
        refine At.enter rfl ?_
        refine r_iconst (-1) rfl ?_
        refine r_ireti ?_
        exact ⟨_, rfl, hI0, hF0, _, rfl, trivial⟩
      · have c29_ : a2.toInt ≥ 0 := en_i_lt_f c29
        refine At.enter rfl ?_
        refine r_iload_n rfl ?_
        refine r_iload_n rfl ?_
        refine r_ics 10 rfl (fun c30 => ?_) (fun c30 => ?_)
        · have c30_ : a2.toInt > 1 := en_i_gt_t c30
          refine At.enter rfl ?_
          refine r_iconst 0 rfl ?_
          refine Ar.fall 15 rfl ?_
          refine At.enter rfl ?_
          refine q_iretz (by decide) ?_
          refine At.enter rfl ?_
          refine r_iff 23 rfl (by decide) ?_
          refine At.enter rfl ?_
          refine r_iconst (-1) rfl ?_
          refine r_ireti ?_
          exact ⟨_, rfl, hI0, hF0, _, rfl, trivial⟩
        · have c30_ : a2.toInt ≤ 1 := en_i_gt_f c30
          refine At.enter rfl ?_
          refine r_iconst 1 rfl ?_
          refine r_goto ?_
          refine At.enter rfl ?_
          refine q_iretz (by decide) ?_
          refine At.enter rfl ?_
          refine r_ift (by decide) ?_
          refine At.enter rfl ?_
          refine r_iload_n rfl ?_
          refine r_ifs 29 rfl (fun c31 => ?_) (fun c31 => ?_)
          · have c31_ : a2.toInt ≠ 0 := en_k_ne_t c31
            refine At.enter rfl ?_
            refine r_aload_n rfl ?_
            refine q_getR (Sh.ref hI0.1 kx_0 rfl) ?_
            refine r_iload_n rfl ?_
            obtain ⟨v32, hv32⟩ : ∃ v, eA g0 229 a1.toInt = v := ⟨_, rfl⟩
            refine q_iald (Sh.arr hI0.1 ka_229) a1.toInt rfl (by omega) v32 hv32 ?_
            refine Ar.fall 44 rfl ?_
            refine At.enter rfl ?_
            refine r_ireti ?_
            exact ⟨_, rfl, hI0, hF0, _, rfl, trivial⟩
          · have c31_ : a2.toInt = 0 := en_k_ne_f c31
            refine At.enter rfl ?_
            refine r_aload_n rfl ?_
            refine q_getR (Sh.ref hI0.1 kx_0 rfl) ?_
            refine r_iload_n rfl ?_
            obtain ⟨v33, hv33⟩ : ∃ v, eA g0 228 a1.toInt = v := ⟨_, rfl⟩
            refine q_iald (Sh.arr hI0.1 ka_228) a1.toInt rfl (by omega) v33 hv33 ?_
            refine r_goto ?_
            refine At.enter rfl ?_
            refine r_ireti ?_
            exact ⟨_, rfl, hI0, hF0, _, rfl, trivial⟩

def F_X10_image_0 : List (Nat × Nat) := [(0, 17), (7, 0), (7, 3), (7, 4), (16, 0), (16, 3), (16, 4), (23, 0), (23, 3), (23, 4), (30, 0), (30, 3), (30, 4), (37, 0), (37, 3), (37, 4), (44, 0), (44, 3), (44, 4), (51, 0), (51, 3), (51, 4), (59, 0), (59, 4), (59, 6), (59, 9), (59, 10), (59, 11), (59, 12), (65, 0), (65, 3), (65, 4), (74, 0), (74, 3), (74, 4), (81, 0), (81, 3), (81, 4), (88, 0), (88, 3), (88, 4), (95, 0), (95, 3), (95, 4), (102, 0), (102, 3), (102, 4), (109, 0), (109, 3), (109, 4), (116, 0), (116, 4), (116, 6), (116, 9), (116, 10), (116, 11), (116, 12), (122, 0), (122, 3), (122, 4), (131, 0), (131, 3), (131, 4), (138, 0), (138, 3), (138, 4), (145, 0), (145, 3), (145, 4), (152, 0), (152, 3), (152, 4), (159, 0), (159, 3), (159, 4), (166, 0), (166, 3), (166, 4), (177, 0), (177, 3), (177, 4)]
def A_X10_image_0 : List Nat := [8, 9, 10, 11, 12, 13, 17, 18, 19, 20, 21, 22, 24, 25, 26, 27, 28, 29, 31, 32, 33, 34, 35, 36, 38, 39, 40, 41, 42, 43, 45, 46, 47, 48, 49, 50, 52, 53, 54, 55, 56, 57, 60, 61, 62, 63, 66, 67, 68, 69, 70, 71, 72, 73, 75, 76, 77, 78, 79, 80, 82, 83, 84, 85, 86, 87, 89, 90, 91, 92, 93, 94, 96, 97, 98, 99, 100, 101, 103, 104, 105, 106, 107, 108, 110, 111, 112, 113, 114, 115, 117, 118, 119, 120, 123, 124, 125, 126, 127, 128, 129, 130, 132, 133, 134, 135, 136, 137, 139, 140, 141, 142, 143, 144, 146, 147, 148, 149, 150, 151, 153, 154, 155, 156, 157, 158, 160, 161, 162, 163, 164, 165, 167, 168, 169, 170, 171, 172, 173, 178, 179, 180, 181, 182, 183, 230]
set_option maxRecDepth 100000 in
set_option maxHeartbeats 4000000 in
theorem T_X10_image_0 (d : Nat) {N : Nat} {g0 : List en_E} (hI0 : HI g0) (a1 : Int32) : Ev (d + 3) 140 [.ref 0, .int a1] (g0, N) (fun w h' => ∃ g', h' = (g', N) ∧ HI g' ∧ Fr F_X10_image_0 A_X10_image_0 g0 g' ∧ ∃ r : Int32, w = some (.int r) ∧ ((-1) ≤ r.toInt ∧ r.toInt ≤ 0) ∧ (((a1.toInt = 0 → (eA g' 173 0).toInt = 1 ∧ r.toInt = 0 ∧ (gI g' 59 0).toInt = (gI g0 1 0).toInt ∧ (gI g' 59 12).toInt = (gI g0 1 12).toInt ∧ (gI g' 59 10).toInt = (gI g0 1 10).toInt ∧ (gI g' 59 11).toInt = (gI g0 1 11).toInt ∧ (gI g' 59 4).toInt = (gI g0 1 4).toInt) ∧ (a1.toInt ≠ 0 → (eA g' 173 0).toInt = (eA g0 173 0).toInt ∧ (gI g' 59 0).toInt = (gI g0 59 0).toInt ∧ (gI g' 59 12).toInt = (gI g0 59 12).toInt ∧ (gI g' 59 10).toInt = (gI g0 59 10).toInt ∧ (gI g' 59 11).toInt = (gI g0 59 11).toInt ∧ (gI g' 59 4).toInt = (gI g0 59 4).toInt) ∧ (a1.toInt = 1 → (eA g' 173 1).toInt = 1 ∧ r.toInt = 0 ∧ (gI g' 116 0).toInt = (gI g0 1 0).toInt ∧ (gI g' 116 12).toInt = (gI g0 1 12).toInt ∧ (gI g' 116 10).toInt = (gI g0 1 10).toInt ∧ (gI g' 116 11).toInt = (gI g0 1 11).toInt ∧ (gI g' 116 4).toInt = (gI g0 1 4).toInt) ∧ (a1.toInt ≠ 1 → (eA g' 173 1).toInt = (eA g0 173 1).toInt ∧ (gI g' 116 0).toInt = (gI g0 116 0).toInt ∧ (gI g' 116 12).toInt = (gI g0 116 12).toInt ∧ (gI g' 116 10).toInt = (gI g0 116 10).toInt ∧ (gI g' 116 11).toInt = (gI g0 116 11).toInt ∧ (gI g' 116 4).toInt = (gI g0 116 4).toInt) ∧ (a1.toInt < 0 ∨ 1 < a1.toInt → r.toInt = -1)) ∧ (∀ i : Int, 0 ≤ i → i < 12 → (eA g' 60 (i)).toInt = if a1.toInt = 0 then (eA g0 2 (i)).toInt else (eA g0 60 (i)).toInt) ∧ (∀ i : Int, 0 ≤ i → i < 12 → (eA g' 61 (i)).toInt = if a1.toInt = 0 then (eA g0 3 (i)).toInt else (eA g0 61 (i)).toInt) ∧ (∀ i : Int, 0 ≤ i → i < 12 → (eA g' 62 (i)).toInt = if a1.toInt = 0 then (eA g0 4 (i)).toInt else (eA g0 62 (i)).toInt) ∧ (∀ i : Int, 0 ≤ i → i < 8 → (eA g' 72 (i)).toInt = if a1.toInt = 0 then (eA g0 14 (i)).toInt else (eA g0 72 (i)).toInt) ∧ (∀ i : Int, 0 ≤ i → i < 8 → (eA g' 73 (i)).toInt = if a1.toInt = 0 then (eA g0 15 (i)).toInt else (eA g0 73 (i)).toInt) ∧ (∀ i : Int, 0 ≤ i → i < 12 → (eA g' 117 (i)).toInt = if a1.toInt = 1 then (eA g0 2 (i)).toInt else (eA g0 117 (i)).toInt) ∧ (∀ i : Int, 0 ≤ i → i < 12 → (eA g' 118 (i)).toInt = if a1.toInt = 1 then (eA g0 3 (i)).toInt else (eA g0 118 (i)).toInt) ∧ (∀ i : Int, 0 ≤ i → i < 12 → (eA g' 119 (i)).toInt = if a1.toInt = 1 then (eA g0 4 (i)).toInt else (eA g0 119 (i)).toInt) ∧ (∀ i : Int, 0 ≤ i → i < 8 → (eA g' 129 (i)).toInt = if a1.toInt = 1 then (eA g0 14 (i)).toInt else (eA g0 129 (i)).toInt) ∧ (∀ i : Int, 0 ≤ i → i < 8 → (eA g' 130 (i)).toInt = if a1.toInt = 1 then (eA g0 15 (i)).toInt else (eA g0 130 (i)).toInt) ∧ (∀ i : Int, 0 ≤ i → i < 48 → (eA g' 63 (i)).toInt = if a1.toInt = 0 then (eA g0 5 (i)).toInt else (eA g0 63 (i)).toInt) ∧ (∀ i : Int, 0 ≤ i → i < 48 → (eA g' 120 (i)).toInt = if a1.toInt = 1 then (eA g0 5 (i)).toInt else (eA g0 120 (i)).toInt))) := by
  have hF0 : Fr F_X10_image_0 A_X10_image_0 g0 g0 := Fr.rf
  refine Ev.mk rfl rfl ⟨Nat.le_of_ble_eq_true rfl, Or.inr (q_rc hI0.1 kx_0 rfl)⟩ ?_
  show At _ none _ _ (0, [(0, .ref 0), (1, .int a1)], [], (_, _)) _
  refine At.enter rfl ?_
  refine r_aload_n rfl ?_
  refine r_iload_n rfl ?_
  refine q_inlV 5 rfl [.ref 0, .int a1] [] (Nat.le_of_ble_eq_true rfl) rfl ?_
  refine Ev.mk rfl rfl ⟨Nat.le_of_ble_eq_true rfl, Or.inr (q_rc hI0.1 kx_0 rfl)⟩ ?_
  show At _ none _ _ (0, [(0, .ref 0), (1, .int a1)], [], (_, _)) _
  refine At.enter rfl ?_
  refine r_iload_n rfl ?_
  refine r_iconst 0 rfl ?_
  refine r_iconst 1 rfl ?_
  refine q_inlS 6 rfl [.int a1, .int 0, .int 1] [] (Nat.le_of_ble_eq_true rfl) rfl ?_
  refine Ev.mk rfl rfl ⟨Nat.le_of_ble_eq_true rfl, Or.inl rfl⟩ ?_
  show At _ none _ _ (0, [(0, .int a1), (1, .int 0), (2, .int 1)], [], (_, _)) _
  refine At.enter rfl ?_
  refine r_iload_n rfl ?_
  refine r_iload_n rfl ?_
  refine r_ics 5 rfl (fun c1395 => ?_) (fun c1395 => ?_)
  · have c1395_ : a1.toInt < 0 := en_i_lt_t c1395
    refine At.enter rfl ?_
    refine r_iconst 0 rfl ?_
    refine Ar.fall 15 rfl ?_
    refine At.enter rfl ?_
    refine q_iretz (by decide) ?_
    refine At.enter rfl ?_
    refine r_ift (by decide) ?_
    refine At.enter rfl ?_
    refine r_null ?_
    refine Ar.fall 19 rfl ?_
    refine At.enter rfl ?_
    refine q_zret ?_
    refine At.enter rfl ?_
    refine r_zstore_n ([(2, .null), (0, .ref 0), (1, .int a1)]) rfl ?_
    refine r_zload_n rfl ?_
    refine r_nnz 10 rfl ?_
    refine At.enter rfl ?_
    refine r_aload_n rfl ?_
    refine r_iconst (-1) rfl ?_
    refine r_callV 15 rfl [.ref 0, .int (-1)] [] (Nat.le_of_ble_eq_true rfl) rfl (T_X10_refused_0 _ hI0 (-1) (by decide)) ?_
    rintro _ _ ⟨g1396, rfl, hI1397, hF1398, v1399, rfl, hr1400⟩
    refine At.sti ?_
    have hF1401 := Fr.tr hF0 hF1398 rfl rfl
    have zv1402 : ((-1) : Int32).toInt = (-1) := rfl
    refine At.enter rfl ?_
    refine r_ireti ?_
    obtain ⟨v1403, hv1403⟩ : ∃ v, gI g0 1 0 = v := ⟨_, rfl⟩
    have rv1403 := RgF.at hI0.2.1 (p := 1) (b := 0) rfl
    rw [hv1403] at rv1403
    dsimp only at rv1403
    have tv1403 := congrArg Int32.toInt hv1403
    have x1404 := HI.eqI hI0 (p := 1) (b := 0) (hv1403)
    obtain ⟨v1405, hv1405⟩ : ∃ v, gI g0 1 12 = v := ⟨_, rfl⟩
    have rv1405 := RgF.at hI0.2.1 (p := 1) (b := 12) rfl
    rw [hv1405] at rv1405
    dsimp only at rv1405
    have tv1405 := congrArg Int32.toInt hv1405
    have x1406 := HI.eqI hI0 (p := 1) (b := 12) (hv1405)
    obtain ⟨v1407, hv1407⟩ : ∃ v, gI g0 1 10 = v := ⟨_, rfl⟩
    have tv1407 := congrArg Int32.toInt hv1407
    have x1408 := HI.eqI hI0 (p := 1) (b := 10) (hv1407)
    obtain ⟨v1409, hv1409⟩ : ∃ v, gI g0 1 11 = v := ⟨_, rfl⟩
    have tv1409 := congrArg Int32.toInt hv1409
    have x1410 := HI.eqI hI0 (p := 1) (b := 11) (hv1409)
    obtain ⟨v1411, hv1411⟩ : ∃ v, gI g0 1 4 = v := ⟨_, rfl⟩
    have rv1411 := RgF.at hI0.2.1 (p := 1) (b := 4) rfl
    rw [hv1411] at rv1411
    dsimp only at rv1411
    have tv1411 := congrArg Int32.toInt hv1411
    have x1412 := HI.eqI hI0 (p := 1) (b := 4) (hv1411)
    obtain ⟨v1413, hv1413⟩ : ∃ v, gI g0 59 0 = v := ⟨_, rfl⟩
    have rv1413 := RgF.at hI0.2.1 (p := 59) (b := 0) rfl
    rw [hv1413] at rv1413
    dsimp only at rv1413
    have tv1413 := congrArg Int32.toInt hv1413
    have x1414 := HI.eqI hI0 (p := 59) (b := 0) (hv1413)
    obtain ⟨v1415, hv1415⟩ : ∃ v, gI g0 59 12 = v := ⟨_, rfl⟩
    have rv1415 := RgF.at hI0.2.1 (p := 59) (b := 12) rfl
    rw [hv1415] at rv1415
    dsimp only at rv1415
    have tv1415 := congrArg Int32.toInt hv1415
    have x1416 := HI.eqI hI0 (p := 59) (b := 12) (hv1415)
    obtain ⟨v1417, hv1417⟩ : ∃ v, gI g0 59 10 = v := ⟨_, rfl⟩
    have tv1417 := congrArg Int32.toInt hv1417
    have x1418 := HI.eqI hI0 (p := 59) (b := 10) (hv1417)
    obtain ⟨v1419, hv1419⟩ : ∃ v, gI g0 59 11 = v := ⟨_, rfl⟩
    have tv1419 := congrArg Int32.toInt hv1419
    have x1420 := HI.eqI hI0 (p := 59) (b := 11) (hv1419)
    obtain ⟨v1421, hv1421⟩ : ∃ v, gI g0 59 4 = v := ⟨_, rfl⟩
    have rv1421 := RgF.at hI0.2.1 (p := 59) (b := 4) rfl
    rw [hv1421] at rv1421
    dsimp only at rv1421
    have tv1421 := congrArg Int32.toInt hv1421
    have x1422 := HI.eqI hI0 (p := 59) (b := 4) (hv1421)
    obtain ⟨v1423, hv1423⟩ : ∃ v, gI g0 116 0 = v := ⟨_, rfl⟩
    have rv1423 := RgF.at hI0.2.1 (p := 116) (b := 0) rfl
    rw [hv1423] at rv1423
    dsimp only at rv1423
    have tv1423 := congrArg Int32.toInt hv1423
    have x1424 := HI.eqI hI0 (p := 116) (b := 0) (hv1423)
    obtain ⟨v1425, hv1425⟩ : ∃ v, gI g0 116 12 = v := ⟨_, rfl⟩
    have rv1425 := RgF.at hI0.2.1 (p := 116) (b := 12) rfl
    rw [hv1425] at rv1425
    dsimp only at rv1425
    have tv1425 := congrArg Int32.toInt hv1425
    have x1426 := HI.eqI hI0 (p := 116) (b := 12) (hv1425)
    obtain ⟨v1427, hv1427⟩ : ∃ v, gI g0 116 10 = v := ⟨_, rfl⟩
    have tv1427 := congrArg Int32.toInt hv1427
    have x1428 := HI.eqI hI0 (p := 116) (b := 10) (hv1427)
    obtain ⟨v1429, hv1429⟩ : ∃ v, gI g0 116 11 = v := ⟨_, rfl⟩
    have tv1429 := congrArg Int32.toInt hv1429
    have x1430 := HI.eqI hI0 (p := 116) (b := 11) (hv1429)
    obtain ⟨v1431, hv1431⟩ : ∃ v, gI g0 116 4 = v := ⟨_, rfl⟩
    have rv1431 := RgF.at hI0.2.1 (p := 116) (b := 4) rfl
    rw [hv1431] at rv1431
    dsimp only at rv1431
    have tv1431 := congrArg Int32.toInt hv1431
    have x1432 := HI.eqI hI0 (p := 116) (b := 4) (hv1431)
    obtain ⟨v1433, hv1433⟩ : ∃ v, eA g0 173 0 = v := ⟨_, rfl⟩
    have tv1433 := congrArg Int32.toInt hv1433
    have x1434 := HI.eqA hI0 (p := 173) (j := 0) (hv1433)
    obtain ⟨v1435, hv1435⟩ : ∃ v, eA g0 173 1 = v := ⟨_, rfl⟩
    have tv1435 := congrArg Int32.toInt hv1435
    have x1436 := HI.eqA hI0 (p := 173) (j := 1) (hv1435)
    have x1437 := HI.eqI hI1397 (p := 59) (b := 0) (((hF1398.1 59 0 (by decide)).trans hv1413))
    have x1438 := HI.eqI hI1397 (p := 59) (b := 12) (((hF1398.1 59 12 (by decide)).trans hv1415))
    have x1439 := HI.eqI hI1397 (p := 59) (b := 10) (((hF1398.1 59 10 (by decide)).trans hv1417))
    have x1440 := HI.eqI hI1397 (p := 59) (b := 11) (((hF1398.1 59 11 (by decide)).trans hv1419))
    have x1441 := HI.eqI hI1397 (p := 59) (b := 4) (((hF1398.1 59 4 (by decide)).trans hv1421))
    have x1442 := HI.eqI hI1397 (p := 116) (b := 0) (((hF1398.1 116 0 (by decide)).trans hv1423))
    have x1443 := HI.eqI hI1397 (p := 116) (b := 12) (((hF1398.1 116 12 (by decide)).trans hv1425))
    have x1444 := HI.eqI hI1397 (p := 116) (b := 10) (((hF1398.1 116 10 (by decide)).trans hv1427))
    have x1445 := HI.eqI hI1397 (p := 116) (b := 11) (((hF1398.1 116 11 (by decide)).trans hv1429))
    have x1446 := HI.eqI hI1397 (p := 116) (b := 4) (((hF1398.1 116 4 (by decide)).trans hv1431))
    have x1447 := HI.eqA hI1397 (p := 173) (j := 0) (((eA_c (hF1398.2.1 173 (by decide))).trans hv1433))
    have x1448 := HI.eqA hI1397 (p := 173) (j := 1) (((eA_c (hF1398.2.1 173 (by decide))).trans hv1435))
    exact ⟨_, rfl, hI1397, hF1401, _, rfl, by omega, ⟨⟨by omega, by omega, by omega, by omega, by omega⟩, (by intro i i0 i1; refine Eq.trans ?_ (if_neg (show ¬ (a1.toInt = 0) from by omega)).symm; refine (eA_ti ((hF1398.2.1 60 (by decide)))).trans ?_; (first | rfl | exact eA_ix (by omega) | omega)), (by intro i i0 i1; refine Eq.trans ?_ (if_neg (show ¬ (a1.toInt = 0) from by omega)).symm; refine (eA_ti ((hF1398.2.1 61 (by decide)))).trans ?_; (first | rfl | exact eA_ix (by omega) | omega)), (by intro i i0 i1; refine Eq.trans ?_ (if_neg (show ¬ (a1.toInt = 0) from by omega)).symm; refine (eA_ti ((hF1398.2.1 62 (by decide)))).trans ?_; (first | rfl | exact eA_ix (by omega) | omega)), (by intro i i0 i1; refine Eq.trans ?_ (if_neg (show ¬ (a1.toInt = 0) from by omega)).symm; refine (eA_ti ((hF1398.2.1 72 (by decide)))).trans ?_; (first | rfl | exact eA_ix (by omega) | omega)), (by intro i i0 i1; refine Eq.trans ?_ (if_neg (show ¬ (a1.toInt = 0) from by omega)).symm; refine (eA_ti ((hF1398.2.1 73 (by decide)))).trans ?_; (first | rfl | exact eA_ix (by omega) | omega)), (by intro i i0 i1; refine Eq.trans ?_ (if_neg (show ¬ (a1.toInt = 1) from by omega)).symm; refine (eA_ti ((hF1398.2.1 117 (by decide)))).trans ?_; (first | rfl | exact eA_ix (by omega) | omega)), (by intro i i0 i1; refine Eq.trans ?_ (if_neg (show ¬ (a1.toInt = 1) from by omega)).symm; refine (eA_ti ((hF1398.2.1 118 (by decide)))).trans ?_; (first | rfl | exact eA_ix (by omega) | omega)), (by intro i i0 i1; refine Eq.trans ?_ (if_neg (show ¬ (a1.toInt = 1) from by omega)).symm; refine (eA_ti ((hF1398.2.1 119 (by decide)))).trans ?_; (first | rfl | exact eA_ix (by omega) | omega)), (by intro i i0 i1; refine Eq.trans ?_ (if_neg (show ¬ (a1.toInt = 1) from by omega)).symm; refine (eA_ti ((hF1398.2.1 129 (by decide)))).trans ?_; (first | rfl | exact eA_ix (by omega) | omega)), (by intro i i0 i1; refine Eq.trans ?_ (if_neg (show ¬ (a1.toInt = 1) from by omega)).symm; refine (eA_ti ((hF1398.2.1 130 (by decide)))).trans ?_; (first | rfl | exact eA_ix (by omega) | omega)), (by intro i i0 i1; refine Eq.trans ?_ (if_neg (show ¬ (a1.toInt = 0) from by omega)).symm; refine (eA_ti ((hF1398.2.1 63 (by decide)))).trans ?_; (first | rfl | exact eA_ix (by omega) | omega)), (by intro i i0 i1; refine Eq.trans ?_ (if_neg (show ¬ (a1.toInt = 1) from by omega)).symm; refine (eA_ti ((hF1398.2.1 120 (by decide)))).trans ?_; (first | rfl | exact eA_ix (by omega) | omega))⟩⟩
  · have c1395_ : a1.toInt ≥ 0 := en_i_lt_f c1395
    refine At.enter rfl ?_
    refine r_iload_n rfl ?_
    refine r_iload_n rfl ?_
    refine r_ics 10 rfl (fun c1449 => ?_) (fun c1449 => ?_)
    · have c1449_ : a1.toInt > 1 := en_i_gt_t c1449
      refine At.enter rfl ?_
      refine r_iconst 0 rfl ?_
      refine Ar.fall 15 rfl ?_
      refine At.enter rfl ?_
      refine q_iretz (by decide) ?_
      refine At.enter rfl ?_
      refine r_ift (by decide) ?_
      refine At.enter rfl ?_
      refine r_null ?_
      refine Ar.fall 19 rfl ?_
      refine At.enter rfl ?_
      refine q_zret ?_
      refine At.enter rfl ?_
      refine r_zstore_n ([(2, .null), (0, .ref 0), (1, .int a1)]) rfl ?_
      refine r_zload_n rfl ?_
      refine r_nnz 10 rfl ?_
      refine At.enter rfl ?_
      refine r_aload_n rfl ?_
      refine r_iconst (-1) rfl ?_
      refine r_callV 15 rfl [.ref 0, .int (-1)] [] (Nat.le_of_ble_eq_true rfl) rfl (T_X10_refused_0 _ hI0 (-1) (by decide)) ?_
      rintro _ _ ⟨g1450, rfl, hI1451, hF1452, v1453, rfl, hr1454⟩
      refine At.sti ?_
      have hF1455 := Fr.tr hF0 hF1452 rfl rfl
      have zv1456 : ((-1) : Int32).toInt = (-1) := rfl
      refine At.enter rfl ?_
      refine r_ireti ?_
      obtain ⟨v1457, hv1457⟩ : ∃ v, gI g0 1 0 = v := ⟨_, rfl⟩
      have rv1457 := RgF.at hI0.2.1 (p := 1) (b := 0) rfl
      rw [hv1457] at rv1457
      dsimp only at rv1457
      have tv1457 := congrArg Int32.toInt hv1457
      have x1458 := HI.eqI hI0 (p := 1) (b := 0) (hv1457)
      obtain ⟨v1459, hv1459⟩ : ∃ v, gI g0 1 12 = v := ⟨_, rfl⟩
      have rv1459 := RgF.at hI0.2.1 (p := 1) (b := 12) rfl
      rw [hv1459] at rv1459
      dsimp only at rv1459
      have tv1459 := congrArg Int32.toInt hv1459
      have x1460 := HI.eqI hI0 (p := 1) (b := 12) (hv1459)
      obtain ⟨v1461, hv1461⟩ : ∃ v, gI g0 1 10 = v := ⟨_, rfl⟩
      have tv1461 := congrArg Int32.toInt hv1461
      have x1462 := HI.eqI hI0 (p := 1) (b := 10) (hv1461)
      obtain ⟨v1463, hv1463⟩ : ∃ v, gI g0 1 11 = v := ⟨_, rfl⟩
      have tv1463 := congrArg Int32.toInt hv1463
      have x1464 := HI.eqI hI0 (p := 1) (b := 11) (hv1463)
      obtain ⟨v1465, hv1465⟩ : ∃ v, gI g0 1 4 = v := ⟨_, rfl⟩
      have rv1465 := RgF.at hI0.2.1 (p := 1) (b := 4) rfl
      rw [hv1465] at rv1465
      dsimp only at rv1465
      have tv1465 := congrArg Int32.toInt hv1465
      have x1466 := HI.eqI hI0 (p := 1) (b := 4) (hv1465)
      obtain ⟨v1467, hv1467⟩ : ∃ v, gI g0 59 0 = v := ⟨_, rfl⟩
      have rv1467 := RgF.at hI0.2.1 (p := 59) (b := 0) rfl
      rw [hv1467] at rv1467
      dsimp only at rv1467
      have tv1467 := congrArg Int32.toInt hv1467
      have x1468 := HI.eqI hI0 (p := 59) (b := 0) (hv1467)
      obtain ⟨v1469, hv1469⟩ : ∃ v, gI g0 59 12 = v := ⟨_, rfl⟩
      have rv1469 := RgF.at hI0.2.1 (p := 59) (b := 12) rfl
      rw [hv1469] at rv1469
      dsimp only at rv1469
      have tv1469 := congrArg Int32.toInt hv1469
      have x1470 := HI.eqI hI0 (p := 59) (b := 12) (hv1469)
      obtain ⟨v1471, hv1471⟩ : ∃ v, gI g0 59 10 = v := ⟨_, rfl⟩
      have tv1471 := congrArg Int32.toInt hv1471
      have x1472 := HI.eqI hI0 (p := 59) (b := 10) (hv1471)
      obtain ⟨v1473, hv1473⟩ : ∃ v, gI g0 59 11 = v := ⟨_, rfl⟩
      have tv1473 := congrArg Int32.toInt hv1473
      have x1474 := HI.eqI hI0 (p := 59) (b := 11) (hv1473)
      obtain ⟨v1475, hv1475⟩ : ∃ v, gI g0 59 4 = v := ⟨_, rfl⟩
      have rv1475 := RgF.at hI0.2.1 (p := 59) (b := 4) rfl
      rw [hv1475] at rv1475
      dsimp only at rv1475
      have tv1475 := congrArg Int32.toInt hv1475
      have x1476 := HI.eqI hI0 (p := 59) (b := 4) (hv1475)
      obtain ⟨v1477, hv1477⟩ : ∃ v, gI g0 116 0 = v := ⟨_, rfl⟩
      have rv1477 := RgF.at hI0.2.1 (p := 116) (b := 0) rfl
      rw [hv1477] at rv1477
      dsimp only at rv1477
      have tv1477 := congrArg Int32.toInt hv1477
      have x1478 := HI.eqI hI0 (p := 116) (b := 0) (hv1477)
      obtain ⟨v1479, hv1479⟩ : ∃ v, gI g0 116 12 = v := ⟨_, rfl⟩
      have rv1479 := RgF.at hI0.2.1 (p := 116) (b := 12) rfl
      rw [hv1479] at rv1479
      dsimp only at rv1479
      have tv1479 := congrArg Int32.toInt hv1479
      have x1480 := HI.eqI hI0 (p := 116) (b := 12) (hv1479)
      obtain ⟨v1481, hv1481⟩ : ∃ v, gI g0 116 10 = v := ⟨_, rfl⟩
      have tv1481 := congrArg Int32.toInt hv1481
      have x1482 := HI.eqI hI0 (p := 116) (b := 10) (hv1481)
      obtain ⟨v1483, hv1483⟩ : ∃ v, gI g0 116 11 = v := ⟨_, rfl⟩
      have tv1483 := congrArg Int32.toInt hv1483
      have x1484 := HI.eqI hI0 (p := 116) (b := 11) (hv1483)
      obtain ⟨v1485, hv1485⟩ : ∃ v, gI g0 116 4 = v := ⟨_, rfl⟩
      have rv1485 := RgF.at hI0.2.1 (p := 116) (b := 4) rfl
      rw [hv1485] at rv1485
      dsimp only at rv1485
      have tv1485 := congrArg Int32.toInt hv1485
      have x1486 := HI.eqI hI0 (p := 116) (b := 4) (hv1485)
      obtain ⟨v1487, hv1487⟩ : ∃ v, eA g0 173 0 = v := ⟨_, rfl⟩
      have tv1487 := congrArg Int32.toInt hv1487
      have x1488 := HI.eqA hI0 (p := 173) (j := 0) (hv1487)
      obtain ⟨v1489, hv1489⟩ : ∃ v, eA g0 173 1 = v := ⟨_, rfl⟩
      have tv1489 := congrArg Int32.toInt hv1489
      have x1490 := HI.eqA hI0 (p := 173) (j := 1) (hv1489)
      have x1491 := HI.eqI hI1451 (p := 59) (b := 0) (((hF1452.1 59 0 (by decide)).trans hv1467))
      have x1492 := HI.eqI hI1451 (p := 59) (b := 12) (((hF1452.1 59 12 (by decide)).trans hv1469))
      have x1493 := HI.eqI hI1451 (p := 59) (b := 10) (((hF1452.1 59 10 (by decide)).trans hv1471))
      have x1494 := HI.eqI hI1451 (p := 59) (b := 11) (((hF1452.1 59 11 (by decide)).trans hv1473))
      have x1495 := HI.eqI hI1451 (p := 59) (b := 4) (((hF1452.1 59 4 (by decide)).trans hv1475))
      have x1496 := HI.eqI hI1451 (p := 116) (b := 0) (((hF1452.1 116 0 (by decide)).trans hv1477))
      have x1497 := HI.eqI hI1451 (p := 116) (b := 12) (((hF1452.1 116 12 (by decide)).trans hv1479))
      have x1498 := HI.eqI hI1451 (p := 116) (b := 10) (((hF1452.1 116 10 (by decide)).trans hv1481))
      have x1499 := HI.eqI hI1451 (p := 116) (b := 11) (((hF1452.1 116 11 (by decide)).trans hv1483))
      have x1500 := HI.eqI hI1451 (p := 116) (b := 4) (((hF1452.1 116 4 (by decide)).trans hv1485))
      have x1501 := HI.eqA hI1451 (p := 173) (j := 0) (((eA_c (hF1452.2.1 173 (by decide))).trans hv1487))
      have x1502 := HI.eqA hI1451 (p := 173) (j := 1) (((eA_c (hF1452.2.1 173 (by decide))).trans hv1489))
      exact ⟨_, rfl, hI1451, hF1455, _, rfl, by omega, ⟨⟨by omega, by omega, by omega, by omega, by omega⟩, (by intro i i0 i1; refine Eq.trans ?_ (if_neg (show ¬ (a1.toInt = 0) from by omega)).symm; refine (eA_ti ((hF1452.2.1 60 (by decide)))).trans ?_; (first | rfl | exact eA_ix (by omega) | omega)), (by intro i i0 i1; refine Eq.trans ?_ (if_neg (show ¬ (a1.toInt = 0) from by omega)).symm; refine (eA_ti ((hF1452.2.1 61 (by decide)))).trans ?_; (first | rfl | exact eA_ix (by omega) | omega)), (by intro i i0 i1; refine Eq.trans ?_ (if_neg (show ¬ (a1.toInt = 0) from by omega)).symm; refine (eA_ti ((hF1452.2.1 62 (by decide)))).trans ?_; (first | rfl | exact eA_ix (by omega) | omega)), (by intro i i0 i1; refine Eq.trans ?_ (if_neg (show ¬ (a1.toInt = 0) from by omega)).symm; refine (eA_ti ((hF1452.2.1 72 (by decide)))).trans ?_; (first | rfl | exact eA_ix (by omega) | omega)), (by intro i i0 i1; refine Eq.trans ?_ (if_neg (show ¬ (a1.toInt = 0) from by omega)).symm; refine (eA_ti ((hF1452.2.1 73 (by decide)))).trans ?_; (first | rfl | exact eA_ix (by omega) | omega)), (by intro i i0 i1; refine Eq.trans ?_ (if_neg (show ¬ (a1.toInt = 1) from by omega)).symm; refine (eA_ti ((hF1452.2.1 117 (by decide)))).trans ?_; (first | rfl | exact eA_ix (by omega) | omega)), (by intro i i0 i1; refine Eq.trans ?_ (if_neg (show ¬ (a1.toInt = 1) from by omega)).symm; refine (eA_ti ((hF1452.2.1 118 (by decide)))).trans ?_; (first | rfl | exact eA_ix (by omega) | omega)), (by intro i i0 i1; refine Eq.trans ?_ (if_neg (show ¬ (a1.toInt = 1) from by omega)).symm; refine (eA_ti ((hF1452.2.1 119 (by decide)))).trans ?_; (first | rfl | exact eA_ix (by omega) | omega)), (by intro i i0 i1; refine Eq.trans ?_ (if_neg (show ¬ (a1.toInt = 1) from by omega)).symm; refine (eA_ti ((hF1452.2.1 129 (by decide)))).trans ?_; (first | rfl | exact eA_ix (by omega) | omega)), (by intro i i0 i1; refine Eq.trans ?_ (if_neg (show ¬ (a1.toInt = 1) from by omega)).symm; refine (eA_ti ((hF1452.2.1 130 (by decide)))).trans ?_; (first | rfl | exact eA_ix (by omega) | omega)), (by intro i i0 i1; refine Eq.trans ?_ (if_neg (show ¬ (a1.toInt = 0) from by omega)).symm; refine (eA_ti ((hF1452.2.1 63 (by decide)))).trans ?_; (first | rfl | exact eA_ix (by omega) | omega)), (by intro i i0 i1; refine Eq.trans ?_ (if_neg (show ¬ (a1.toInt = 1) from by omega)).symm; refine (eA_ti ((hF1452.2.1 120 (by decide)))).trans ?_; (first | rfl | exact eA_ix (by omega) | omega))⟩⟩
    · have c1449_ : a1.toInt ≤ 1 := en_i_gt_f c1449
      refine At.enter rfl ?_
      refine r_iconst 1 rfl ?_
      refine r_goto ?_
      refine At.enter rfl ?_
      refine q_iretz (by decide) ?_
      refine At.enter rfl ?_
      refine r_iff 9 rfl (by decide) ?_
      refine At.enter rfl ?_
      refine r_aload_n rfl ?_
      refine q_getR (Sh.ref hI0.1 kx_0 rfl) ?_
      refine r_iload_n rfl ?_
      by_cases c1503_0 : a1.toInt = 0
      · refine q_aald (Sh.rar hI0.1 ka_58) (by decide) 0 (by omega) (by decide) (some 59) rfl ?_
        refine r_goto ?_
        refine At.enter rfl ?_
        refine q_aret ?_
        refine At.enter rfl ?_
        refine r_astore_n ([(2, .ref 59), (0, .ref 0), (1, .int a1)]) rfl ?_
        refine r_aload_n rfl ?_
        refine r_nnr ?_
        refine At.enter rfl ?_
        refine r_aload_n rfl ?_
        refine r_aload_n rfl ?_
        refine q_getR (Sh.ref hI0.1 kx_0 rfl) ?_
        refine q_inlV 24 rfl [.ref 59, .ref 1] [] (Nat.le_of_ble_eq_true rfl) rfl ?_
        refine Ev.mk rfl rfl ⟨Nat.le_of_ble_eq_true rfl, Or.inr (q_rc hI0.1 kx_59 rfl)⟩ ?_
        show At _ none _ _ (0, [(0, .ref 59), (1, .ref 1)], [], (_, _)) _
        refine At.enter rfl ?_
        refine r_aload_n rfl ?_
        refine r_aload_n rfl ?_
        obtain ⟨v1504, hv1504⟩ : ∃ v, gI g0 1 0 = v := ⟨_, rfl⟩
        have rv1504 := RgF.at hI0.2.1 (p := 1) (b := 0) rfl
        rw [hv1504] at rv1504
        dsimp only at rv1504
        refine q_getI (Sh.int hI0.1 kx_1 rfl) v1504 hv1504 ?_
        refine q_putI (Sh.int hI0.1 kx_59 rfl) rfl ?_
        have hI1505 := HI.wI1 hI0 kx_59 rfl (p := 59) (b := 0) (v := v1504) rfl (by dsimp only; omega)
        have hF1506 := Fr.wI (p := 59) (b := 0) (v := v1504) hF0 rfl
        refine r_aload_n rfl ?_
        refine q_getR (Sh.ref hI1505.1 kx_1 rfl) ?_
        refine r_iconst 0 rfl ?_
        refine r_aload_n rfl ?_
        refine q_getR (Sh.ref hI1505.1 kx_59 rfl) ?_
        refine r_iconst 0 rfl ?_
        refine r_bipush 12 rfl ?_
        have zv1507 : (0 : Int32).toInt = 0 := rfl
        have zv1508 : (0 : Int32).toInt = 0 := rfl
        have zv1509 : (12 : Int32).toInt = 12 := rfl
        refine q_cpy rfl (Nat.le_of_ble_eq_true rfl) (Sh.arr hI1505.1 ka_2) (Sh.arr hI1505.1 ka_60) ⟨by omega, by omega, by omega, by omega, by omega⟩ ?_
        have hI1510 := HI.cpy0 hI1505 ka_2 ka_60 rfl rfl ((0 : Int32).toInt.toNat) ((0 : Int32).toInt.toNat) ((12 : Int32).toInt.toNat) (by omega) (by omega)
        have hF1511 := Fr.cpy (p0 := 2) (p1 := 60) hF1506 rfl ((0 : Int32).toInt.toNat) ((0 : Int32).toInt.toNat) ((12 : Int32).toInt.toNat)
        refine r_aload_n rfl ?_
        refine q_getR (Sh.ref hI1510.1 kx_1 rfl) ?_
        refine r_iconst 0 rfl ?_
        refine r_aload_n rfl ?_
        refine q_getR (Sh.ref hI1510.1 kx_59 rfl) ?_
        refine r_iconst 0 rfl ?_
        refine r_bipush 12 rfl ?_
        have zv1512 : (0 : Int32).toInt = 0 := rfl
        have zv1513 : (0 : Int32).toInt = 0 := rfl
        have zv1514 : (12 : Int32).toInt = 12 := rfl
        refine q_cpy rfl (Nat.le_of_ble_eq_true rfl) (Sh.arr hI1510.1 ka_3) (Sh.arr hI1510.1 ka_61) ⟨by omega, by omega, by omega, by omega, by omega⟩ ?_
        have hI1515 := HI.cpy0 hI1510 ka_3 ka_61 rfl rfl ((0 : Int32).toInt.toNat) ((0 : Int32).toInt.toNat) ((12 : Int32).toInt.toNat) (by omega) (by omega)
        have hF1516 := Fr.cpy (p0 := 3) (p1 := 61) hF1511 rfl ((0 : Int32).toInt.toNat) ((0 : Int32).toInt.toNat) ((12 : Int32).toInt.toNat)
        refine r_aload_n rfl ?_
        refine q_getR (Sh.ref hI1515.1 kx_1 rfl) ?_
        refine r_iconst 0 rfl ?_
        refine r_aload_n rfl ?_
        refine q_getR (Sh.ref hI1515.1 kx_59 rfl) ?_
        refine r_iconst 0 rfl ?_
        refine r_bipush 12 rfl ?_
        have zv1517 : (0 : Int32).toInt = 0 := rfl
        have zv1518 : (0 : Int32).toInt = 0 := rfl
        have zv1519 : (12 : Int32).toInt = 12 := rfl
        refine q_cpy rfl (Nat.le_of_ble_eq_true rfl) (Sh.arr hI1515.1 ka_4) (Sh.arr hI1515.1 ka_62) ⟨by omega, by omega, by omega, by omega, by omega⟩ ?_
        have hI1520 := HI.cpy0 hI1515 ka_4 ka_62 rfl rfl ((0 : Int32).toInt.toNat) ((0 : Int32).toInt.toNat) ((12 : Int32).toInt.toNat) (by omega) (by omega)
        have hF1521 := Fr.cpy (p0 := 4) (p1 := 62) hF1516 rfl ((0 : Int32).toInt.toNat) ((0 : Int32).toInt.toNat) ((12 : Int32).toInt.toNat)
        refine r_aload_n rfl ?_
        refine r_aload_n rfl ?_
        obtain ⟨v1522, hv1522⟩ : ∃ v, gI g0 1 4 = v := ⟨_, rfl⟩
        have rv1522 := RgF.at hI0.2.1 (p := 1) (b := 4) rfl
        rw [hv1522] at rv1522
        dsimp only at rv1522
        refine q_getI (Sh.int hI1520.1 kx_1 rfl) v1522 (((gI_sW).trans ((gI_sW).trans ((gI_sW).trans (gI_sI_ne (by decide))))).trans hv1522) ?_
        refine q_putI (Sh.int hI1520.1 kx_59 rfl) rfl ?_
        have hI1523 := HI.wI1 hI1520 kx_59 rfl (p := 59) (b := 4) (v := v1522) rfl (by dsimp only; omega)
        have hF1524 := Fr.wI (p := 59) (b := 4) (v := v1522) hF1521 rfl
        refine r_aload_n rfl ?_
        refine q_getR (Sh.ref hI1523.1 kx_1 rfl) ?_
        refine r_iconst 0 rfl ?_
        refine r_aload_n rfl ?_
        refine q_getR (Sh.ref hI1523.1 kx_59 rfl) ?_
        refine r_iconst 0 rfl ?_
        refine r_bipush 48 rfl ?_
        have zv1525 : (0 : Int32).toInt = 0 := rfl
        have zv1526 : (0 : Int32).toInt = 0 := rfl
        have zv1527 : (48 : Int32).toInt = 48 := rfl
        refine q_cpy rfl (Nat.le_of_ble_eq_true rfl) (Sh.arr hI1523.1 ka_5) (Sh.arr hI1523.1 ka_63) ⟨by omega, by omega, by omega, by omega, by omega⟩ ?_
        have hI1528 := HI.cpy0 hI1523 ka_5 ka_63 rfl rfl ((0 : Int32).toInt.toNat) ((0 : Int32).toInt.toNat) ((48 : Int32).toInt.toNat) (by omega) (by omega)
        have hF1529 := Fr.cpy (p0 := 5) (p1 := 63) hF1524 rfl ((0 : Int32).toInt.toNat) ((0 : Int32).toInt.toNat) ((48 : Int32).toInt.toNat)
        refine r_aload_n rfl ?_
        refine r_aload_n rfl ?_
        obtain ⟨v1530, hv1530⟩ : ∃ v, gI g0 1 6 = v := ⟨_, rfl⟩
        have rv1530 := RgF.at hI0.2.1 (p := 1) (b := 6) rfl
        rw [hv1530] at rv1530
        dsimp only at rv1530
        refine q_getI (Sh.int hI1528.1 kx_1 rfl) v1530 (((gI_sW).trans ((gI_sI_ne (by decide)).trans ((gI_sW).trans ((gI_sW).trans ((gI_sW).trans (gI_sI_ne (by decide))))))).trans hv1530) ?_
        refine q_putI (Sh.int hI1528.1 kx_59 rfl) rfl ?_
        have hI1531 := HI.wI1 hI1528 kx_59 rfl (p := 59) (b := 6) (v := v1530) rfl (by dsimp only; omega)
        have hF1532 := Fr.wI (p := 59) (b := 6) (v := v1530) hF1529 rfl
        refine r_iconst 0 rfl ?_
        refine r_istore_n ([(2, .int 0), (0, .ref 59), (1, .ref 1)]) rfl ?_
        refine Ar.fall 86 rfl ?_
        obtain ⟨v1533, hv1533⟩ : ∃ v, gI g0 59 10 = v := ⟨_, rfl⟩
        have tv1533 := congrArg Int32.toInt hv1533
        obtain ⟨v1534, hv1534⟩ : ∃ v, gI g0 59 11 = v := ⟨_, rfl⟩
        have tv1534 := congrArg Int32.toInt hv1534
        obtain ⟨v1535, hv1535⟩ : ∃ v, gI g0 59 12 = v := ⟨_, rfl⟩
        have rv1535 := RgF.at hI0.2.1 (p := 59) (b := 12) rfl
        rw [hv1535] at rv1535
        dsimp only at rv1535
        have tv1535 := congrArg Int32.toInt hv1535
        obtain ⟨v1536, hv1536⟩ : ∃ v, gI g0 116 0 = v := ⟨_, rfl⟩
        have rv1536 := RgF.at hI0.2.1 (p := 116) (b := 0) rfl
        rw [hv1536] at rv1536
        dsimp only at rv1536
        have tv1536 := congrArg Int32.toInt hv1536
        obtain ⟨v1537, hv1537⟩ : ∃ v, gI g0 116 10 = v := ⟨_, rfl⟩
        have tv1537 := congrArg Int32.toInt hv1537
        obtain ⟨v1538, hv1538⟩ : ∃ v, gI g0 116 11 = v := ⟨_, rfl⟩
        have tv1538 := congrArg Int32.toInt hv1538
        obtain ⟨v1539, hv1539⟩ : ∃ v, gI g0 116 12 = v := ⟨_, rfl⟩
        have rv1539 := RgF.at hI0.2.1 (p := 116) (b := 12) rfl
        rw [hv1539] at rv1539
        dsimp only at rv1539
        have tv1539 := congrArg Int32.toInt hv1539
        obtain ⟨v1540, hv1540⟩ : ∃ v, gI g0 116 4 = v := ⟨_, rfl⟩
        have rv1540 := RgF.at hI0.2.1 (p := 116) (b := 4) rfl
        rw [hv1540] at rv1540
        dsimp only at rv1540
        have tv1540 := congrArg Int32.toInt hv1540
        obtain ⟨v1541, hv1541⟩ : ∃ v, eA g0 173 0 = v := ⟨_, rfl⟩
        have tv1541 := congrArg Int32.toInt hv1541
        obtain ⟨v1542, hv1542⟩ : ∃ v, eA g0 173 1 = v := ⟨_, rfl⟩
        have tv1542 := congrArg Int32.toInt hv1542
        have z_1784 : (0 : Int32).toInt = 0 := rfl
        refine w_loopI (fun n_ l_ g_ => ∃ x1749 : Int32, n_ = 6 - x1749.toInt ∧ HI g_ ∧ Fr F_X10_image_0 A_X10_image_0 g0 g_ ∧ gI g_ 59 0 = v1504 ∧ gI g_ 59 10 = v1533 ∧ gI g_ 59 11 = v1534 ∧ gI g_ 59 12 = v1535 ∧ gI g_ 59 4 = v1522 ∧ gI g_ 116 0 = v1536 ∧ gI g_ 116 10 = v1537 ∧ gI g_ 116 11 = v1538 ∧ gI g_ 116 12 = v1539 ∧ gI g_ 116 4 = v1540 ∧ eA g_ 173 0 = v1541 ∧ eA g_ 173 1 = v1542 ∧ en_get 0 l_ = some (.ref 59) ∧ en_get 1 l_ = some (.ref 1) ∧ en_get 2 l_ = some (.int x1749) ∧ (0 ≤ x1749.toInt ∧ x1749.toInt ≤ 6) ∧ (∀ i : Int, 0 ≤ i → i < 12 → (eA g_ 60 (i)).toInt = (eA g0 2 (i)).toInt) ∧ (∀ i : Int, 0 ≤ i → i < 12 → (eA g_ 61 (i)).toInt = (eA g0 3 (i)).toInt) ∧ (∀ i : Int, 0 ≤ i → i < 12 → (eA g_ 62 (i)).toInt = (eA g0 4 (i)).toInt) ∧ (∀ i : Int, 0 ≤ i → i < 8 → (eA g_ 72 (i)).toInt = (eA g0 72 (i)).toInt) ∧ (∀ i : Int, 0 ≤ i → i < 8 → (eA g_ 73 (i)).toInt = (eA g0 73 (i)).toInt) ∧ (∀ i : Int, 0 ≤ i → i < 12 → (eA g_ 117 (i)).toInt = (eA g0 117 (i)).toInt) ∧ (∀ i : Int, 0 ≤ i → i < 12 → (eA g_ 118 (i)).toInt = (eA g0 118 (i)).toInt) ∧ (∀ i : Int, 0 ≤ i → i < 12 → (eA g_ 119 (i)).toInt = (eA g0 119 (i)).toInt) ∧ (∀ i : Int, 0 ≤ i → i < 8 → (eA g_ 129 (i)).toInt = (eA g0 129 (i)).toInt) ∧ (∀ i : Int, 0 ≤ i → i < 8 → (eA g_ 130 (i)).toInt = (eA g0 130 (i)).toInt) ∧ (∀ i : Int, 0 ≤ i → i < 48 → (eA g_ 63 (i)).toInt = (eA g0 5 (i)).toInt) ∧ (∀ i : Int, 0 ≤ i → i < 48 → (eA g_ 120 (i)).toInt = (eA g0 120 (i)).toInt)) ?_ (6 - 0) ⟨0, by first | rfl | omega, hI1531, hF1532, ((gI_sI_ne (by decide)).trans ((gI_sW).trans ((gI_sI_ne (by decide)).trans ((gI_sW).trans ((gI_sW).trans ((gI_sW).trans (gI_sI_eq hI0.1 kx_59 rfl _))))))), (((gI_sI_ne (by decide)).trans ((gI_sW).trans ((gI_sI_ne (by decide)).trans ((gI_sW).trans ((gI_sW).trans ((gI_sW).trans (gI_sI_ne (by decide)))))))).trans hv1533), (((gI_sI_ne (by decide)).trans ((gI_sW).trans ((gI_sI_ne (by decide)).trans ((gI_sW).trans ((gI_sW).trans ((gI_sW).trans (gI_sI_ne (by decide)))))))).trans hv1534), (((gI_sI_ne (by decide)).trans ((gI_sW).trans ((gI_sI_ne (by decide)).trans ((gI_sW).trans ((gI_sW).trans ((gI_sW).trans (gI_sI_ne (by decide)))))))).trans hv1535), ((gI_sI_ne (by decide)).trans ((gI_sW).trans (gI_sI_eq hI1520.1 kx_59 rfl _))), (((gI_sI_ne (by decide)).trans ((gI_sW).trans ((gI_sI_ne (by decide)).trans ((gI_sW).trans ((gI_sW).trans ((gI_sW).trans (gI_sI_ne (by decide)))))))).trans hv1536), (((gI_sI_ne (by decide)).trans ((gI_sW).trans ((gI_sI_ne (by decide)).trans ((gI_sW).trans ((gI_sW).trans ((gI_sW).trans (gI_sI_ne (by decide)))))))).trans hv1537), (((gI_sI_ne (by decide)).trans ((gI_sW).trans ((gI_sI_ne (by decide)).trans ((gI_sW).trans ((gI_sW).trans ((gI_sW).trans (gI_sI_ne (by decide)))))))).trans hv1538), (((gI_sI_ne (by decide)).trans ((gI_sW).trans ((gI_sI_ne (by decide)).trans ((gI_sW).trans ((gI_sW).trans ((gI_sW).trans (gI_sI_ne (by decide)))))))).trans hv1539), (((gI_sI_ne (by decide)).trans ((gI_sW).trans ((gI_sI_ne (by decide)).trans ((gI_sW).trans ((gI_sW).trans ((gI_sW).trans (gI_sI_ne (by decide)))))))).trans hv1540), (((eA_c gA_sI).trans ((eA_c (gA_sW_ne (by decide))).trans ((eA_c gA_sI).trans ((eA_c (gA_sW_ne (by decide))).trans ((eA_c (gA_sW_ne (by decide))).trans ((eA_c (gA_sW_ne (by decide))).trans (eA_c gA_sI))))))).trans hv1541), (((eA_c gA_sI).trans ((eA_c (gA_sW_ne (by decide))).trans ((eA_c gA_sI).trans ((eA_c (gA_sW_ne (by decide))).trans ((eA_c (gA_sW_ne (by decide))).trans ((eA_c (gA_sW_ne (by decide))).trans (eA_c gA_sI))))))).trans hv1542), rfl, rfl, rfl, by decide, (by intro i i0 i1; refine (eA_tq (((gA_sI).trans ((gA_sW_ne (by decide)).trans ((gA_sI).trans ((gA_sW_ne (by decide)).trans ((gA_sW_ne (by decide)).trans ((gA_cpF hI1505.1 ka_2 ka_60 (by decide) (by decide) (by decide)).trans (gA_sI))))))))).trans ?_; (first | rfl | exact eA_ix (by omega) | omega)), (by intro i i0 i1; refine (eA_tq (((gA_sI).trans ((gA_sW_ne (by decide)).trans ((gA_sI).trans ((gA_sW_ne (by decide)).trans ((gA_cpF hI1510.1 ka_3 ka_61 (by decide) (by decide) (by decide)).trans ((gA_sW_ne (by decide)).trans (gA_sI))))))))).trans ?_; (first | rfl | exact eA_ix (by omega) | omega)), (by intro i i0 i1; refine (eA_tq (((gA_sI).trans ((gA_sW_ne (by decide)).trans ((gA_sI).trans ((gA_cpF hI1515.1 ka_4 ka_62 (by decide) (by decide) (by decide)).trans ((gA_sW_ne (by decide)).trans ((gA_sW_ne (by decide)).trans (gA_sI))))))))).trans ?_; (first | rfl | exact eA_ix (by omega) | omega)), (by intro i i0 i1; refine (eA_ti (((gA_sI).trans ((gA_sW_ne (by decide)).trans ((gA_sI).trans ((gA_sW_ne (by decide)).trans ((gA_sW_ne (by decide)).trans ((gA_sW_ne (by decide)).trans (gA_sI))))))))).trans ?_; (first | rfl | exact eA_ix (by omega) | omega)), (by intro i i0 i1; refine (eA_ti (((gA_sI).trans ((gA_sW_ne (by decide)).trans ((gA_sI).trans ((gA_sW_ne (by decide)).trans ((gA_sW_ne (by decide)).trans ((gA_sW_ne (by decide)).trans (gA_sI))))))))).trans ?_; (first | rfl | exact eA_ix (by omega) | omega)), (by intro i i0 i1; refine (eA_ti (((gA_sI).trans ((gA_sW_ne (by decide)).trans ((gA_sI).trans ((gA_sW_ne (by decide)).trans ((gA_sW_ne (by decide)).trans ((gA_sW_ne (by decide)).trans (gA_sI))))))))).trans ?_; (first | rfl | exact eA_ix (by omega) | omega)), (by intro i i0 i1; refine (eA_ti (((gA_sI).trans ((gA_sW_ne (by decide)).trans ((gA_sI).trans ((gA_sW_ne (by decide)).trans ((gA_sW_ne (by decide)).trans ((gA_sW_ne (by decide)).trans (gA_sI))))))))).trans ?_; (first | rfl | exact eA_ix (by omega) | omega)), (by intro i i0 i1; refine (eA_ti (((gA_sI).trans ((gA_sW_ne (by decide)).trans ((gA_sI).trans ((gA_sW_ne (by decide)).trans ((gA_sW_ne (by decide)).trans ((gA_sW_ne (by decide)).trans (gA_sI))))))))).trans ?_; (first | rfl | exact eA_ix (by omega) | omega)), (by intro i i0 i1; refine (eA_ti (((gA_sI).trans ((gA_sW_ne (by decide)).trans ((gA_sI).trans ((gA_sW_ne (by decide)).trans ((gA_sW_ne (by decide)).trans ((gA_sW_ne (by decide)).trans (gA_sI))))))))).trans ?_; (first | rfl | exact eA_ix (by omega) | omega)), (by intro i i0 i1; refine (eA_ti (((gA_sI).trans ((gA_sW_ne (by decide)).trans ((gA_sI).trans ((gA_sW_ne (by decide)).trans ((gA_sW_ne (by decide)).trans ((gA_sW_ne (by decide)).trans (gA_sI))))))))).trans ?_; (first | rfl | exact eA_ix (by omega) | omega)), (by intro i i0 i1; refine (eA_tq (((gA_sI).trans ((gA_cpF hI1523.1 ka_5 ka_63 (by decide) (by decide) (by decide)).trans ((gA_sI).trans ((gA_sW_ne (by decide)).trans ((gA_sW_ne (by decide)).trans ((gA_sW_ne (by decide)).trans (gA_sI))))))))).trans ?_; (first | rfl | exact eA_ix (by omega) | omega)), (by intro i i0 i1; refine (eA_ti (((gA_sI).trans ((gA_sW_ne (by decide)).trans ((gA_sI).trans ((gA_sW_ne (by decide)).trans ((gA_sW_ne (by decide)).trans ((gA_sW_ne (by decide)).trans (gA_sI))))))))).trans ?_; (first | rfl | exact eA_ix (by omega) | omega))⟩
        rintro n1754 l1753 g1750 ⟨x1749, hm1785, hI1751, hF1752, e1756, e1757, e1758, e1759, e1760, e1761, e1762, e1763, e1764, e1765, e1766, e1767, e1768, e1769, e1770, r1771, q1772, q1773, q1774, q1775, q1776, q1777, q1778, q1779, q1780, q1781, q1782, q1783⟩ ih1755
        have tv1786 := congrArg Int32.toInt e1766
        have tv1787 := congrArg Int32.toInt e1767
        have tv1788 := congrArg Int32.toInt e1756
        have tv1789 := congrArg Int32.toInt e1757
        have tv1790 := congrArg Int32.toInt e1758
        have tv1791 := congrArg Int32.toInt e1759
        have tv1792 := congrArg Int32.toInt e1760
        have tv1793 := congrArg Int32.toInt e1761
        have tv1794 := congrArg Int32.toInt e1762
        have tv1795 := congrArg Int32.toInt e1763
        have tv1796 := congrArg Int32.toInt e1764
        have tv1797 := congrArg Int32.toInt e1765
        refine At.enter rfl ?_
        refine r_iload_n e1770 ?_
        refine r_bipush 6 rfl ?_
        refine r_ics 92 rfl (fun c1798 => ?_) (fun c1798 => ?_)
        · have c1798_ : x1749.toInt ≥ 6 := en_i_ge_t c1798
          refine At.enter rfl ?_
          refine r_aload_n e1768 ?_
          refine r_aload_n e1769 ?_
          obtain ⟨v1799, hv1799⟩ : ∃ v, gI g0 1 9 = v := ⟨_, rfl⟩
          refine q_getI (Sh.int hI1751.1 kx_1 rfl) v1799 ((hF1752.1 1 9 (by decide)).trans hv1799) ?_
          refine q_putI (Sh.int hI1751.1 kx_59 rfl) rfl ?_
          have hI1800 := HI.wI0 hI1751 kx_59 rfl (p := 59) (b := 9) (v := v1799) rfl
          have hF1801 := Fr.wI (p := 59) (b := 9) (v := v1799) hF1752 rfl
          refine r_aload_n e1768 ?_
          refine r_aload_n e1769 ?_
          obtain ⟨v1802, hv1802⟩ : ∃ v, gI g0 1 10 = v := ⟨_, rfl⟩
          refine q_getI (Sh.int hI1800.1 kx_1 rfl) v1802 (((gI_sI_ne (by decide)).trans (hF1752.1 1 10 (by decide))).trans hv1802) ?_
          refine q_putI (Sh.int hI1800.1 kx_59 rfl) rfl ?_
          have hI1803 := HI.wI0 hI1800 kx_59 rfl (p := 59) (b := 10) (v := v1802) rfl
          have hF1804 := Fr.wI (p := 59) (b := 10) (v := v1802) hF1801 rfl
          refine r_aload_n e1768 ?_
          refine r_aload_n e1769 ?_
          obtain ⟨v1805, hv1805⟩ : ∃ v, gI g0 1 11 = v := ⟨_, rfl⟩
          refine q_getI (Sh.int hI1803.1 kx_1 rfl) v1805 (((gI_sI_ne (by decide)).trans ((gI_sI_ne (by decide)).trans (hF1752.1 1 11 (by decide)))).trans hv1805) ?_
          refine q_putI (Sh.int hI1803.1 kx_59 rfl) rfl ?_
          have hI1806 := HI.wI0 hI1803 kx_59 rfl (p := 59) (b := 11) (v := v1805) rfl
          have hF1807 := Fr.wI (p := 59) (b := 11) (v := v1805) hF1804 rfl
          refine r_aload_n e1768 ?_
          refine r_aload_n e1769 ?_
          obtain ⟨v1808, hv1808⟩ : ∃ v, gI g0 1 12 = v := ⟨_, rfl⟩
          have rv1808 := RgF.at hI0.2.1 (p := 1) (b := 12) rfl
          rw [hv1808] at rv1808
          dsimp only at rv1808
          refine q_getI (Sh.int hI1806.1 kx_1 rfl) v1808 (((gI_sI_ne (by decide)).trans ((gI_sI_ne (by decide)).trans ((gI_sI_ne (by decide)).trans (hF1752.1 1 12 (by decide))))).trans hv1808) ?_
          refine q_putI (Sh.int hI1806.1 kx_59 rfl) rfl ?_
          have hI1809 := HI.wI1 hI1806 kx_59 rfl (p := 59) (b := 12) (v := v1808) rfl (by dsimp only; omega)
          have hF1810 := Fr.wI (p := 59) (b := 12) (v := v1808) hF1807 rfl
          refine r_aload_n e1769 ?_
          refine q_getR (Sh.ref hI1809.1 kx_1 rfl) ?_
          refine r_iconst 0 rfl ?_
          refine r_aload_n e1768 ?_
          refine q_getR (Sh.ref hI1809.1 kx_59 rfl) ?_
          refine r_iconst 0 rfl ?_
          refine r_bipush 8 rfl ?_
          have zv1811 : (0 : Int32).toInt = 0 := rfl
          have zv1812 : (0 : Int32).toInt = 0 := rfl
          have zv1813 : (8 : Int32).toInt = 8 := rfl
          refine q_cpy rfl (Nat.le_of_ble_eq_true rfl) (Sh.arr hI1809.1 ka_14) (Sh.arr hI1809.1 ka_72) ⟨by omega, by omega, by omega, by omega, by omega⟩ ?_
          have hI1814 := HI.cpy0 hI1809 ka_14 ka_72 rfl rfl ((0 : Int32).toInt.toNat) ((0 : Int32).toInt.toNat) ((8 : Int32).toInt.toNat) (by omega) (by omega)
          have hF1815 := Fr.cpy (p0 := 14) (p1 := 72) hF1810 rfl ((0 : Int32).toInt.toNat) ((0 : Int32).toInt.toNat) ((8 : Int32).toInt.toNat)
          refine r_aload_n e1769 ?_
          refine q_getR (Sh.ref hI1814.1 kx_1 rfl) ?_
          refine r_iconst 0 rfl ?_
          refine r_aload_n e1768 ?_
          refine q_getR (Sh.ref hI1814.1 kx_59 rfl) ?_
          refine r_iconst 0 rfl ?_
          refine r_bipush 8 rfl ?_
          have zv1816 : (0 : Int32).toInt = 0 := rfl
          have zv1817 : (0 : Int32).toInt = 0 := rfl
          have zv1818 : (8 : Int32).toInt = 8 := rfl
          refine q_cpy rfl (Nat.le_of_ble_eq_true rfl) (Sh.arr hI1814.1 ka_15) (Sh.arr hI1814.1 ka_73) ⟨by omega, by omega, by omega, by omega, by omega⟩ ?_
          have hI1819 := HI.cpy0 hI1814 ka_15 ka_73 rfl rfl ((0 : Int32).toInt.toNat) ((0 : Int32).toInt.toNat) ((8 : Int32).toInt.toNat) (by omega) (by omega)
          have hF1820 := Fr.cpy (p0 := 15) (p1 := 73) hF1815 rfl ((0 : Int32).toInt.toNat) ((0 : Int32).toInt.toNat) ((8 : Int32).toInt.toNat)
          refine q_vret ?_
          refine At.enter rfl ?_
          refine r_aload_n rfl ?_
          refine q_getR (Sh.ref hI1819.1 kx_0 rfl) ?_
          refine r_iload_n rfl ?_
          refine r_iconst 1 rfl ?_
          refine q_bast (Sh.arr hI1819.1 ka_173) (a1.toInt) rfl (by omega) rfl ?_
          have hI1821 := HI.wA0 hI1819 ka_173 (p := 173) rfl rfl (a1.toInt) (1)
          have hF1822 := Fr.wA (p := 173) (j := a1.toInt) (v := 1) hF1820 rfl
          refine r_aload_n rfl ?_
          refine r_iconst 0 rfl ?_
          refine q_inlV 36 rfl [.ref 0, .int 0] [] (Nat.le_of_ble_eq_true rfl) rfl ?_
          refine Ev.mk rfl rfl ⟨Nat.le_of_ble_eq_true rfl, Or.inr (q_rc hI1821.1 kx_0 rfl)⟩ ?_
          show At _ none _ _ (0, [(0, .ref 0), (1, .int 0)], [], (_, _)) _
          refine At.enter rfl ?_
          refine r_aload_n rfl ?_
          refine r_iconst 0 rfl ?_
          refine q_putI (Sh.int hI1821.1 kx_0 rfl) rfl ?_
          have hI1823 := HI.wI0 hI1821 kx_0 rfl (p := 0) (b := 17) (v := 0) rfl
          have hF1824 := Fr.wI (p := 0) (b := 17) (v := 0) hF1822 rfl
          refine r_iload_n rfl ?_
          refine q_ireti ?_
          refine At.enter rfl ?_
          refine r_ireti ?_
          have zv1825 : (0 : Int32).toInt = 0 := rfl
          have e : a1.toInt = 0 := by omega
          exact ⟨_, rfl, hI1823, hF1824, _, rfl, by decide, ⟨⟨(fun _ => ⟨(HI.eqA hI1823 (p := 173) (j := 0) (((eA_c gA_sI).trans (eA_sA_eq hI1819.1 ka_173 (by omega) (by first | decide | omega) (by first | decide | omega))))).trans rfl, (by first | rfl | decide), (HI.eqI hI1823 (p := 59) (b := 0) ((((gI_sI_ne (by decide)).trans ((gI_sW).trans ((gI_sW).trans ((gI_sW).trans ((gI_sI_ne (by decide)).trans ((gI_sI_ne (by decide)).trans ((gI_sI_ne (by decide)).trans (gI_sI_ne (by decide))))))))).trans e1756))).trans (HI.eqI hI0 (p := 1) (b := 0) (hv1504)).symm, (HI.eqI hI1823 (p := 59) (b := 12) (((gI_sI_ne (by decide)).trans ((gI_sW).trans ((gI_sW).trans ((gI_sW).trans (gI_sI_eq hI1806.1 kx_59 rfl _))))))).trans (HI.eqI hI0 (p := 1) (b := 12) (hv1808)).symm, (HI.eqI hI1823 (p := 59) (b := 10) (((gI_sI_ne (by decide)).trans ((gI_sW).trans ((gI_sW).trans ((gI_sW).trans ((gI_sI_ne (by decide)).trans ((gI_sI_ne (by decide)).trans (gI_sI_eq hI1800.1 kx_59 rfl _))))))))).trans (HI.eqI hI0 (p := 1) (b := 10) (hv1802)).symm, (HI.eqI hI1823 (p := 59) (b := 11) (((gI_sI_ne (by decide)).trans ((gI_sW).trans ((gI_sW).trans ((gI_sW).trans ((gI_sI_ne (by decide)).trans (gI_sI_eq hI1803.1 kx_59 rfl _)))))))).trans (HI.eqI hI0 (p := 1) (b := 11) (hv1805)).symm, (HI.eqI hI1823 (p := 59) (b := 4) ((((gI_sI_ne (by decide)).trans ((gI_sW).trans ((gI_sW).trans ((gI_sW).trans ((gI_sI_ne (by decide)).trans ((gI_sI_ne (by decide)).trans ((gI_sI_ne (by decide)).trans (gI_sI_ne (by decide))))))))).trans e1760))).trans (HI.eqI hI0 (p := 1) (b := 4) (hv1522)).symm⟩), (fun h => absurd e h), (fun h => absurd (e.symm.trans h) (by decide)), (fun _ => ⟨(HI.eqA hI1823 (p := 173) (j := 1) ((((eA_c gA_sI).trans ((eA_sA_ne hI1819.1 ka_173 (by first | decide | omega) (by first | decide | omega) (by first | decide | omega)).trans ((eA_c (gA_sW_ne (by decide))).trans ((eA_c (gA_sW_ne (by decide))).trans ((eA_c gA_sI).trans ((eA_c gA_sI).trans ((eA_c gA_sI).trans (eA_c gA_sI)))))))).trans e1767))).trans (HI.eqA hI0 (p := 173) (j := 1) (hv1542)).symm, (HI.eqI hI1823 (p := 116) (b := 0) ((((gI_sI_ne (by decide)).trans ((gI_sW).trans ((gI_sW).trans ((gI_sW).trans ((gI_sI_ne (by decide)).trans ((gI_sI_ne (by decide)).trans ((gI_sI_ne (by decide)).trans (gI_sI_ne (by decide))))))))).trans e1761))).trans (HI.eqI hI0 (p := 116) (b := 0) (hv1536)).symm, (HI.eqI hI1823 (p := 116) (b := 12) ((((gI_sI_ne (by decide)).trans ((gI_sW).trans ((gI_sW).trans ((gI_sW).trans ((gI_sI_ne (by decide)).trans ((gI_sI_ne (by decide)).trans ((gI_sI_ne (by decide)).trans (gI_sI_ne (by decide))))))))).trans e1764))).trans (HI.eqI hI0 (p := 116) (b := 12) (hv1539)).symm, (HI.eqI hI1823 (p := 116) (b := 10) ((((gI_sI_ne (by decide)).trans ((gI_sW).trans ((gI_sW).trans ((gI_sW).trans ((gI_sI_ne (by decide)).trans ((gI_sI_ne (by decide)).trans ((gI_sI_ne (by decide)).trans (gI_sI_ne (by decide))))))))).trans e1762))).trans (HI.eqI hI0 (p := 116) (b := 10) (hv1537)).symm, (HI.eqI hI1823 (p := 116) (b := 11) ((((gI_sI_ne (by decide)).trans ((gI_sW).trans ((gI_sW).trans ((gI_sW).trans ((gI_sI_ne (by decide)).trans ((gI_sI_ne (by decide)).trans ((gI_sI_ne (by decide)).trans (gI_sI_ne (by decide))))))))).trans e1763))).trans (HI.eqI hI0 (p := 116) (b := 11) (hv1538)).symm, (HI.eqI hI1823 (p := 116) (b := 4) ((((gI_sI_ne (by decide)).trans ((gI_sW).trans ((gI_sW).trans ((gI_sW).trans ((gI_sI_ne (by decide)).trans ((gI_sI_ne (by decide)).trans ((gI_sI_ne (by decide)).trans (gI_sI_ne (by decide))))))))).trans e1765))).trans (HI.eqI hI0 (p := 116) (b := 4) (hv1540)).symm⟩), (fun h => False.elim (by omega))⟩, (by intro i i0 i1; exact (Decidable.em (a1.toInt = 0)).elim (fun k112_ => by refine Eq.trans ?_ (if_pos k112_).symm; refine (eA_ti (((gA_sI).trans ((gA_sA_ne (by decide)).trans ((gA_sW_ne (by decide)).trans ((gA_sW_ne (by decide)).trans ((gA_sI).trans ((gA_sI).trans ((gA_sI).trans (gA_sI)))))))))).trans ?_; refine ((q1772 (i) (by omega) (by omega))).trans ?_; (first | rfl | exact eA_ix (by omega) | omega)) (fun k112_ => by refine Eq.trans ?_ (if_neg k112_).symm; refine (eA_ti (((gA_sI).trans ((gA_sA_ne (by decide)).trans ((gA_sW_ne (by decide)).trans ((gA_sW_ne (by decide)).trans ((gA_sI).trans ((gA_sI).trans ((gA_sI).trans (gA_sI)))))))))).trans ?_; refine ((q1772 (i) (by omega) (by omega))).trans ?_; (first | rfl | exact eA_ix (by omega) | omega))), (by intro i i0 i1; exact (Decidable.em (a1.toInt = 0)).elim (fun k113_ => by refine Eq.trans ?_ (if_pos k113_).symm; refine (eA_ti (((gA_sI).trans ((gA_sA_ne (by decide)).trans ((gA_sW_ne (by decide)).trans ((gA_sW_ne (by decide)).trans ((gA_sI).trans ((gA_sI).trans ((gA_sI).trans (gA_sI)))))))))).trans ?_; refine ((q1773 (i) (by omega) (by omega))).trans ?_; (first | rfl | exact eA_ix (by omega) | omega)) (fun k113_ => by refine Eq.trans ?_ (if_neg k113_).symm; refine (eA_ti (((gA_sI).trans ((gA_sA_ne (by decide)).trans ((gA_sW_ne (by decide)).trans ((gA_sW_ne (by decide)).trans ((gA_sI).trans ((gA_sI).trans ((gA_sI).trans (gA_sI)))))))))).trans ?_; refine ((q1773 (i) (by omega) (by omega))).trans ?_; (first | rfl | exact eA_ix (by omega) | omega))), (by intro i i0 i1; exact (Decidable.em (a1.toInt = 0)).elim (fun k114_ => by refine Eq.trans ?_ (if_pos k114_).symm; refine (eA_ti (((gA_sI).trans ((gA_sA_ne (by decide)).trans ((gA_sW_ne (by decide)).trans ((gA_sW_ne (by decide)).trans ((gA_sI).trans ((gA_sI).trans ((gA_sI).trans (gA_sI)))))))))).trans ?_; refine ((q1774 (i) (by omega) (by omega))).trans ?_; (first | rfl | exact eA_ix (by omega) | omega)) (fun k114_ => by refine Eq.trans ?_ (if_neg k114_).symm; refine (eA_ti (((gA_sI).trans ((gA_sA_ne (by decide)).trans ((gA_sW_ne (by decide)).trans ((gA_sW_ne (by decide)).trans ((gA_sI).trans ((gA_sI).trans ((gA_sI).trans (gA_sI)))))))))).trans ?_; refine ((q1774 (i) (by omega) (by omega))).trans ?_; (first | rfl | exact eA_ix (by omega) | omega))), (by intro i i0 i1; exact (Decidable.em (a1.toInt = 0)).elim (fun k115_ => by refine Eq.trans ?_ (if_pos k115_).symm; refine (eA_tq (((gA_sI).trans ((gA_sA_ne (by decide)).trans ((gA_sW_ne (by decide)).trans ((gA_cpF hI1809.1 ka_14 ka_72 (by decide) (by decide) (by decide)).trans ((gA_sI).trans ((gA_sI).trans ((gA_sI).trans ((gA_sI).trans (hF1752.2.1 14 (by decide)))))))))))).trans ?_; (first | rfl | exact eA_ix (by omega) | omega)) (fun k115_ => by refine Eq.trans ?_ (if_neg k115_).symm; refine (eA_tq (((gA_sI).trans ((gA_sA_ne (by decide)).trans ((gA_sW_ne (by decide)).trans ((gA_cpF hI1809.1 ka_14 ka_72 (by decide) (by decide) (by decide)).trans ((gA_sI).trans ((gA_sI).trans ((gA_sI).trans ((gA_sI).trans (hF1752.2.1 14 (by decide)))))))))))).trans ?_; (first | rfl | exact eA_ix (by omega) | omega))), (by intro i i0 i1; exact (Decidable.em (a1.toInt = 0)).elim (fun k116_ => by refine Eq.trans ?_ (if_pos k116_).symm; refine (eA_tq (((gA_sI).trans ((gA_sA_ne (by decide)).trans ((gA_cpF hI1814.1 ka_15 ka_73 (by decide) (by decide) (by decide)).trans ((gA_sW_ne (by decide)).trans ((gA_sI).trans ((gA_sI).trans ((gA_sI).trans ((gA_sI).trans (hF1752.2.1 15 (by decide)))))))))))).trans ?_; (first | rfl | exact eA_ix (by omega) | omega)) (fun k116_ => by refine Eq.trans ?_ (if_neg k116_).symm; refine (eA_tq (((gA_sI).trans ((gA_sA_ne (by decide)).trans ((gA_cpF hI1814.1 ka_15 ka_73 (by decide) (by decide) (by decide)).trans ((gA_sW_ne (by decide)).trans ((gA_sI).trans ((gA_sI).trans ((gA_sI).trans ((gA_sI).trans (hF1752.2.1 15 (by decide)))))))))))).trans ?_; (first | rfl | exact eA_ix (by omega) | omega))), (by intro i i0 i1; exact (Decidable.em (a1.toInt = 1)).elim (fun k117_ => by refine Eq.trans ?_ (if_pos k117_).symm; refine (eA_ti (((gA_sI).trans ((gA_sA_ne (by decide)).trans ((gA_sW_ne (by decide)).trans ((gA_sW_ne (by decide)).trans ((gA_sI).trans ((gA_sI).trans ((gA_sI).trans (gA_sI)))))))))).trans ?_; refine ((q1777 (i) (by omega) (by omega))).trans ?_; (first | rfl | exact eA_ix (by omega) | omega)) (fun k117_ => by refine Eq.trans ?_ (if_neg k117_).symm; refine (eA_ti (((gA_sI).trans ((gA_sA_ne (by decide)).trans ((gA_sW_ne (by decide)).trans ((gA_sW_ne (by decide)).trans ((gA_sI).trans ((gA_sI).trans ((gA_sI).trans (gA_sI)))))))))).trans ?_; refine ((q1777 (i) (by omega) (by omega))).trans ?_; (first | rfl | exact eA_ix (by omega) | omega))), (by intro i i0 i1; exact (Decidable.em (a1.toInt = 1)).elim (fun k118_ => by refine Eq.trans ?_ (if_pos k118_).symm; refine (eA_ti (((gA_sI).trans ((gA_sA_ne (by decide)).trans ((gA_sW_ne (by decide)).trans ((gA_sW_ne (by decide)).trans ((gA_sI).trans ((gA_sI).trans ((gA_sI).trans (gA_sI)))))))))).trans ?_; refine ((q1778 (i) (by omega) (by omega))).trans ?_; (first | rfl | exact eA_ix (by omega) | omega)) (fun k118_ => by refine Eq.trans ?_ (if_neg k118_).symm; refine (eA_ti (((gA_sI).trans ((gA_sA_ne (by decide)).trans ((gA_sW_ne (by decide)).trans ((gA_sW_ne (by decide)).trans ((gA_sI).trans ((gA_sI).trans ((gA_sI).trans (gA_sI)))))))))).trans ?_; refine ((q1778 (i) (by omega) (by omega))).trans ?_; (first | rfl | exact eA_ix (by omega) | omega))), (by intro i i0 i1; exact (Decidable.em (a1.toInt = 1)).elim (fun k119_ => by refine Eq.trans ?_ (if_pos k119_).symm; refine (eA_ti (((gA_sI).trans ((gA_sA_ne (by decide)).trans ((gA_sW_ne (by decide)).trans ((gA_sW_ne (by decide)).trans ((gA_sI).trans ((gA_sI).trans ((gA_sI).trans (gA_sI)))))))))).trans ?_; refine ((q1779 (i) (by omega) (by omega))).trans ?_; (first | rfl | exact eA_ix (by omega) | omega)) (fun k119_ => by refine Eq.trans ?_ (if_neg k119_).symm; refine (eA_ti (((gA_sI).trans ((gA_sA_ne (by decide)).trans ((gA_sW_ne (by decide)).trans ((gA_sW_ne (by decide)).trans ((gA_sI).trans ((gA_sI).trans ((gA_sI).trans (gA_sI)))))))))).trans ?_; refine ((q1779 (i) (by omega) (by omega))).trans ?_; (first | rfl | exact eA_ix (by omega) | omega))), (by intro i i0 i1; exact (Decidable.em (a1.toInt = 1)).elim (fun k120_ => by refine Eq.trans ?_ (if_pos k120_).symm; refine (eA_ti (((gA_sI).trans ((gA_sA_ne (by decide)).trans ((gA_sW_ne (by decide)).trans ((gA_sW_ne (by decide)).trans ((gA_sI).trans ((gA_sI).trans ((gA_sI).trans (gA_sI)))))))))).trans ?_; refine ((q1780 (i) (by omega) (by omega))).trans ?_; (first | rfl | exact eA_ix (by omega) | omega)) (fun k120_ => by refine Eq.trans ?_ (if_neg k120_).symm; refine (eA_ti (((gA_sI).trans ((gA_sA_ne (by decide)).trans ((gA_sW_ne (by decide)).trans ((gA_sW_ne (by decide)).trans ((gA_sI).trans ((gA_sI).trans ((gA_sI).trans (gA_sI)))))))))).trans ?_; refine ((q1780 (i) (by omega) (by omega))).trans ?_; (first | rfl | exact eA_ix (by omega) | omega))), (by intro i i0 i1; exact (Decidable.em (a1.toInt = 1)).elim (fun k121_ => by refine Eq.trans ?_ (if_pos k121_).symm; refine (eA_ti (((gA_sI).trans ((gA_sA_ne (by decide)).trans ((gA_sW_ne (by decide)).trans ((gA_sW_ne (by decide)).trans ((gA_sI).trans ((gA_sI).trans ((gA_sI).trans (gA_sI)))))))))).trans ?_; refine ((q1781 (i) (by omega) (by omega))).trans ?_; (first | rfl | exact eA_ix (by omega) | omega)) (fun k121_ => by refine Eq.trans ?_ (if_neg k121_).symm; refine (eA_ti (((gA_sI).trans ((gA_sA_ne (by decide)).trans ((gA_sW_ne (by decide)).trans ((gA_sW_ne (by decide)).trans ((gA_sI).trans ((gA_sI).trans ((gA_sI).trans (gA_sI)))))))))).trans ?_; refine ((q1781 (i) (by omega) (by omega))).trans ?_; (first | rfl | exact eA_ix (by omega) | omega))), (by intro i i0 i1; exact (Decidable.em (a1.toInt = 0)).elim (fun k122_ => by refine Eq.trans ?_ (if_pos k122_).symm; refine (eA_ti (((gA_sI).trans ((gA_sA_ne (by decide)).trans ((gA_sW_ne (by decide)).trans ((gA_sW_ne (by decide)).trans ((gA_sI).trans ((gA_sI).trans ((gA_sI).trans (gA_sI)))))))))).trans ?_; refine ((q1782 (i) (by omega) (by omega))).trans ?_; (first | rfl | exact eA_ix (by omega) | omega)) (fun k122_ => by refine Eq.trans ?_ (if_neg k122_).symm; refine (eA_ti (((gA_sI).trans ((gA_sA_ne (by decide)).trans ((gA_sW_ne (by decide)).trans ((gA_sW_ne (by decide)).trans ((gA_sI).trans ((gA_sI).trans ((gA_sI).trans (gA_sI)))))))))).trans ?_; refine ((q1782 (i) (by omega) (by omega))).trans ?_; (first | rfl | exact eA_ix (by omega) | omega))), (by intro i i0 i1; exact (Decidable.em (a1.toInt = 1)).elim (fun k123_ => by refine Eq.trans ?_ (if_pos k123_).symm; refine (eA_ti (((gA_sI).trans ((gA_sA_ne (by decide)).trans ((gA_sW_ne (by decide)).trans ((gA_sW_ne (by decide)).trans ((gA_sI).trans ((gA_sI).trans ((gA_sI).trans (gA_sI)))))))))).trans ?_; refine ((q1783 (i) (by omega) (by omega))).trans ?_; (first | rfl | exact eA_ix (by omega) | omega)) (fun k123_ => by refine Eq.trans ?_ (if_neg k123_).symm; refine (eA_ti (((gA_sI).trans ((gA_sA_ne (by decide)).trans ((gA_sW_ne (by decide)).trans ((gA_sW_ne (by decide)).trans ((gA_sI).trans ((gA_sI).trans ((gA_sI).trans (gA_sI)))))))))).trans ?_; refine ((q1783 (i) (by omega) (by omega))).trans ?_; (first | rfl | exact eA_ix (by omega) | omega)))⟩⟩
        · have c1798_ : x1749.toInt < 6 := en_i_ge_f c1798
          refine At.enter rfl ?_
          refine r_aload_n e1768 ?_
          refine r_iload_n e1770 ?_
          refine r_callV 97 rfl [.ref 59, .int x1749] [] (Nat.le_of_ble_eq_true rfl) rfl (T_X0_lawAt_59 _ hI1751 x1749) ?_
          rintro _ _ ⟨g1826, rfl, hI1827, hF1828, v1829, rfl, hr1830⟩
          refine At.str ?_
          have hF1831 := Fr.tr hF1752 hF1828 rfl rfl
          refine At.enter rfl ?_
          refine r_aload_n e1769 ?_
          refine r_iload_n e1770 ?_
          refine r_callV 102 rfl [.ref 1, .int x1749] [.ref (v1829)] (Nat.le_of_ble_eq_true rfl) rfl (T_X0_lawAt_1 _ hI1827 x1749) ?_
          rintro _ _ ⟨g1832, rfl, hI1833, hF1834, v1835, rfl, hr1836⟩
          refine At.str ?_
          have hF1837 := Fr.tr hF1831 hF1834 rfl rfl
          refine At.enter rfl ?_
          refine r_callV 105 rfl [.ref (v1829), .ref (v1835)] [] (Nat.le_of_ble_eq_true rfl) rfl (T_X4_become_law _ hI1833 (v1829) hr1830 (v1835) hr1836) ?_
          rintro _ _ ⟨g1838, rfl, hI1839, hF1840, rfl⟩
          refine At.stn ?_
          have hF1843 := Fr.tr hF1837 hF1840 rfl rfl
          refine At.enter rfl ?_
          refine q_iinc e1770 (x1749.toInt + 1) rfl (by omega) (fun v1844 hv1844 => ?_)
          refine r_goto ?_
          exact ih1755 (6 - v1844.toInt) _ _ ⟨v1844, by first | rfl | omega, hI1839, hF1843, (((hF1840.1 59 0 (by decide)).trans ((hF1834.1 59 0 (by decide)).trans (hF1828.1 59 0 (by decide)))).trans e1756), (((hF1840.1 59 10 (by decide)).trans ((hF1834.1 59 10 (by decide)).trans (hF1828.1 59 10 (by decide)))).trans e1757), (((hF1840.1 59 11 (by decide)).trans ((hF1834.1 59 11 (by decide)).trans (hF1828.1 59 11 (by decide)))).trans e1758), (((hF1840.1 59 12 (by decide)).trans ((hF1834.1 59 12 (by decide)).trans (hF1828.1 59 12 (by decide)))).trans e1759), (((hF1840.1 59 4 (by decide)).trans ((hF1834.1 59 4 (by decide)).trans (hF1828.1 59 4 (by decide)))).trans e1760), (((hF1840.1 116 0 (by decide)).trans ((hF1834.1 116 0 (by decide)).trans (hF1828.1 116 0 (by decide)))).trans e1761), (((hF1840.1 116 10 (by decide)).trans ((hF1834.1 116 10 (by decide)).trans (hF1828.1 116 10 (by decide)))).trans e1762), (((hF1840.1 116 11 (by decide)).trans ((hF1834.1 116 11 (by decide)).trans (hF1828.1 116 11 (by decide)))).trans e1763), (((hF1840.1 116 12 (by decide)).trans ((hF1834.1 116 12 (by decide)).trans (hF1828.1 116 12 (by decide)))).trans e1764), (((hF1840.1 116 4 (by decide)).trans ((hF1834.1 116 4 (by decide)).trans (hF1828.1 116 4 (by decide)))).trans e1765), (((eA_c (hF1840.2.1 173 (by decide))).trans ((eA_c (hF1834.2.1 173 (by decide))).trans (eA_c (hF1828.2.1 173 (by decide))))).trans e1766), (((eA_c (hF1840.2.1 173 (by decide))).trans ((eA_c (hF1834.2.1 173 (by decide))).trans (eA_c (hF1828.2.1 173 (by decide))))).trans e1767), (w_p1 (by decide) (Or.inr rfl) e1768), (w_p1 (by decide) (Or.inr rfl) e1769), (w_e1 _ _ _), by omega, (by intro i i0 i1; refine (eA_ti (((hF1840.2.1 60 (by decide)).trans ((hF1834.2.1 60 (by decide)).trans (hF1828.2.1 60 (by decide)))))).trans ?_; refine ((q1772 (i) (by omega) (by omega))).trans ?_; (first | rfl | exact eA_ix (by omega) | omega)), (by intro i i0 i1; refine (eA_ti (((hF1840.2.1 61 (by decide)).trans ((hF1834.2.1 61 (by decide)).trans (hF1828.2.1 61 (by decide)))))).trans ?_; refine ((q1773 (i) (by omega) (by omega))).trans ?_; (first | rfl | exact eA_ix (by omega) | omega)), (by intro i i0 i1; refine (eA_ti (((hF1840.2.1 62 (by decide)).trans ((hF1834.2.1 62 (by decide)).trans (hF1828.2.1 62 (by decide)))))).trans ?_; refine ((q1774 (i) (by omega) (by omega))).trans ?_; (first | rfl | exact eA_ix (by omega) | omega)), (by intro i i0 i1; refine (eA_ti (((hF1840.2.1 72 (by decide)).trans ((hF1834.2.1 72 (by decide)).trans (hF1828.2.1 72 (by decide)))))).trans ?_; refine ((q1775 (i) (by omega) (by omega))).trans ?_; (first | rfl | exact eA_ix (by omega) | omega)), (by intro i i0 i1; refine (eA_ti (((hF1840.2.1 73 (by decide)).trans ((hF1834.2.1 73 (by decide)).trans (hF1828.2.1 73 (by decide)))))).trans ?_; refine ((q1776 (i) (by omega) (by omega))).trans ?_; (first | rfl | exact eA_ix (by omega) | omega)), (by intro i i0 i1; refine (eA_ti (((hF1840.2.1 117 (by decide)).trans ((hF1834.2.1 117 (by decide)).trans (hF1828.2.1 117 (by decide)))))).trans ?_; refine ((q1777 (i) (by omega) (by omega))).trans ?_; (first | rfl | exact eA_ix (by omega) | omega)), (by intro i i0 i1; refine (eA_ti (((hF1840.2.1 118 (by decide)).trans ((hF1834.2.1 118 (by decide)).trans (hF1828.2.1 118 (by decide)))))).trans ?_; refine ((q1778 (i) (by omega) (by omega))).trans ?_; (first | rfl | exact eA_ix (by omega) | omega)), (by intro i i0 i1; refine (eA_ti (((hF1840.2.1 119 (by decide)).trans ((hF1834.2.1 119 (by decide)).trans (hF1828.2.1 119 (by decide)))))).trans ?_; refine ((q1779 (i) (by omega) (by omega))).trans ?_; (first | rfl | exact eA_ix (by omega) | omega)), (by intro i i0 i1; refine (eA_ti (((hF1840.2.1 129 (by decide)).trans ((hF1834.2.1 129 (by decide)).trans (hF1828.2.1 129 (by decide)))))).trans ?_; refine ((q1780 (i) (by omega) (by omega))).trans ?_; (first | rfl | exact eA_ix (by omega) | omega)), (by intro i i0 i1; refine (eA_ti (((hF1840.2.1 130 (by decide)).trans ((hF1834.2.1 130 (by decide)).trans (hF1828.2.1 130 (by decide)))))).trans ?_; refine ((q1781 (i) (by omega) (by omega))).trans ?_; (first | rfl | exact eA_ix (by omega) | omega)), (by intro i i0 i1; refine (eA_ti (((hF1840.2.1 63 (by decide)).trans ((hF1834.2.1 63 (by decide)).trans (hF1828.2.1 63 (by decide)))))).trans ?_; refine ((q1782 (i) (by omega) (by omega))).trans ?_; (first | rfl | exact eA_ix (by omega) | omega)), (by intro i i0 i1; refine (eA_ti (((hF1840.2.1 120 (by decide)).trans ((hF1834.2.1 120 (by decide)).trans (hF1828.2.1 120 (by decide)))))).trans ?_; refine ((q1783 (i) (by omega) (by omega))).trans ?_; (first | rfl | exact eA_ix (by omega) | omega))⟩ ⟨by omega, by omega⟩
      have c1503_1 : a1.toInt = 1 := by omega
      refine q_aald (Sh.rar hI0.1 ka_58) (by decide) 1 (by omega) (by decide) (some 116) rfl ?_
      refine r_goto ?_
      refine At.enter rfl ?_
      refine q_aret ?_
      refine At.enter rfl ?_
      refine r_astore_n ([(2, .ref 116), (0, .ref 0), (1, .int a1)]) rfl ?_
      refine r_aload_n rfl ?_
      refine r_nnr ?_
      refine At.enter rfl ?_
      refine r_aload_n rfl ?_
      refine r_aload_n rfl ?_
      refine q_getR (Sh.ref hI0.1 kx_0 rfl) ?_
      refine q_inlV 24 rfl [.ref 116, .ref 1] [] (Nat.le_of_ble_eq_true rfl) rfl ?_
      refine Ev.mk rfl rfl ⟨Nat.le_of_ble_eq_true rfl, Or.inr (q_rc hI0.1 kx_116 rfl)⟩ ?_
      show At _ none _ _ (0, [(0, .ref 116), (1, .ref 1)], [], (_, _)) _
      refine At.enter rfl ?_
      refine r_aload_n rfl ?_
      refine r_aload_n rfl ?_
      obtain ⟨v1845, hv1845⟩ : ∃ v, gI g0 1 0 = v := ⟨_, rfl⟩
      have rv1845 := RgF.at hI0.2.1 (p := 1) (b := 0) rfl
      rw [hv1845] at rv1845
      dsimp only at rv1845
      refine q_getI (Sh.int hI0.1 kx_1 rfl) v1845 hv1845 ?_
      refine q_putI (Sh.int hI0.1 kx_116 rfl) rfl ?_
      have hI1846 := HI.wI1 hI0 kx_116 rfl (p := 116) (b := 0) (v := v1845) rfl (by dsimp only; omega)
      have hF1847 := Fr.wI (p := 116) (b := 0) (v := v1845) hF0 rfl
      refine r_aload_n rfl ?_
      refine q_getR (Sh.ref hI1846.1 kx_1 rfl) ?_
      refine r_iconst 0 rfl ?_
      refine r_aload_n rfl ?_
      refine q_getR (Sh.ref hI1846.1 kx_116 rfl) ?_
      refine r_iconst 0 rfl ?_
      refine r_bipush 12 rfl ?_
      have zv1848 : (0 : Int32).toInt = 0 := rfl
      have zv1849 : (0 : Int32).toInt = 0 := rfl
      have zv1850 : (12 : Int32).toInt = 12 := rfl
      refine q_cpy rfl (Nat.le_of_ble_eq_true rfl) (Sh.arr hI1846.1 ka_2) (Sh.arr hI1846.1 ka_117) ⟨by omega, by omega, by omega, by omega, by omega⟩ ?_
      have hI1851 := HI.cpy0 hI1846 ka_2 ka_117 rfl rfl ((0 : Int32).toInt.toNat) ((0 : Int32).toInt.toNat) ((12 : Int32).toInt.toNat) (by omega) (by omega)
      have hF1852 := Fr.cpy (p0 := 2) (p1 := 117) hF1847 rfl ((0 : Int32).toInt.toNat) ((0 : Int32).toInt.toNat) ((12 : Int32).toInt.toNat)
      refine r_aload_n rfl ?_
      refine q_getR (Sh.ref hI1851.1 kx_1 rfl) ?_
      refine r_iconst 0 rfl ?_
      refine r_aload_n rfl ?_
      refine q_getR (Sh.ref hI1851.1 kx_116 rfl) ?_
      refine r_iconst 0 rfl ?_
      refine r_bipush 12 rfl ?_
      have zv1853 : (0 : Int32).toInt = 0 := rfl
      have zv1854 : (0 : Int32).toInt = 0 := rfl
      have zv1855 : (12 : Int32).toInt = 12 := rfl
      refine q_cpy rfl (Nat.le_of_ble_eq_true rfl) (Sh.arr hI1851.1 ka_3) (Sh.arr hI1851.1 ka_118) ⟨by omega, by omega, by omega, by omega, by omega⟩ ?_
      have hI1856 := HI.cpy0 hI1851 ka_3 ka_118 rfl rfl ((0 : Int32).toInt.toNat) ((0 : Int32).toInt.toNat) ((12 : Int32).toInt.toNat) (by omega) (by omega)
      have hF1857 := Fr.cpy (p0 := 3) (p1 := 118) hF1852 rfl ((0 : Int32).toInt.toNat) ((0 : Int32).toInt.toNat) ((12 : Int32).toInt.toNat)
      refine r_aload_n rfl ?_
      refine q_getR (Sh.ref hI1856.1 kx_1 rfl) ?_
      refine r_iconst 0 rfl ?_
      refine r_aload_n rfl ?_
      refine q_getR (Sh.ref hI1856.1 kx_116 rfl) ?_
      refine r_iconst 0 rfl ?_
      refine r_bipush 12 rfl ?_
      have zv1858 : (0 : Int32).toInt = 0 := rfl
      have zv1859 : (0 : Int32).toInt = 0 := rfl
      have zv1860 : (12 : Int32).toInt = 12 := rfl
      refine q_cpy rfl (Nat.le_of_ble_eq_true rfl) (Sh.arr hI1856.1 ka_4) (Sh.arr hI1856.1 ka_119) ⟨by omega, by omega, by omega, by omega, by omega⟩ ?_
      have hI1861 := HI.cpy0 hI1856 ka_4 ka_119 rfl rfl ((0 : Int32).toInt.toNat) ((0 : Int32).toInt.toNat) ((12 : Int32).toInt.toNat) (by omega) (by omega)
      have hF1862 := Fr.cpy (p0 := 4) (p1 := 119) hF1857 rfl ((0 : Int32).toInt.toNat) ((0 : Int32).toInt.toNat) ((12 : Int32).toInt.toNat)
      refine r_aload_n rfl ?_
      refine r_aload_n rfl ?_
      obtain ⟨v1863, hv1863⟩ : ∃ v, gI g0 1 4 = v := ⟨_, rfl⟩
      have rv1863 := RgF.at hI0.2.1 (p := 1) (b := 4) rfl
      rw [hv1863] at rv1863
      dsimp only at rv1863
      refine q_getI (Sh.int hI1861.1 kx_1 rfl) v1863 (((gI_sW).trans ((gI_sW).trans ((gI_sW).trans (gI_sI_ne (by decide))))).trans hv1863) ?_
      refine q_putI (Sh.int hI1861.1 kx_116 rfl) rfl ?_
      have hI1864 := HI.wI1 hI1861 kx_116 rfl (p := 116) (b := 4) (v := v1863) rfl (by dsimp only; omega)
      have hF1865 := Fr.wI (p := 116) (b := 4) (v := v1863) hF1862 rfl
      refine r_aload_n rfl ?_
      refine q_getR (Sh.ref hI1864.1 kx_1 rfl) ?_
      refine r_iconst 0 rfl ?_
      refine r_aload_n rfl ?_
      refine q_getR (Sh.ref hI1864.1 kx_116 rfl) ?_
      refine r_iconst 0 rfl ?_
      refine r_bipush 48 rfl ?_
      have zv1866 : (0 : Int32).toInt = 0 := rfl
      have zv1867 : (0 : Int32).toInt = 0 := rfl
      have zv1868 : (48 : Int32).toInt = 48 := rfl
      refine q_cpy rfl (Nat.le_of_ble_eq_true rfl) (Sh.arr hI1864.1 ka_5) (Sh.arr hI1864.1 ka_120) ⟨by omega, by omega, by omega, by omega, by omega⟩ ?_
      have hI1869 := HI.cpy0 hI1864 ka_5 ka_120 rfl rfl ((0 : Int32).toInt.toNat) ((0 : Int32).toInt.toNat) ((48 : Int32).toInt.toNat) (by omega) (by omega)
      have hF1870 := Fr.cpy (p0 := 5) (p1 := 120) hF1865 rfl ((0 : Int32).toInt.toNat) ((0 : Int32).toInt.toNat) ((48 : Int32).toInt.toNat)
      refine r_aload_n rfl ?_
      refine r_aload_n rfl ?_
      obtain ⟨v1871, hv1871⟩ : ∃ v, gI g0 1 6 = v := ⟨_, rfl⟩
      have rv1871 := RgF.at hI0.2.1 (p := 1) (b := 6) rfl
      rw [hv1871] at rv1871
      dsimp only at rv1871
      refine q_getI (Sh.int hI1869.1 kx_1 rfl) v1871 (((gI_sW).trans ((gI_sI_ne (by decide)).trans ((gI_sW).trans ((gI_sW).trans ((gI_sW).trans (gI_sI_ne (by decide))))))).trans hv1871) ?_
      refine q_putI (Sh.int hI1869.1 kx_116 rfl) rfl ?_
      have hI1872 := HI.wI1 hI1869 kx_116 rfl (p := 116) (b := 6) (v := v1871) rfl (by dsimp only; omega)
      have hF1873 := Fr.wI (p := 116) (b := 6) (v := v1871) hF1870 rfl
      refine r_iconst 0 rfl ?_
      refine r_istore_n ([(2, .int 0), (0, .ref 116), (1, .ref 1)]) rfl ?_
      refine Ar.fall 86 rfl ?_
      obtain ⟨v1874, hv1874⟩ : ∃ v, gI g0 59 0 = v := ⟨_, rfl⟩
      have rv1874 := RgF.at hI0.2.1 (p := 59) (b := 0) rfl
      rw [hv1874] at rv1874
      dsimp only at rv1874
      have tv1874 := congrArg Int32.toInt hv1874
      obtain ⟨v1875, hv1875⟩ : ∃ v, gI g0 59 10 = v := ⟨_, rfl⟩
      have tv1875 := congrArg Int32.toInt hv1875
      obtain ⟨v1876, hv1876⟩ : ∃ v, gI g0 59 11 = v := ⟨_, rfl⟩
      have tv1876 := congrArg Int32.toInt hv1876
      obtain ⟨v1877, hv1877⟩ : ∃ v, gI g0 59 12 = v := ⟨_, rfl⟩
      have rv1877 := RgF.at hI0.2.1 (p := 59) (b := 12) rfl
      rw [hv1877] at rv1877
      dsimp only at rv1877
      have tv1877 := congrArg Int32.toInt hv1877
      obtain ⟨v1878, hv1878⟩ : ∃ v, gI g0 59 4 = v := ⟨_, rfl⟩
      have rv1878 := RgF.at hI0.2.1 (p := 59) (b := 4) rfl
      rw [hv1878] at rv1878
      dsimp only at rv1878
      have tv1878 := congrArg Int32.toInt hv1878
      obtain ⟨v1879, hv1879⟩ : ∃ v, gI g0 116 10 = v := ⟨_, rfl⟩
      have tv1879 := congrArg Int32.toInt hv1879
      obtain ⟨v1880, hv1880⟩ : ∃ v, gI g0 116 11 = v := ⟨_, rfl⟩
      have tv1880 := congrArg Int32.toInt hv1880
      obtain ⟨v1881, hv1881⟩ : ∃ v, gI g0 116 12 = v := ⟨_, rfl⟩
      have rv1881 := RgF.at hI0.2.1 (p := 116) (b := 12) rfl
      rw [hv1881] at rv1881
      dsimp only at rv1881
      have tv1881 := congrArg Int32.toInt hv1881
      obtain ⟨v1882, hv1882⟩ : ∃ v, eA g0 173 0 = v := ⟨_, rfl⟩
      have tv1882 := congrArg Int32.toInt hv1882
      obtain ⟨v1883, hv1883⟩ : ∃ v, eA g0 173 1 = v := ⟨_, rfl⟩
      have tv1883 := congrArg Int32.toInt hv1883
      have z_2125 : (0 : Int32).toInt = 0 := rfl
      refine w_loopI (fun n_ l_ g_ => ∃ x2090 : Int32, n_ = 6 - x2090.toInt ∧ HI g_ ∧ Fr F_X10_image_0 A_X10_image_0 g0 g_ ∧ gI g_ 59 0 = v1874 ∧ gI g_ 59 10 = v1875 ∧ gI g_ 59 11 = v1876 ∧ gI g_ 59 12 = v1877 ∧ gI g_ 59 4 = v1878 ∧ gI g_ 116 0 = v1845 ∧ gI g_ 116 10 = v1879 ∧ gI g_ 116 11 = v1880 ∧ gI g_ 116 12 = v1881 ∧ gI g_ 116 4 = v1863 ∧ eA g_ 173 0 = v1882 ∧ eA g_ 173 1 = v1883 ∧ en_get 0 l_ = some (.ref 116) ∧ en_get 1 l_ = some (.ref 1) ∧ en_get 2 l_ = some (.int x2090) ∧ (0 ≤ x2090.toInt ∧ x2090.toInt ≤ 6) ∧ (∀ i : Int, 0 ≤ i → i < 12 → (eA g_ 60 (i)).toInt = (eA g0 60 (i)).toInt) ∧ (∀ i : Int, 0 ≤ i → i < 12 → (eA g_ 61 (i)).toInt = (eA g0 61 (i)).toInt) ∧ (∀ i : Int, 0 ≤ i → i < 12 → (eA g_ 62 (i)).toInt = (eA g0 62 (i)).toInt) ∧ (∀ i : Int, 0 ≤ i → i < 8 → (eA g_ 72 (i)).toInt = (eA g0 72 (i)).toInt) ∧ (∀ i : Int, 0 ≤ i → i < 8 → (eA g_ 73 (i)).toInt = (eA g0 73 (i)).toInt) ∧ (∀ i : Int, 0 ≤ i → i < 12 → (eA g_ 117 (i)).toInt = (eA g0 2 (i)).toInt) ∧ (∀ i : Int, 0 ≤ i → i < 12 → (eA g_ 118 (i)).toInt = (eA g0 3 (i)).toInt) ∧ (∀ i : Int, 0 ≤ i → i < 12 → (eA g_ 119 (i)).toInt = (eA g0 4 (i)).toInt) ∧ (∀ i : Int, 0 ≤ i → i < 8 → (eA g_ 129 (i)).toInt = (eA g0 129 (i)).toInt) ∧ (∀ i : Int, 0 ≤ i → i < 8 → (eA g_ 130 (i)).toInt = (eA g0 130 (i)).toInt) ∧ (∀ i : Int, 0 ≤ i → i < 48 → (eA g_ 63 (i)).toInt = (eA g0 63 (i)).toInt) ∧ (∀ i : Int, 0 ≤ i → i < 48 → (eA g_ 120 (i)).toInt = (eA g0 5 (i)).toInt)) ?_ (6 - 0) ⟨0, by first | rfl | omega, hI1872, hF1873, (((gI_sI_ne (by decide)).trans ((gI_sW).trans ((gI_sI_ne (by decide)).trans ((gI_sW).trans ((gI_sW).trans ((gI_sW).trans (gI_sI_ne (by decide)))))))).trans hv1874), (((gI_sI_ne (by decide)).trans ((gI_sW).trans ((gI_sI_ne (by decide)).trans ((gI_sW).trans ((gI_sW).trans ((gI_sW).trans (gI_sI_ne (by decide)))))))).trans hv1875), (((gI_sI_ne (by decide)).trans ((gI_sW).trans ((gI_sI_ne (by decide)).trans ((gI_sW).trans ((gI_sW).trans ((gI_sW).trans (gI_sI_ne (by decide)))))))).trans hv1876), (((gI_sI_ne (by decide)).trans ((gI_sW).trans ((gI_sI_ne (by decide)).trans ((gI_sW).trans ((gI_sW).trans ((gI_sW).trans (gI_sI_ne (by decide)))))))).trans hv1877), (((gI_sI_ne (by decide)).trans ((gI_sW).trans ((gI_sI_ne (by decide)).trans ((gI_sW).trans ((gI_sW).trans ((gI_sW).trans (gI_sI_ne (by decide)))))))).trans hv1878), ((gI_sI_ne (by decide)).trans ((gI_sW).trans ((gI_sI_ne (by decide)).trans ((gI_sW).trans ((gI_sW).trans ((gI_sW).trans (gI_sI_eq hI0.1 kx_116 rfl _))))))), (((gI_sI_ne (by decide)).trans ((gI_sW).trans ((gI_sI_ne (by decide)).trans ((gI_sW).trans ((gI_sW).trans ((gI_sW).trans (gI_sI_ne (by decide)))))))).trans hv1879), (((gI_sI_ne (by decide)).trans ((gI_sW).trans ((gI_sI_ne (by decide)).trans ((gI_sW).trans ((gI_sW).trans ((gI_sW).trans (gI_sI_ne (by decide)))))))).trans hv1880), (((gI_sI_ne (by decide)).trans ((gI_sW).trans ((gI_sI_ne (by decide)).trans ((gI_sW).trans ((gI_sW).trans ((gI_sW).trans (gI_sI_ne (by decide)))))))).trans hv1881), ((gI_sI_ne (by decide)).trans ((gI_sW).trans (gI_sI_eq hI1861.1 kx_116 rfl _))), (((eA_c gA_sI).trans ((eA_c (gA_sW_ne (by decide))).trans ((eA_c gA_sI).trans ((eA_c (gA_sW_ne (by decide))).trans ((eA_c (gA_sW_ne (by decide))).trans ((eA_c (gA_sW_ne (by decide))).trans (eA_c gA_sI))))))).trans hv1882), (((eA_c gA_sI).trans ((eA_c (gA_sW_ne (by decide))).trans ((eA_c gA_sI).trans ((eA_c (gA_sW_ne (by decide))).trans ((eA_c (gA_sW_ne (by decide))).trans ((eA_c (gA_sW_ne (by decide))).trans (eA_c gA_sI))))))).trans hv1883), rfl, rfl, rfl, by decide, (by intro i i0 i1; refine (eA_ti (((gA_sI).trans ((gA_sW_ne (by decide)).trans ((gA_sI).trans ((gA_sW_ne (by decide)).trans ((gA_sW_ne (by decide)).trans ((gA_sW_ne (by decide)).trans (gA_sI))))))))).trans ?_; (first | rfl | exact eA_ix (by omega) | omega)), (by intro i i0 i1; refine (eA_ti (((gA_sI).trans ((gA_sW_ne (by decide)).trans ((gA_sI).trans ((gA_sW_ne (by decide)).trans ((gA_sW_ne (by decide)).trans ((gA_sW_ne (by decide)).trans (gA_sI))))))))).trans ?_; (first | rfl | exact eA_ix (by omega) | omega)), (by intro i i0 i1; refine (eA_ti (((gA_sI).trans ((gA_sW_ne (by decide)).trans ((gA_sI).trans ((gA_sW_ne (by decide)).trans ((gA_sW_ne (by decide)).trans ((gA_sW_ne (by decide)).trans (gA_sI))))))))).trans ?_; (first | rfl | exact eA_ix (by omega) | omega)), (by intro i i0 i1; refine (eA_ti (((gA_sI).trans ((gA_sW_ne (by decide)).trans ((gA_sI).trans ((gA_sW_ne (by decide)).trans ((gA_sW_ne (by decide)).trans ((gA_sW_ne (by decide)).trans (gA_sI))))))))).trans ?_; (first | rfl | exact eA_ix (by omega) | omega)), (by intro i i0 i1; refine (eA_ti (((gA_sI).trans ((gA_sW_ne (by decide)).trans ((gA_sI).trans ((gA_sW_ne (by decide)).trans ((gA_sW_ne (by decide)).trans ((gA_sW_ne (by decide)).trans (gA_sI))))))))).trans ?_; (first | rfl | exact eA_ix (by omega) | omega)), (by intro i i0 i1; refine (eA_tq (((gA_sI).trans ((gA_sW_ne (by decide)).trans ((gA_sI).trans ((gA_sW_ne (by decide)).trans ((gA_sW_ne (by decide)).trans ((gA_cpF hI1846.1 ka_2 ka_117 (by decide) (by decide) (by decide)).trans (gA_sI))))))))).trans ?_; (first | rfl | exact eA_ix (by omega) | omega)), (by intro i i0 i1; refine (eA_tq (((gA_sI).trans ((gA_sW_ne (by decide)).trans ((gA_sI).trans ((gA_sW_ne (by decide)).trans ((gA_cpF hI1851.1 ka_3 ka_118 (by decide) (by decide) (by decide)).trans ((gA_sW_ne (by decide)).trans (gA_sI))))))))).trans ?_; (first | rfl | exact eA_ix (by omega) | omega)), (by intro i i0 i1; refine (eA_tq (((gA_sI).trans ((gA_sW_ne (by decide)).trans ((gA_sI).trans ((gA_cpF hI1856.1 ka_4 ka_119 (by decide) (by decide) (by decide)).trans ((gA_sW_ne (by decide)).trans ((gA_sW_ne (by decide)).trans (gA_sI))))))))).trans ?_; (first | rfl | exact eA_ix (by omega) | omega)), (by intro i i0 i1; refine (eA_ti (((gA_sI).trans ((gA_sW_ne (by decide)).trans ((gA_sI).trans ((gA_sW_ne (by decide)).trans ((gA_sW_ne (by decide)).trans ((gA_sW_ne (by decide)).trans (gA_sI))))))))).trans ?_; (first | rfl | exact eA_ix (by omega) | omega)), (by intro i i0 i1; refine (eA_ti (((gA_sI).trans ((gA_sW_ne (by decide)).trans ((gA_sI).trans ((gA_sW_ne (by decide)).trans ((gA_sW_ne (by decide)).trans ((gA_sW_ne (by decide)).trans (gA_sI))))))))).trans ?_; (first | rfl | exact eA_ix (by omega) | omega)), (by intro i i0 i1; refine (eA_ti (((gA_sI).trans ((gA_sW_ne (by decide)).trans ((gA_sI).trans ((gA_sW_ne (by decide)).trans ((gA_sW_ne (by decide)).trans ((gA_sW_ne (by decide)).trans (gA_sI))))))))).trans ?_; (first | rfl | exact eA_ix (by omega) | omega)), (by intro i i0 i1; refine (eA_tq (((gA_sI).trans ((gA_cpF hI1864.1 ka_5 ka_120 (by decide) (by decide) (by decide)).trans ((gA_sI).trans ((gA_sW_ne (by decide)).trans ((gA_sW_ne (by decide)).trans ((gA_sW_ne (by decide)).trans (gA_sI))))))))).trans ?_; (first | rfl | exact eA_ix (by omega) | omega))⟩
      rintro n2095 l2094 g2091 ⟨x2090, hm2126, hI2092, hF2093, e2097, e2098, e2099, e2100, e2101, e2102, e2103, e2104, e2105, e2106, e2107, e2108, e2109, e2110, e2111, r2112, q2113, q2114, q2115, q2116, q2117, q2118, q2119, q2120, q2121, q2122, q2123, q2124⟩ ih2096
      have tv2127 := congrArg Int32.toInt e2107
      have tv2128 := congrArg Int32.toInt e2108
      have tv2129 := congrArg Int32.toInt e2097
      have tv2130 := congrArg Int32.toInt e2098
      have tv2131 := congrArg Int32.toInt e2099
      have tv2132 := congrArg Int32.toInt e2100
      have tv2133 := congrArg Int32.toInt e2101
      have tv2134 := congrArg Int32.toInt e2102
      have tv2135 := congrArg Int32.toInt e2103
      have tv2136 := congrArg Int32.toInt e2104
      have tv2137 := congrArg Int32.toInt e2105
      have tv2138 := congrArg Int32.toInt e2106
      refine At.enter rfl ?_
      refine r_iload_n e2111 ?_
      refine r_bipush 6 rfl ?_
      refine r_ics 92 rfl (fun c2139 => ?_) (fun c2139 => ?_)
      · have c2139_ : x2090.toInt ≥ 6 := en_i_ge_t c2139
        refine At.enter rfl ?_
        refine r_aload_n e2109 ?_
        refine r_aload_n e2110 ?_
        obtain ⟨v2140, hv2140⟩ : ∃ v, gI g0 1 9 = v := ⟨_, rfl⟩
        refine q_getI (Sh.int hI2092.1 kx_1 rfl) v2140 ((hF2093.1 1 9 (by decide)).trans hv2140) ?_
        refine q_putI (Sh.int hI2092.1 kx_116 rfl) rfl ?_
        have hI2141 := HI.wI0 hI2092 kx_116 rfl (p := 116) (b := 9) (v := v2140) rfl
        have hF2142 := Fr.wI (p := 116) (b := 9) (v := v2140) hF2093 rfl
        refine r_aload_n e2109 ?_
        refine r_aload_n e2110 ?_
        obtain ⟨v2143, hv2143⟩ : ∃ v, gI g0 1 10 = v := ⟨_, rfl⟩
        refine q_getI (Sh.int hI2141.1 kx_1 rfl) v2143 (((gI_sI_ne (by decide)).trans (hF2093.1 1 10 (by decide))).trans hv2143) ?_
        refine q_putI (Sh.int hI2141.1 kx_116 rfl) rfl ?_
        have hI2144 := HI.wI0 hI2141 kx_116 rfl (p := 116) (b := 10) (v := v2143) rfl
        have hF2145 := Fr.wI (p := 116) (b := 10) (v := v2143) hF2142 rfl
        refine r_aload_n e2109 ?_
        refine r_aload_n e2110 ?_
        obtain ⟨v2146, hv2146⟩ : ∃ v, gI g0 1 11 = v := ⟨_, rfl⟩
        refine q_getI (Sh.int hI2144.1 kx_1 rfl) v2146 (((gI_sI_ne (by decide)).trans ((gI_sI_ne (by decide)).trans (hF2093.1 1 11 (by decide)))).trans hv2146) ?_
        refine q_putI (Sh.int hI2144.1 kx_116 rfl) rfl ?_
        have hI2147 := HI.wI0 hI2144 kx_116 rfl (p := 116) (b := 11) (v := v2146) rfl
        have hF2148 := Fr.wI (p := 116) (b := 11) (v := v2146) hF2145 rfl
        refine r_aload_n e2109 ?_
        refine r_aload_n e2110 ?_
        obtain ⟨v2149, hv2149⟩ : ∃ v, gI g0 1 12 = v := ⟨_, rfl⟩
        have rv2149 := RgF.at hI0.2.1 (p := 1) (b := 12) rfl
        rw [hv2149] at rv2149
        dsimp only at rv2149
        refine q_getI (Sh.int hI2147.1 kx_1 rfl) v2149 (((gI_sI_ne (by decide)).trans ((gI_sI_ne (by decide)).trans ((gI_sI_ne (by decide)).trans (hF2093.1 1 12 (by decide))))).trans hv2149) ?_
        refine q_putI (Sh.int hI2147.1 kx_116 rfl) rfl ?_
        have hI2150 := HI.wI1 hI2147 kx_116 rfl (p := 116) (b := 12) (v := v2149) rfl (by dsimp only; omega)
        have hF2151 := Fr.wI (p := 116) (b := 12) (v := v2149) hF2148 rfl
        refine r_aload_n e2110 ?_
        refine q_getR (Sh.ref hI2150.1 kx_1 rfl) ?_
        refine r_iconst 0 rfl ?_
        refine r_aload_n e2109 ?_
        refine q_getR (Sh.ref hI2150.1 kx_116 rfl) ?_
        refine r_iconst 0 rfl ?_
        refine r_bipush 8 rfl ?_
        have zv2152 : (0 : Int32).toInt = 0 := rfl
        have zv2153 : (0 : Int32).toInt = 0 := rfl
        have zv2154 : (8 : Int32).toInt = 8 := rfl
        refine q_cpy rfl (Nat.le_of_ble_eq_true rfl) (Sh.arr hI2150.1 ka_14) (Sh.arr hI2150.1 ka_129) ⟨by omega, by omega, by omega, by omega, by omega⟩ ?_
        have hI2155 := HI.cpy0 hI2150 ka_14 ka_129 rfl rfl ((0 : Int32).toInt.toNat) ((0 : Int32).toInt.toNat) ((8 : Int32).toInt.toNat) (by omega) (by omega)
        have hF2156 := Fr.cpy (p0 := 14) (p1 := 129) hF2151 rfl ((0 : Int32).toInt.toNat) ((0 : Int32).toInt.toNat) ((8 : Int32).toInt.toNat)
        refine r_aload_n e2110 ?_
        refine q_getR (Sh.ref hI2155.1 kx_1 rfl) ?_
        refine r_iconst 0 rfl ?_
        refine r_aload_n e2109 ?_
        refine q_getR (Sh.ref hI2155.1 kx_116 rfl) ?_
        refine r_iconst 0 rfl ?_
        refine r_bipush 8 rfl ?_
        have zv2157 : (0 : Int32).toInt = 0 := rfl
        have zv2158 : (0 : Int32).toInt = 0 := rfl
        have zv2159 : (8 : Int32).toInt = 8 := rfl
        refine q_cpy rfl (Nat.le_of_ble_eq_true rfl) (Sh.arr hI2155.1 ka_15) (Sh.arr hI2155.1 ka_130) ⟨by omega, by omega, by omega, by omega, by omega⟩ ?_
        have hI2160 := HI.cpy0 hI2155 ka_15 ka_130 rfl rfl ((0 : Int32).toInt.toNat) ((0 : Int32).toInt.toNat) ((8 : Int32).toInt.toNat) (by omega) (by omega)
        have hF2161 := Fr.cpy (p0 := 15) (p1 := 130) hF2156 rfl ((0 : Int32).toInt.toNat) ((0 : Int32).toInt.toNat) ((8 : Int32).toInt.toNat)
        refine q_vret ?_
        refine At.enter rfl ?_
        refine r_aload_n rfl ?_
        refine q_getR (Sh.ref hI2160.1 kx_0 rfl) ?_
        refine r_iload_n rfl ?_
        refine r_iconst 1 rfl ?_
        refine q_bast (Sh.arr hI2160.1 ka_173) (a1.toInt) rfl (by omega) rfl ?_
        have hI2162 := HI.wA0 hI2160 ka_173 (p := 173) rfl rfl (a1.toInt) (1)
        have hF2163 := Fr.wA (p := 173) (j := a1.toInt) (v := 1) hF2161 rfl
        refine r_aload_n rfl ?_
        refine r_iconst 0 rfl ?_
        refine q_inlV 36 rfl [.ref 0, .int 0] [] (Nat.le_of_ble_eq_true rfl) rfl ?_
        refine Ev.mk rfl rfl ⟨Nat.le_of_ble_eq_true rfl, Or.inr (q_rc hI2162.1 kx_0 rfl)⟩ ?_
        show At _ none _ _ (0, [(0, .ref 0), (1, .int 0)], [], (_, _)) _
        refine At.enter rfl ?_
        refine r_aload_n rfl ?_
        refine r_iconst 0 rfl ?_
        refine q_putI (Sh.int hI2162.1 kx_0 rfl) rfl ?_
        have hI2164 := HI.wI0 hI2162 kx_0 rfl (p := 0) (b := 17) (v := 0) rfl
        have hF2165 := Fr.wI (p := 0) (b := 17) (v := 0) hF2163 rfl
        refine r_iload_n rfl ?_
        refine q_ireti ?_
        refine At.enter rfl ?_
        refine r_ireti ?_
        have zv2166 : (0 : Int32).toInt = 0 := rfl
        have e : a1.toInt = 1 := by omega
        exact ⟨_, rfl, hI2164, hF2165, _, rfl, by decide, ⟨⟨(fun h => absurd (e.symm.trans h) (by decide)), (fun _ => ⟨(HI.eqA hI2164 (p := 173) (j := 0) ((((eA_c gA_sI).trans ((eA_sA_ne hI2160.1 ka_173 (by first | decide | omega) (by first | decide | omega) (by first | decide | omega)).trans ((eA_c (gA_sW_ne (by decide))).trans ((eA_c (gA_sW_ne (by decide))).trans ((eA_c gA_sI).trans ((eA_c gA_sI).trans ((eA_c gA_sI).trans (eA_c gA_sI)))))))).trans e2107))).trans (HI.eqA hI0 (p := 173) (j := 0) (hv1882)).symm, (HI.eqI hI2164 (p := 59) (b := 0) ((((gI_sI_ne (by decide)).trans ((gI_sW).trans ((gI_sW).trans ((gI_sW).trans ((gI_sI_ne (by decide)).trans ((gI_sI_ne (by decide)).trans ((gI_sI_ne (by decide)).trans (gI_sI_ne (by decide))))))))).trans e2097))).trans (HI.eqI hI0 (p := 59) (b := 0) (hv1874)).symm, (HI.eqI hI2164 (p := 59) (b := 12) ((((gI_sI_ne (by decide)).trans ((gI_sW).trans ((gI_sW).trans ((gI_sW).trans ((gI_sI_ne (by decide)).trans ((gI_sI_ne (by decide)).trans ((gI_sI_ne (by decide)).trans (gI_sI_ne (by decide))))))))).trans e2100))).trans (HI.eqI hI0 (p := 59) (b := 12) (hv1877)).symm, (HI.eqI hI2164 (p := 59) (b := 10) ((((gI_sI_ne (by decide)).trans ((gI_sW).trans ((gI_sW).trans ((gI_sW).trans ((gI_sI_ne (by decide)).trans ((gI_sI_ne (by decide)).trans ((gI_sI_ne (by decide)).trans (gI_sI_ne (by decide))))))))).trans e2098))).trans (HI.eqI hI0 (p := 59) (b := 10) (hv1875)).symm, (HI.eqI hI2164 (p := 59) (b := 11) ((((gI_sI_ne (by decide)).trans ((gI_sW).trans ((gI_sW).trans ((gI_sW).trans ((gI_sI_ne (by decide)).trans ((gI_sI_ne (by decide)).trans ((gI_sI_ne (by decide)).trans (gI_sI_ne (by decide))))))))).trans e2099))).trans (HI.eqI hI0 (p := 59) (b := 11) (hv1876)).symm, (HI.eqI hI2164 (p := 59) (b := 4) ((((gI_sI_ne (by decide)).trans ((gI_sW).trans ((gI_sW).trans ((gI_sW).trans ((gI_sI_ne (by decide)).trans ((gI_sI_ne (by decide)).trans ((gI_sI_ne (by decide)).trans (gI_sI_ne (by decide))))))))).trans e2101))).trans (HI.eqI hI0 (p := 59) (b := 4) (hv1878)).symm⟩), (fun _ => ⟨(HI.eqA hI2164 (p := 173) (j := 1) (((eA_c gA_sI).trans (eA_sA_eq hI2160.1 ka_173 (by omega) (by first | decide | omega) (by first | decide | omega))))).trans rfl, (by first | rfl | decide), (HI.eqI hI2164 (p := 116) (b := 0) ((((gI_sI_ne (by decide)).trans ((gI_sW).trans ((gI_sW).trans ((gI_sW).trans ((gI_sI_ne (by decide)).trans ((gI_sI_ne (by decide)).trans ((gI_sI_ne (by decide)).trans (gI_sI_ne (by decide))))))))).trans e2102))).trans (HI.eqI hI0 (p := 1) (b := 0) (hv1845)).symm, (HI.eqI hI2164 (p := 116) (b := 12) (((gI_sI_ne (by decide)).trans ((gI_sW).trans ((gI_sW).trans ((gI_sW).trans (gI_sI_eq hI2147.1 kx_116 rfl _))))))).trans (HI.eqI hI0 (p := 1) (b := 12) (hv2149)).symm, (HI.eqI hI2164 (p := 116) (b := 10) (((gI_sI_ne (by decide)).trans ((gI_sW).trans ((gI_sW).trans ((gI_sW).trans ((gI_sI_ne (by decide)).trans ((gI_sI_ne (by decide)).trans (gI_sI_eq hI2141.1 kx_116 rfl _))))))))).trans (HI.eqI hI0 (p := 1) (b := 10) (hv2143)).symm, (HI.eqI hI2164 (p := 116) (b := 11) (((gI_sI_ne (by decide)).trans ((gI_sW).trans ((gI_sW).trans ((gI_sW).trans ((gI_sI_ne (by decide)).trans (gI_sI_eq hI2144.1 kx_116 rfl _)))))))).trans (HI.eqI hI0 (p := 1) (b := 11) (hv2146)).symm, (HI.eqI hI2164 (p := 116) (b := 4) ((((gI_sI_ne (by decide)).trans ((gI_sW).trans ((gI_sW).trans ((gI_sW).trans ((gI_sI_ne (by decide)).trans ((gI_sI_ne (by decide)).trans ((gI_sI_ne (by decide)).trans (gI_sI_ne (by decide))))))))).trans e2106))).trans (HI.eqI hI0 (p := 1) (b := 4) (hv1863)).symm⟩), (fun h => absurd e h), (fun h => False.elim (by omega))⟩, (by intro i i0 i1; exact (Decidable.em (a1.toInt = 0)).elim (fun k124_ => by refine Eq.trans ?_ (if_pos k124_).symm; refine (eA_ti (((gA_sI).trans ((gA_sA_ne (by decide)).trans ((gA_sW_ne (by decide)).trans ((gA_sW_ne (by decide)).trans ((gA_sI).trans ((gA_sI).trans ((gA_sI).trans (gA_sI)))))))))).trans ?_; refine ((q2113 (i) (by omega) (by omega))).trans ?_; (first | rfl | exact eA_ix (by omega) | omega)) (fun k124_ => by refine Eq.trans ?_ (if_neg k124_).symm; refine (eA_ti (((gA_sI).trans ((gA_sA_ne (by decide)).trans ((gA_sW_ne (by decide)).trans ((gA_sW_ne (by decide)).trans ((gA_sI).trans ((gA_sI).trans ((gA_sI).trans (gA_sI)))))))))).trans ?_; refine ((q2113 (i) (by omega) (by omega))).trans ?_; (first | rfl | exact eA_ix (by omega) | omega))), (by intro i i0 i1; exact (Decidable.em (a1.toInt = 0)).elim (fun k125_ => by refine Eq.trans ?_ (if_pos k125_).symm; refine (eA_ti (((gA_sI).trans ((gA_sA_ne (by decide)).trans ((gA_sW_ne (by decide)).trans ((gA_sW_ne (by decide)).trans ((gA_sI).trans ((gA_sI).trans ((gA_sI).trans (gA_sI)))))))))).trans ?_; refine ((q2114 (i) (by omega) (by omega))).trans ?_; (first | rfl | exact eA_ix (by omega) | omega)) (fun k125_ => by refine Eq.trans ?_ (if_neg k125_).symm; refine (eA_ti (((gA_sI).trans ((gA_sA_ne (by decide)).trans ((gA_sW_ne (by decide)).trans ((gA_sW_ne (by decide)).trans ((gA_sI).trans ((gA_sI).trans ((gA_sI).trans (gA_sI)))))))))).trans ?_; refine ((q2114 (i) (by omega) (by omega))).trans ?_; (first | rfl | exact eA_ix (by omega) | omega))), (by intro i i0 i1; exact (Decidable.em (a1.toInt = 0)).elim (fun k126_ => by refine Eq.trans ?_ (if_pos k126_).symm; refine (eA_ti (((gA_sI).trans ((gA_sA_ne (by decide)).trans ((gA_sW_ne (by decide)).trans ((gA_sW_ne (by decide)).trans ((gA_sI).trans ((gA_sI).trans ((gA_sI).trans (gA_sI)))))))))).trans ?_; refine ((q2115 (i) (by omega) (by omega))).trans ?_; (first | rfl | exact eA_ix (by omega) | omega)) (fun k126_ => by refine Eq.trans ?_ (if_neg k126_).symm; refine (eA_ti (((gA_sI).trans ((gA_sA_ne (by decide)).trans ((gA_sW_ne (by decide)).trans ((gA_sW_ne (by decide)).trans ((gA_sI).trans ((gA_sI).trans ((gA_sI).trans (gA_sI)))))))))).trans ?_; refine ((q2115 (i) (by omega) (by omega))).trans ?_; (first | rfl | exact eA_ix (by omega) | omega))), (by intro i i0 i1; exact (Decidable.em (a1.toInt = 0)).elim (fun k127_ => by refine Eq.trans ?_ (if_pos k127_).symm; refine (eA_ti (((gA_sI).trans ((gA_sA_ne (by decide)).trans ((gA_sW_ne (by decide)).trans ((gA_sW_ne (by decide)).trans ((gA_sI).trans ((gA_sI).trans ((gA_sI).trans (gA_sI)))))))))).trans ?_; refine ((q2116 (i) (by omega) (by omega))).trans ?_; (first | rfl | exact eA_ix (by omega) | omega)) (fun k127_ => by refine Eq.trans ?_ (if_neg k127_).symm; refine (eA_ti (((gA_sI).trans ((gA_sA_ne (by decide)).trans ((gA_sW_ne (by decide)).trans ((gA_sW_ne (by decide)).trans ((gA_sI).trans ((gA_sI).trans ((gA_sI).trans (gA_sI)))))))))).trans ?_; refine ((q2116 (i) (by omega) (by omega))).trans ?_; (first | rfl | exact eA_ix (by omega) | omega))), (by intro i i0 i1; exact (Decidable.em (a1.toInt = 0)).elim (fun k128_ => by refine Eq.trans ?_ (if_pos k128_).symm; refine (eA_ti (((gA_sI).trans ((gA_sA_ne (by decide)).trans ((gA_sW_ne (by decide)).trans ((gA_sW_ne (by decide)).trans ((gA_sI).trans ((gA_sI).trans ((gA_sI).trans (gA_sI)))))))))).trans ?_; refine ((q2117 (i) (by omega) (by omega))).trans ?_; (first | rfl | exact eA_ix (by omega) | omega)) (fun k128_ => by refine Eq.trans ?_ (if_neg k128_).symm; refine (eA_ti (((gA_sI).trans ((gA_sA_ne (by decide)).trans ((gA_sW_ne (by decide)).trans ((gA_sW_ne (by decide)).trans ((gA_sI).trans ((gA_sI).trans ((gA_sI).trans (gA_sI)))))))))).trans ?_; refine ((q2117 (i) (by omega) (by omega))).trans ?_; (first | rfl | exact eA_ix (by omega) | omega))), (by intro i i0 i1; exact (Decidable.em (a1.toInt = 1)).elim (fun k129_ => by refine Eq.trans ?_ (if_pos k129_).symm; refine (eA_ti (((gA_sI).trans ((gA_sA_ne (by decide)).trans ((gA_sW_ne (by decide)).trans ((gA_sW_ne (by decide)).trans ((gA_sI).trans ((gA_sI).trans ((gA_sI).trans (gA_sI)))))))))).trans ?_; refine ((q2118 (i) (by omega) (by omega))).trans ?_; (first | rfl | exact eA_ix (by omega) | omega)) (fun k129_ => by refine Eq.trans ?_ (if_neg k129_).symm; refine (eA_ti (((gA_sI).trans ((gA_sA_ne (by decide)).trans ((gA_sW_ne (by decide)).trans ((gA_sW_ne (by decide)).trans ((gA_sI).trans ((gA_sI).trans ((gA_sI).trans (gA_sI)))))))))).trans ?_; refine ((q2118 (i) (by omega) (by omega))).trans ?_; (first | rfl | exact eA_ix (by omega) | omega))), (by intro i i0 i1; exact (Decidable.em (a1.toInt = 1)).elim (fun k130_ => by refine Eq.trans ?_ (if_pos k130_).symm; refine (eA_ti (((gA_sI).trans ((gA_sA_ne (by decide)).trans ((gA_sW_ne (by decide)).trans ((gA_sW_ne (by decide)).trans ((gA_sI).trans ((gA_sI).trans ((gA_sI).trans (gA_sI)))))))))).trans ?_; refine ((q2119 (i) (by omega) (by omega))).trans ?_; (first | rfl | exact eA_ix (by omega) | omega)) (fun k130_ => by refine Eq.trans ?_ (if_neg k130_).symm; refine (eA_ti (((gA_sI).trans ((gA_sA_ne (by decide)).trans ((gA_sW_ne (by decide)).trans ((gA_sW_ne (by decide)).trans ((gA_sI).trans ((gA_sI).trans ((gA_sI).trans (gA_sI)))))))))).trans ?_; refine ((q2119 (i) (by omega) (by omega))).trans ?_; (first | rfl | exact eA_ix (by omega) | omega))), (by intro i i0 i1; exact (Decidable.em (a1.toInt = 1)).elim (fun k131_ => by refine Eq.trans ?_ (if_pos k131_).symm; refine (eA_ti (((gA_sI).trans ((gA_sA_ne (by decide)).trans ((gA_sW_ne (by decide)).trans ((gA_sW_ne (by decide)).trans ((gA_sI).trans ((gA_sI).trans ((gA_sI).trans (gA_sI)))))))))).trans ?_; refine ((q2120 (i) (by omega) (by omega))).trans ?_; (first | rfl | exact eA_ix (by omega) | omega)) (fun k131_ => by refine Eq.trans ?_ (if_neg k131_).symm; refine (eA_ti (((gA_sI).trans ((gA_sA_ne (by decide)).trans ((gA_sW_ne (by decide)).trans ((gA_sW_ne (by decide)).trans ((gA_sI).trans ((gA_sI).trans ((gA_sI).trans (gA_sI)))))))))).trans ?_; refine ((q2120 (i) (by omega) (by omega))).trans ?_; (first | rfl | exact eA_ix (by omega) | omega))), (by intro i i0 i1; exact (Decidable.em (a1.toInt = 1)).elim (fun k132_ => by refine Eq.trans ?_ (if_pos k132_).symm; refine (eA_tq (((gA_sI).trans ((gA_sA_ne (by decide)).trans ((gA_sW_ne (by decide)).trans ((gA_cpF hI2150.1 ka_14 ka_129 (by decide) (by decide) (by decide)).trans ((gA_sI).trans ((gA_sI).trans ((gA_sI).trans ((gA_sI).trans (hF2093.2.1 14 (by decide)))))))))))).trans ?_; (first | rfl | exact eA_ix (by omega) | omega)) (fun k132_ => by refine Eq.trans ?_ (if_neg k132_).symm; refine (eA_tq (((gA_sI).trans ((gA_sA_ne (by decide)).trans ((gA_sW_ne (by decide)).trans ((gA_cpF hI2150.1 ka_14 ka_129 (by decide) (by decide) (by decide)).trans ((gA_sI).trans ((gA_sI).trans ((gA_sI).trans ((gA_sI).trans (hF2093.2.1 14 (by decide)))))))))))).trans ?_; (first | rfl | exact eA_ix (by omega) | omega))), (by intro i i0 i1; exact (Decidable.em (a1.toInt = 1)).elim (fun k133_ => by refine Eq.trans ?_ (if_pos k133_).symm; refine (eA_tq (((gA_sI).trans ((gA_sA_ne (by decide)).trans ((gA_cpF hI2155.1 ka_15 ka_130 (by decide) (by decide) (by decide)).trans ((gA_sW_ne (by decide)).trans ((gA_sI).trans ((gA_sI).trans ((gA_sI).trans ((gA_sI).trans (hF2093.2.1 15 (by decide)))))))))))).trans ?_; (first | rfl | exact eA_ix (by omega) | omega)) (fun k133_ => by refine Eq.trans ?_ (if_neg k133_).symm; refine (eA_tq (((gA_sI).trans ((gA_sA_ne (by decide)).trans ((gA_cpF hI2155.1 ka_15 ka_130 (by decide) (by decide) (by decide)).trans ((gA_sW_ne (by decide)).trans ((gA_sI).trans ((gA_sI).trans ((gA_sI).trans ((gA_sI).trans (hF2093.2.1 15 (by decide)))))))))))).trans ?_; (first | rfl | exact eA_ix (by omega) | omega))), (by intro i i0 i1; exact (Decidable.em (a1.toInt = 0)).elim (fun k134_ => by refine Eq.trans ?_ (if_pos k134_).symm; refine (eA_ti (((gA_sI).trans ((gA_sA_ne (by decide)).trans ((gA_sW_ne (by decide)).trans ((gA_sW_ne (by decide)).trans ((gA_sI).trans ((gA_sI).trans ((gA_sI).trans (gA_sI)))))))))).trans ?_; refine ((q2123 (i) (by omega) (by omega))).trans ?_; (first | rfl | exact eA_ix (by omega) | omega)) (fun k134_ => by refine Eq.trans ?_ (if_neg k134_).symm; refine (eA_ti (((gA_sI).trans ((gA_sA_ne (by decide)).trans ((gA_sW_ne (by decide)).trans ((gA_sW_ne (by decide)).trans ((gA_sI).trans ((gA_sI).trans ((gA_sI).trans (gA_sI)))))))))).trans ?_; refine ((q2123 (i) (by omega) (by omega))).trans ?_; (first | rfl | exact eA_ix (by omega) | omega))), (by intro i i0 i1; exact (Decidable.em (a1.toInt = 1)).elim (fun k135_ => by refine Eq.trans ?_ (if_pos k135_).symm; refine (eA_ti (((gA_sI).trans ((gA_sA_ne (by decide)).trans ((gA_sW_ne (by decide)).trans ((gA_sW_ne (by decide)).trans ((gA_sI).trans ((gA_sI).trans ((gA_sI).trans (gA_sI)))))))))).trans ?_; refine ((q2124 (i) (by omega) (by omega))).trans ?_; (first | rfl | exact eA_ix (by omega) | omega)) (fun k135_ => by refine Eq.trans ?_ (if_neg k135_).symm; refine (eA_ti (((gA_sI).trans ((gA_sA_ne (by decide)).trans ((gA_sW_ne (by decide)).trans ((gA_sW_ne (by decide)).trans ((gA_sI).trans ((gA_sI).trans ((gA_sI).trans (gA_sI)))))))))).trans ?_; refine ((q2124 (i) (by omega) (by omega))).trans ?_; (first | rfl | exact eA_ix (by omega) | omega)))⟩⟩
      · have c2139_ : x2090.toInt < 6 := en_i_ge_f c2139
        refine At.enter rfl ?_
        refine r_aload_n e2109 ?_
        refine r_iload_n e2111 ?_
        refine r_callV 97 rfl [.ref 116, .int x2090] [] (Nat.le_of_ble_eq_true rfl) rfl (T_X0_lawAt_116 _ hI2092 x2090) ?_
        rintro _ _ ⟨g2167, rfl, hI2168, hF2169, v2170, rfl, hr2171⟩
        refine At.str ?_
        have hF2172 := Fr.tr hF2093 hF2169 rfl rfl
        refine At.enter rfl ?_
        refine r_aload_n e2110 ?_
        refine r_iload_n e2111 ?_
        refine r_callV 102 rfl [.ref 1, .int x2090] [.ref (v2170)] (Nat.le_of_ble_eq_true rfl) rfl (T_X0_lawAt_1 _ hI2168 x2090) ?_
        rintro _ _ ⟨g2173, rfl, hI2174, hF2175, v2176, rfl, hr2177⟩
        refine At.str ?_
        have hF2178 := Fr.tr hF2172 hF2175 rfl rfl
        refine At.enter rfl ?_
        refine r_callV 105 rfl [.ref (v2170), .ref (v2176)] [] (Nat.le_of_ble_eq_true rfl) rfl (T_X4_become_law _ hI2174 (v2170) hr2171 (v2176) hr2177) ?_
        rintro _ _ ⟨g2179, rfl, hI2180, hF2181, rfl⟩
        refine At.stn ?_
        have hF2184 := Fr.tr hF2178 hF2181 rfl rfl
        refine At.enter rfl ?_
        refine q_iinc e2111 (x2090.toInt + 1) rfl (by omega) (fun v2185 hv2185 => ?_)
        refine r_goto ?_
        exact ih2096 (6 - v2185.toInt) _ _ ⟨v2185, by first | rfl | omega, hI2180, hF2184, (((hF2181.1 59 0 (by decide)).trans ((hF2175.1 59 0 (by decide)).trans (hF2169.1 59 0 (by decide)))).trans e2097), (((hF2181.1 59 10 (by decide)).trans ((hF2175.1 59 10 (by decide)).trans (hF2169.1 59 10 (by decide)))).trans e2098), (((hF2181.1 59 11 (by decide)).trans ((hF2175.1 59 11 (by decide)).trans (hF2169.1 59 11 (by decide)))).trans e2099), (((hF2181.1 59 12 (by decide)).trans ((hF2175.1 59 12 (by decide)).trans (hF2169.1 59 12 (by decide)))).trans e2100), (((hF2181.1 59 4 (by decide)).trans ((hF2175.1 59 4 (by decide)).trans (hF2169.1 59 4 (by decide)))).trans e2101), (((hF2181.1 116 0 (by decide)).trans ((hF2175.1 116 0 (by decide)).trans (hF2169.1 116 0 (by decide)))).trans e2102), (((hF2181.1 116 10 (by decide)).trans ((hF2175.1 116 10 (by decide)).trans (hF2169.1 116 10 (by decide)))).trans e2103), (((hF2181.1 116 11 (by decide)).trans ((hF2175.1 116 11 (by decide)).trans (hF2169.1 116 11 (by decide)))).trans e2104), (((hF2181.1 116 12 (by decide)).trans ((hF2175.1 116 12 (by decide)).trans (hF2169.1 116 12 (by decide)))).trans e2105), (((hF2181.1 116 4 (by decide)).trans ((hF2175.1 116 4 (by decide)).trans (hF2169.1 116 4 (by decide)))).trans e2106), (((eA_c (hF2181.2.1 173 (by decide))).trans ((eA_c (hF2175.2.1 173 (by decide))).trans (eA_c (hF2169.2.1 173 (by decide))))).trans e2107), (((eA_c (hF2181.2.1 173 (by decide))).trans ((eA_c (hF2175.2.1 173 (by decide))).trans (eA_c (hF2169.2.1 173 (by decide))))).trans e2108), (w_p1 (by decide) (Or.inr rfl) e2109), (w_p1 (by decide) (Or.inr rfl) e2110), (w_e1 _ _ _), by omega, (by intro i i0 i1; refine (eA_ti (((hF2181.2.1 60 (by decide)).trans ((hF2175.2.1 60 (by decide)).trans (hF2169.2.1 60 (by decide)))))).trans ?_; refine ((q2113 (i) (by omega) (by omega))).trans ?_; (first | rfl | exact eA_ix (by omega) | omega)), (by intro i i0 i1; refine (eA_ti (((hF2181.2.1 61 (by decide)).trans ((hF2175.2.1 61 (by decide)).trans (hF2169.2.1 61 (by decide)))))).trans ?_; refine ((q2114 (i) (by omega) (by omega))).trans ?_; (first | rfl | exact eA_ix (by omega) | omega)), (by intro i i0 i1; refine (eA_ti (((hF2181.2.1 62 (by decide)).trans ((hF2175.2.1 62 (by decide)).trans (hF2169.2.1 62 (by decide)))))).trans ?_; refine ((q2115 (i) (by omega) (by omega))).trans ?_; (first | rfl | exact eA_ix (by omega) | omega)), (by intro i i0 i1; refine (eA_ti (((hF2181.2.1 72 (by decide)).trans ((hF2175.2.1 72 (by decide)).trans (hF2169.2.1 72 (by decide)))))).trans ?_; refine ((q2116 (i) (by omega) (by omega))).trans ?_; (first | rfl | exact eA_ix (by omega) | omega)), (by intro i i0 i1; refine (eA_ti (((hF2181.2.1 73 (by decide)).trans ((hF2175.2.1 73 (by decide)).trans (hF2169.2.1 73 (by decide)))))).trans ?_; refine ((q2117 (i) (by omega) (by omega))).trans ?_; (first | rfl | exact eA_ix (by omega) | omega)), (by intro i i0 i1; refine (eA_ti (((hF2181.2.1 117 (by decide)).trans ((hF2175.2.1 117 (by decide)).trans (hF2169.2.1 117 (by decide)))))).trans ?_; refine ((q2118 (i) (by omega) (by omega))).trans ?_; (first | rfl | exact eA_ix (by omega) | omega)), (by intro i i0 i1; refine (eA_ti (((hF2181.2.1 118 (by decide)).trans ((hF2175.2.1 118 (by decide)).trans (hF2169.2.1 118 (by decide)))))).trans ?_; refine ((q2119 (i) (by omega) (by omega))).trans ?_; (first | rfl | exact eA_ix (by omega) | omega)), (by intro i i0 i1; refine (eA_ti (((hF2181.2.1 119 (by decide)).trans ((hF2175.2.1 119 (by decide)).trans (hF2169.2.1 119 (by decide)))))).trans ?_; refine ((q2120 (i) (by omega) (by omega))).trans ?_; (first | rfl | exact eA_ix (by omega) | omega)), (by intro i i0 i1; refine (eA_ti (((hF2181.2.1 129 (by decide)).trans ((hF2175.2.1 129 (by decide)).trans (hF2169.2.1 129 (by decide)))))).trans ?_; refine ((q2121 (i) (by omega) (by omega))).trans ?_; (first | rfl | exact eA_ix (by omega) | omega)), (by intro i i0 i1; refine (eA_ti (((hF2181.2.1 130 (by decide)).trans ((hF2175.2.1 130 (by decide)).trans (hF2169.2.1 130 (by decide)))))).trans ?_; refine ((q2122 (i) (by omega) (by omega))).trans ?_; (first | rfl | exact eA_ix (by omega) | omega)), (by intro i i0 i1; refine (eA_ti (((hF2181.2.1 63 (by decide)).trans ((hF2175.2.1 63 (by decide)).trans (hF2169.2.1 63 (by decide)))))).trans ?_; refine ((q2123 (i) (by omega) (by omega))).trans ?_; (first | rfl | exact eA_ix (by omega) | omega)), (by intro i i0 i1; refine (eA_ti (((hF2181.2.1 120 (by decide)).trans ((hF2175.2.1 120 (by decide)).trans (hF2169.2.1 120 (by decide)))))).trans ?_; refine ((q2124 (i) (by omega) (by omega))).trans ?_; (first | rfl | exact eA_ix (by omega) | omega))⟩ ⟨by omega, by omega⟩
