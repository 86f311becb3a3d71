def F_X9_fitsSigns_184 : List (Nat × Nat) := []
def A_X9_fitsSigns_184 : List Nat := []
theorem ma_X9_standAfter_184_14 : memA A_X9_standAfter_184 14 = false := by decide
set_option maxRecDepth 100000 in
set_option maxHeartbeats 4000000 in
theorem T_X9_fitsSigns_184 (d : Nat) {N : Nat} {g0 : List en_E} (hI0 : HI g0) (a1 : Int32) : Ev (d + 4) 99 [.ref 184, .int a1] (g0, N) (fun w h' => ∃ g', h' = (g', N) ∧ HI g' ∧ Fr F_X9_fitsSigns_184 A_X9_fitsSigns_184 g0 g' ∧ ∃ r : Int32, w = some (.int r) ∧ (0 ≤ r.toInt ∧ r.toInt ≤ 1) ∧ (BL (FITX g0 a1.toInt) r.toInt)) := by
  have hF0 : Fr F_X9_fitsSigns_184 A_X9_fitsSigns_184 g0 g0 := Fr.rf
  refine Ev.mk rfl rfl ⟨Nat.le_of_ble_eq_true rfl, Or.inr (q_rc hI0.1 kx_184 rfl)⟩ ?_
  show At _ none _ _ (0, [(0, .ref 184), (1, .int a1)], [], (_, _)) _
  refine At.enter rfl ?_
  refine r_iconst 0 rfl ?_
  refine r_istore_n ([(2, .int 0), (0, .ref 184), (1, .int a1)]) rfl ?_
  refine Ar.fall 2 rfl ?_
  have z_431 : (0 : Int32).toInt = 0 := rfl
  refine w_loopI (fun n_ l_ g_ => ∃ x418 : Int32, n_ = 8 - x418.toInt ∧ HI g_ ∧ Fr F_X9_fitsSigns_184 A_X9_fitsSigns_184 g0 g_ ∧ en_get 0 l_ = some (.ref 184) ∧ en_get 1 l_ = some (.int a1) ∧ en_get 2 l_ = some (.int x418) ∧ (0 ≤ x418.toInt ∧ x418.toInt ≤ 8) ∧ (∀ k : Int, 0 ≤ k → k < x418.toInt → itI (NX g0) (eA g0 15 k).toInt a1.toInt = (eA g0 14 k).toInt) ∧ (0 ≤ x418.toInt)) ?_ (8 - 0) ⟨0, by first | rfl | omega, hI0, hF0, rfl, rfl, rfl, by decide, (fun k h0 h1 => absurd h1 (by omega)), by omega⟩
  rintro n423 l422 g419 ⟨x418, hm432, hI420, hF421, e425, e426, e427, r428, q429, q430⟩ ih424
  refine At.enter rfl ?_
  refine r_iload_n e427 ?_
  refine r_aload_n e425 ?_
  refine q_getR (Sh.ref hI420.1 kx_184 rfl) ?_
  obtain ⟨v433, hv433⟩ : ∃ v, gI g0 1 12 = v := ⟨_, rfl⟩
  have rv433 := RgF.at hI0.2.1 (p := 1) (b := 12) rfl
  rw [hv433] at rv433
  dsimp only at rv433
  refine q_getI (Sh.int hI420.1 kx_1 rfl) v433 ((hF421.1 1 12 (by decide)).trans hv433) ?_
  have bv435 := q_bnd x418
  have bv436 := q_bnd v433
  refine r_ics 13 rfl (fun c434 => ?_) (fun c434 => ?_)
  · have c434_ : x418.toInt ≥ v433.toInt := en_i_ge_t c434
    refine At.enter rfl ?_
    refine r_iconst 1 rfl ?_
    refine r_iretz (by decide) ?_
    have zv437 : (1 : Int32).toInt = 1 := rfl
    have x438 := HI.eqI hI0 (p := 1) (b := 12) (hv433)
    exact ⟨_, rfl, hI420, hF421, _, rfl, by decide, (FITX.mk (fun k h0 h1 => q429 k h0 (by omega)) (by omega))⟩
  · have c434_ : x418.toInt < v433.toInt := en_i_ge_f c434
    refine At.enter rfl ?_
    refine r_iload_n e427 ?_
    refine r_bipush 8 rfl ?_
    refine r_ics 19 rfl (fun c439 => ?_) (fun c439 => ?_)
    · have c439_ : x418.toInt ≥ 8 := en_i_ge_t c439
      exfalso; omega
    · have c439_ : x418.toInt < 8 := en_i_ge_f c439
      refine At.enter rfl ?_
      refine r_aload_n e425 ?_
      refine r_iload_n e426 ?_
      refine r_aload_n e425 ?_
      refine q_getR (Sh.ref hI420.1 kx_184 rfl) ?_
      refine q_getR (Sh.ref hI420.1 kx_1 rfl) ?_
      refine r_iload_n e427 ?_
      obtain ⟨v440, hv440⟩ : ∃ v, eA g0 15 x418.toInt = v := ⟨_, rfl⟩
      refine q_iald (Sh.arr hI420.1 ka_15) x418.toInt rfl (by omega) v440 ((eA_c (hF421.2.1 15 (by decide))).trans hv440) ?_
      refine r_callV 33 rfl [.ref 184, .int a1, .int v440] [] (Nat.le_of_ble_eq_true rfl) rfl (T_X9_standAfter_184 _ hI420 a1 v440) ?_
      rintro _ _ ⟨g441, rfl, hI442, hF443, v444, rfl, hr445⟩
      refine At.sti ?_
      have hF446 := Fr.tr hF421 hF443 rfl rfl
      rw [NX.cI ((hF421.2.1 2 (by decide))) ((hF421.1 1 0 (by decide)))] at hr445
      refine At.enter rfl ?_
      refine r_aload_n e425 ?_
      refine q_getR (Sh.ref hI442.1 kx_184 rfl) ?_
      refine q_getR (Sh.ref hI442.1 kx_1 rfl) ?_
      refine r_iload_n e427 ?_
      obtain ⟨v447, hv447⟩ : ∃ v, eA g0 14 x418.toInt = v := ⟨_, rfl⟩
      refine q_iald (Sh.arr hI442.1 ka_14) x418.toInt rfl (by omega) v447 ((eA_c ((hF443.2.1 14 ma_X9_standAfter_184_14).trans (hF421.2.1 14 (by decide)))).trans hv447) ?_
      refine r_ics 45 rfl (fun c448 => ?_) (fun c448 => ?_)
      · have c448_ : v444.toInt = v447.toInt := en_i_eq_t c448
        refine At.enter rfl ?_
        refine q_iinc e427 (x418.toInt + 1) rfl (by omega) (fun v449 hv449 => ?_)
        refine r_goto ?_
        exact ih424 (8 - v449.toInt) _ _ ⟨v449, by first | rfl | omega, hI442, hF446, (w_p1 (by decide) (Or.inr rfl) e425), (w_p1 (by decide) (Or.inr rfl) e426), (w_e1 _ _ _), by omega, (fun k h0 h1 => (Decidable.em (k = x418.toInt)).elim (fun e => by rw [e, hv440, hv447]; omega) (fun e => q429 k h0 (by omega))), by omega⟩ ⟨by omega, by omega⟩
      · have c448_ : v444.toInt ≠ v447.toInt := en_i_eq_f c448
        refine At.enter rfl ?_
        refine r_iconst 0 rfl ?_
        refine r_iretz (by decide) ?_
        have zv450 : (0 : Int32).toInt = 0 := rfl
        have x451 := HI.eqI hI0 (p := 1) (b := 12) (hv433)
        exact ⟨_, rfl, hI442, hF446, _, rfl, by decide, (FITX.no x418.toInt (by omega) (by omega) (by rw [hv440, hv447]; omega) (by omega))⟩

def F_X9_suspects_184 : List (Nat × Nat) := []
def A_X9_suspects_184 : List Nat := []
set_option maxRecDepth 100000 in
set_option maxHeartbeats 4000000 in
theorem T_X9_suspects_184 (d : Nat) {N : Nat} {g0 : List en_E} (hI0 : HI g0) : Ev (d + 5) 98 [.ref 184] (g0, N) (fun w h' => ∃ g', h' = (g', N) ∧ HI g' ∧ Fr F_X9_suspects_184 A_X9_suspects_184 g0 g' ∧ ∃ r : Int32, w = some (.int r) ∧ True ∧ (r.toInt = (ACI (FITX g0) (gI g0 1 0).toInt).toInt)) := by
  have hF0 : Fr F_X9_suspects_184 A_X9_suspects_184 g0 g0 := Fr.rf
  refine Ev.mk rfl rfl ⟨Nat.le_of_ble_eq_true rfl, Or.inr (q_rc hI0.1 kx_184 rfl)⟩ ?_
  show At _ none _ _ (0, [(0, .ref 184)], [], (_, _)) _
  refine At.enter rfl ?_
  refine r_iconst 0 rfl ?_
  refine r_istore_n ([(1, .int 0), (0, .ref 184)]) rfl ?_
  refine r_iconst 0 rfl ?_
  refine r_istore_n ([(2, .int 0), (1, .int 0), (0, .ref 184)]) rfl ?_
  refine Ar.fall 4 rfl ?_
  have z_569 : (0 : Int32).toInt = 0 := rfl
  have z_570 : (0 : Int32).toInt = 0 := rfl
  obtain ⟨v571, hv571⟩ : ∃ v, gI g0 1 0 = v := ⟨_, rfl⟩
  have rv571 := RgF.at hI0.2.1 (p := 1) (b := 0) rfl
  rw [hv571] at rv571
  dsimp only at rv571
  have tv571 := congrArg Int32.toInt hv571
  refine w_loopI (fun n_ l_ g_ => ∃ x554 : Int32, ∃ x555 : Int32, n_ = 12 - x555.toInt ∧ HI g_ ∧ Fr F_X9_suspects_184 A_X9_suspects_184 g0 g_ ∧ en_get 0 l_ = some (.ref 184) ∧ en_get 1 l_ = some (.int x554) ∧ en_get 2 l_ = some (.int x555) ∧ (0 ≤ x555.toInt ∧ x555.toInt ≤ 12) ∧ (x554.toInt = (ACI (FITX g0) x555.toInt).toInt) ∧ (0 ≤ x555.toInt) ∧ (x555.toInt ≤ (gI g0 1 0).toInt)) ?_ (12 - 0) ⟨0, 0, by first | rfl | omega, hI0, hF0, rfl, rfl, rfl, by decide, ((by first | rfl | omega : _ = (0 : Int)).trans (ACI.z _ (by first | decide | omega))), by omega, by omega⟩
  rintro n560 l559 g556 ⟨x554, x555, hm572, hI557, hF558, e562, e563, e564, r565, q566, q567, q568⟩ ih561
  refine At.enter rfl ?_
  refine r_iload_n e564 ?_
  refine r_aload_n e562 ?_
  refine q_getR (Sh.ref hI557.1 kx_184 rfl) ?_
  refine q_getI (Sh.int hI557.1 kx_1 rfl) v571 ((hF558.1 1 0 (by decide)).trans hv571) ?_
  have bv574 := q_bnd x555
  have bv575 := q_bnd v571
  refine r_ics 15 rfl (fun c573 => ?_) (fun c573 => ?_)
  · have c573_ : x555.toInt ≥ v571.toInt := en_i_ge_t c573
    refine At.enter rfl ?_
    refine r_iload_n e563 ?_
    refine r_ireti ?_
    exact ⟨_, rfl, hI557, hF558, _, rfl, trivial, (by rw [show (gI g0 1 0).toInt = x555.toInt from by omega]; exact q566)⟩
  · have c573_ : x555.toInt < v571.toInt := en_i_ge_f c573
    refine At.enter rfl ?_
    refine r_aload_n e562 ?_
    refine r_iload_n e564 ?_
    refine r_callV 20 rfl [.ref 184, .int x555] [] (Nat.le_of_ble_eq_true rfl) rfl (T_X9_fitsSigns_184 _ hI557 x555) ?_
    rintro _ _ ⟨g577, rfl, hI578, hF579, v580, rfl, hr581⟩
    refine At.sti ?_
    have hF582 := Fr.tr hF558 hF579 rfl rfl
    refine At.enter rfl ?_
    refine r_ifs 23 rfl (fun c583 => ?_) (fun c583 => ?_)
    · have c583_ : v580.toInt = 0 := en_k_eq_t c583
      refine At.enter rfl ?_
      refine q_iinc e564 (x555.toInt + 1) rfl (by omega) (fun v584 hv584 => ?_)
      refine r_goto ?_
      have bv585 := q_bnd x554
      exact ih561 (12 - v584.toInt) _ _ ⟨x554, v584, by first | rfl | omega, hI578, hF582, (w_p1 (by decide) (Or.inr rfl) e562), (w_p1 (by decide) (Or.inr rfl) e563), (w_e1 _ _ _), by omega, (ACI.no (by omega) (show v584.toInt = x555.toInt + 1 from by omega) (fun f => BL.no hr581.2 (by omega) (((FITX.c (s := x555.toInt) ((hF558.2.1 2 (by decide))) ((hF558.2.1 14 (by decide))) ((hF558.2.1 15 (by decide))) ((hF558.1 1 0 (by decide))) ((hF558.1 1 12 (by decide))))).mpr f)) q566), by omega, by omega⟩ ⟨by omega, by omega⟩
    · have c583_ : v580.toInt ≠ 0 := en_k_eq_f c583
      refine At.enter rfl ?_
      refine r_iload_n e563 ?_
      refine r_iconst 1 rfl ?_
      refine r_iload_n e564 ?_
      refine q_ishlO (fun v586 hv586 => ?_)
      refine q_iorO (fun v587 hv587 => ?_)
      refine r_istore_n _ rfl ?_
      refine Ar.fall 29 rfl ?_
      refine At.enter rfl ?_
      refine q_iinc (w_p1 (by decide) (Or.inr rfl) e564) (x555.toInt + 1) rfl (by omega) (fun v588 hv588 => ?_)
      refine r_goto ?_
      have bv589 := q_bnd v587
      exact ih561 (12 - v588.toInt) _ _ ⟨v587, v588, by first | rfl | omega, hI578, hF582, (w_p1 (by decide) (Or.inr rfl) (w_p1 (by decide) (Or.inr rfl) e562)), (w_p1 (by decide) (Or.inr rfl) (w_e1 _ _ _)), (w_e1 _ _ _), by omega, (ACI.yes (i := x555) (by omega) (show v588.toInt = x555.toInt + 1 from by omega) (((FITX.c (s := x555.toInt) ((hF558.2.1 2 (by decide))) ((hF558.2.1 14 (by decide))) ((hF558.2.1 15 (by decide))) ((hF558.1 1 0 (by decide))) ((hF558.1 1 12 (by decide))))).mp (BL.yes hr581.2 (by omega))) rfl hv587 (by assumption) q566), by omega, by omega⟩ ⟨by omega, by omega⟩

def F_X9_meeting_184 : List (Nat × Nat) := []
def A_X9_meeting_184 : List Nat := []
theorem ma_X0_next_1_2 : memA A_X0_next_1 2 = false := by decide
theorem mf_X0_next_1_1_0 : memF F_X0_next_1 1 0 = false := by decide
set_option maxRecDepth 100000 in
set_option maxHeartbeats 4000000 in
theorem T_X9_meeting_184 (d : Nat) {N : Nat} {g0 : List en_E} (hI0 : HI g0) (a1 : Int32) (a2 : Int32) (a3 : Int32) : Ev (d + 3) 100 [.ref 184, .int a1, .int a2, .int a3] (g0, N) (fun w h' => ∃ g', h' = (g', N) ∧ HI g' ∧ Fr F_X9_meeting_184 A_X9_meeting_184 g0 g' ∧ ∃ r : Int32, w = some (.int r) ∧ True ∧ (MEET (NX g0) 144 a1.toInt a2.toInt a3.toInt r.toInt)) := by
  have hF0 : Fr F_X9_meeting_184 A_X9_meeting_184 g0 g0 := Fr.rf
  refine Ev.mk rfl rfl ⟨Nat.le_of_ble_eq_true rfl, Or.inr (q_rc hI0.1 kx_184 rfl)⟩ ?_
  show At _ none _ _ (0, [(0, .ref 184), (1, .int a1), (2, .int a2), (3, .int a3)], [], (_, _)) _
  refine At.enter rfl ?_
  refine r_iload_n rfl ?_
  refine r_istore ([(4, .int a1), (0, .ref 184), (1, .int a1), (2, .int a2), (3, .int a3)]) rfl ?_
  refine r_iload_n rfl ?_
  refine r_istore ([(5, .int a2), (4, .int a1), (0, .ref 184), (1, .int a1), (2, .int a2), (3, .int a3)]) rfl ?_
  refine r_iconst 0 rfl ?_
  refine r_istore ([(6, .int 0), (5, .int a2), (4, .int a1), (0, .ref 184), (1, .int a1), (2, .int a2), (3, .int a3)]) rfl ?_
  refine Ar.fall 9 rfl ?_
  have z_1360 : (0 : Int32).toInt = 0 := rfl
  refine w_loopI (fun n_ l_ g_ => ∃ x1339 : Int32, ∃ x1340 : Int32, ∃ x1341 : Int32, n_ = 145 - x1341.toInt ∧ HI g_ ∧ Fr F_X9_meeting_184 A_X9_meeting_184 g0 g_ ∧ en_get 0 l_ = some (.ref 184) ∧ en_get 1 l_ = some (.int a1) ∧ en_get 2 l_ = some (.int a2) ∧ en_get 3 l_ = some (.int a3) ∧ en_get 4 l_ = some (.int x1339) ∧ en_get 5 l_ = some (.int x1340) ∧ en_get 6 l_ = some (.int x1341) ∧ (0 ≤ x1341.toInt ∧ x1341.toInt ≤ 145) ∧ (x1339.toInt = itI (NX g0) x1341.toInt a1.toInt) ∧ (x1340.toInt = itI (NX g0) x1341.toInt a2.toInt) ∧ (∀ j : Int, 0 ≤ j → j < x1341.toInt → ¬ MT (NX g0) a1.toInt a2.toInt j) ∧ (0 ≤ x1341.toInt)) ?_ (145 - 0) ⟨a1, a2, 0, by first | rfl | omega, hI0, hF0, rfl, rfl, rfl, rfl, rfl, rfl, rfl, by decide, (itI_n _ (by first | decide | omega) _).symm, (itI_n _ (by first | decide | omega) _).symm, (fun j h0 h1 => absurd h1 (by omega)), by omega⟩
  rintro n1346 l1345 g1342 ⟨x1339, x1340, x1341, hm1361, hI1343, hF1344, e1348, e1349, e1350, e1351, e1352, e1353, e1354, r1355, q1356, q1357, q1358, q1359⟩ ih1347
  refine At.enter rfl ?_
  refine r_iload e1354 ?_
  refine r_sipush 144 rfl ?_
  refine r_ics 17 rfl (fun c1362 => ?_) (fun c1362 => ?_)
  · have c1362_ : x1341.toInt > 144 := en_i_gt_t c1362
    refine At.enter rfl ?_
    refine r_iconst (-1) rfl ?_
    refine r_ireti ?_
    have zv1363 : ((-1) : Int32).toInt = (-1) := rfl
    exact ⟨_, rfl, hI1343, hF1344, _, rfl, trivial, (by first | exact MEET.a x1341.toInt (by omega) (by omega) (by rw [← q1356, ← q1357]; omega) (by rw [← q1356]; omega) q1358 (by omega) (by rw [← q1356]; omega) | exact MEET.n (NX.e g0) q1358 (by rw [← q1356, ← q1357]; omega) (by omega))⟩
  · have c1362_ : x1341.toInt ≤ 144 := en_i_gt_f c1362
    refine At.enter rfl ?_
    refine r_iload e1352 ?_
    refine r_iconst (-1) rfl ?_
    refine r_ics 23 rfl (fun c1364 => ?_) (fun c1364 => ?_)
    · have c1364_ : x1339.toInt = (-1) := en_i_eq_t c1364
      refine At.enter rfl ?_
      refine r_iconst (-1) rfl ?_
      refine r_ireti ?_
      have zv1365 : ((-1) : Int32).toInt = (-1) := rfl
      exact ⟨_, rfl, hI1343, hF1344, _, rfl, trivial, (by first | exact MEET.a x1341.toInt (by omega) (by omega) (by rw [← q1356, ← q1357]; omega) (by rw [← q1356]; omega) q1358 (by omega) (by rw [← q1356]; omega) | exact MEET.n (NX.e g0) q1358 (by rw [← q1356, ← q1357]; omega) (by omega))⟩
    · have c1364_ : x1339.toInt ≠ (-1) := en_i_eq_f c1364
      refine At.enter rfl ?_
      refine r_iload e1353 ?_
      refine r_iconst (-1) rfl ?_
      refine r_ics 29 rfl (fun c1366 => ?_) (fun c1366 => ?_)
      · have c1366_ : x1340.toInt = (-1) := en_i_eq_t c1366
        refine At.enter rfl ?_
        refine r_iconst (-1) rfl ?_
        refine r_ireti ?_
        have zv1367 : ((-1) : Int32).toInt = (-1) := rfl
        exact ⟨_, rfl, hI1343, hF1344, _, rfl, trivial, (by first | exact MEET.a x1341.toInt (by omega) (by omega) (by rw [← q1356, ← q1357]; omega) (by rw [← q1356]; omega) q1358 (by omega) (by rw [← q1356]; omega) | exact MEET.n (NX.e g0) q1358 (by rw [← q1356, ← q1357]; omega) (by omega))⟩
      · have c1366_ : x1340.toInt ≠ (-1) := en_i_eq_f c1366
        refine At.enter rfl ?_
        refine r_iload e1352 ?_
        refine r_iload e1353 ?_
        refine r_ics 36 rfl (fun c1368 => ?_) (fun c1368 => ?_)
        · have c1368_ : x1339.toInt ≠ x1340.toInt := en_i_ne_t c1368
          refine At.enter rfl ?_
          refine r_aload_n e1348 ?_
          refine q_getR (Sh.ref hI1343.1 kx_184 rfl) ?_
          refine r_iload e1352 ?_
          refine r_callV 57 rfl [.ref 1, .int x1339] [] (Nat.le_of_ble_eq_true rfl) rfl (T_X0_next_1 _ hI1343 x1339) ?_
          rintro _ _ ⟨g1369, rfl, hI1370, hF1371, v1372, rfl, hr1373⟩
          refine At.sti ?_
          have ks1376 := hr1373.2.2
          have hr1375 : _ ∧ _ := ⟨hr1373.1, hr1373.2.1⟩
          have hF1374 := Fr.tr hF1344 hF1371 rfl rfl
          rw [NX.c ((hF1344.2.1 2 (by decide))) ((hF1344.1 1 0 (by decide)))] at hr1375
          refine At.enter rfl ?_
          refine r_istore _ rfl ?_
          refine r_aload_n (w_p1 (by decide) (Or.inr rfl) e1348) ?_
          refine q_getR (Sh.ref hI1370.1 kx_184 rfl) ?_
          refine r_iload (w_p1 (by decide) (Or.inr rfl) e1353) ?_
          refine r_callV 68 rfl [.ref 1, .int x1340] [] (Nat.le_of_ble_eq_true rfl) rfl (T_X0_next_1 _ hI1370 x1340) ?_
          rintro _ _ ⟨g1377, rfl, hI1378, hF1379, v1380, rfl, hr1381⟩
          refine At.sti ?_
          have ks1384 := hr1381.2.2
          have hr1383 : _ ∧ _ := ⟨hr1381.1, hr1381.2.1⟩
          have hF1382 := Fr.tr hF1374 hF1379 rfl rfl
          rw [NX.c (((hF1371.2.1 2 ma_X0_next_1_2).trans (hF1344.2.1 2 (by decide)))) (((hF1371.1 1 0 mf_X0_next_1_1_0).trans (hF1344.1 1 0 (by decide))))] at hr1383
          refine At.enter rfl ?_
          refine r_istore _ rfl ?_
          refine q_iinc (w_p1 (by decide) (Or.inr rfl) (w_p1 (by decide) (Or.inr rfl) e1354)) (x1341.toInt + 1) rfl (by omega) (fun v1385 hv1385 => ?_)
          refine r_goto ?_
          have bv1386 := q_bnd v1372
          have bv1387 := q_bnd v1380
          exact ih1347 (145 - v1385.toInt) _ _ ⟨v1372, v1380, v1385, by first | rfl | omega, hI1378, hF1382, (w_p1 (by decide) (Or.inr rfl) (w_p1 (by decide) (Or.inr rfl) (w_p1 (by decide) (Or.inr rfl) e1348))), (w_p1 (by decide) (Or.inr rfl) (w_p1 (by decide) (Or.inr rfl) (w_p1 (by decide) (Or.inr rfl) e1349))), (w_p1 (by decide) (Or.inr rfl) (w_p1 (by decide) (Or.inr rfl) (w_p1 (by decide) (Or.inr rfl) e1350))), (w_p1 (by decide) (Or.inr rfl) (w_p1 (by decide) (Or.inr rfl) (w_p1 (by decide) (Or.inr rfl) e1351))), (w_p1 (by decide) (Or.inr rfl) (w_p1 (by decide) (Or.inr rfl) (w_e1 _ _ _))), (w_p1 (by decide) (Or.inr rfl) (w_e1 _ _ _)), (w_e1 _ _ _), by omega, (by rw [show v1385.toInt = x1341.toInt + 1 from by omega, itI_s (NX g0) (by omega), ← q1356]; omega), (by rw [show v1385.toInt = x1341.toInt + 1 from by omega, itI_s (NX g0) (by omega), ← q1357]; omega), (MT.step q1358 (by rw [← q1356, ← q1357]; omega) (show v1385.toInt = x1341.toInt + 1 from by omega)), by omega⟩ ⟨by omega, by omega⟩
        · have c1368_ : x1339.toInt = x1340.toInt := en_i_ne_f c1368
          refine At.enter rfl ?_
          refine r_iload_n e1351 ?_
          refine r_ifs 40 rfl (fun c1388 => ?_) (fun c1388 => ?_)
          · have c1388_ : a3.toInt ≠ 0 := en_k_ne_t c1388
            refine At.enter rfl ?_
            refine r_iload e1352 ?_
            refine Ar.fall 47 rfl ?_
            refine At.enter rfl ?_
            refine r_ireti ?_
            exact ⟨_, rfl, hI1343, hF1344, _, rfl, trivial, (by first | exact MEET.a x1341.toInt (by omega) (by omega) (by rw [← q1356, ← q1357]; omega) (by rw [← q1356]; omega) q1358 (by omega) (by rw [← q1356]; omega) | exact MEET.n (NX.e g0) q1358 (by rw [← q1356, ← q1357]; omega) (by omega))⟩
          · have c1388_ : a3.toInt = 0 := en_k_ne_f c1388
            refine At.enter rfl ?_
            refine r_iload e1354 ?_
            refine r_goto ?_
            refine At.enter rfl ?_
            refine r_ireti ?_
            exact ⟨_, rfl, hI1343, hF1344, _, rfl, trivial, (by first | exact MEET.a x1341.toInt (by omega) (by omega) (by rw [← q1356, ← q1357]; omega) (by rw [← q1356]; omega) q1358 (by omega) (by rw [← q1356]; omega) | exact MEET.n (NX.e g0) q1358 (by rw [← q1356, ← q1357]; omega) (by omega))⟩

def F_X9_minutesInPieces_184 : List (Nat × Nat) := []
def A_X9_minutesInPieces_184 : List Nat := []
set_option maxRecDepth 100000 in
set_option maxHeartbeats 4000000 in
theorem T_X9_minutesInPieces_184 (d : Nat) {N : Nat} {g0 : List en_E} (hI0 : HI g0) (a1 : Int32) : Ev (d + 4) 101 [.ref 184, .int a1] (g0, N) (fun w h' => ∃ g', h' = (g', N) ∧ HI g' ∧ Fr F_X9_minutesInPieces_184 A_X9_minutesInPieces_184 g0 g' ∧ ∃ r : Int32, w = some (.int r) ∧ True ∧ ((0 ≤ a1.toInt ∧ a1.toInt < (gI g0 1 4).toInt) → (eA g0 5 (6 * a1.toInt + 2)).toInt ≠ -1 → PCE (NX g0) (SX g0) 11 (eA g0 5 (6 * a1.toInt + 1)).toInt (eA g0 5 (6 * a1.toInt + 2)).toInt (eA g0 5 (6 * a1.toInt + 0)).toInt r)) := by
  have hF0 : Fr F_X9_minutesInPieces_184 A_X9_minutesInPieces_184 g0 g0 := Fr.rf
  refine Ev.mk rfl rfl ⟨Nat.le_of_ble_eq_true rfl, Or.inr (q_rc hI0.1 kx_184 rfl)⟩ ?_
  show At _ none _ _ (0, [(0, .ref 184), (1, .int a1)], [], (_, _)) _
  refine At.enter rfl ?_
  refine r_aload_n rfl ?_
  refine q_getR (Sh.ref hI0.1 kx_184 rfl) ?_
  refine r_iload_n rfl ?_
  refine r_callV 8 rfl [.ref 1, .int a1] [] (Nat.le_of_ble_eq_true rfl) rfl (T_X0_handsOf_1 _ hI0 a1) ?_
  rintro _ _ ⟨g1319, rfl, hI1320, hF1321, v1322, rfl, hr1323⟩
  refine At.sti ?_
  have hF1324 := Fr.tr hF0 hF1321 rfl rfl
  refine At.enter rfl ?_
  refine r_istore_n ([(2, .int v1322), (0, .ref 184), (1, .int a1)]) rfl ?_
  refine r_aload_n rfl ?_
  refine q_getR (Sh.ref hI1320.1 kx_184 rfl) ?_
  refine r_iload_n rfl ?_
  refine r_iconst 1 rfl ?_
  refine r_callV 18 rfl [.ref 1, .int a1, .int 1] [] (Nat.le_of_ble_eq_true rfl) rfl (T_X0_about_1 _ hI1320 a1 1) ?_
  rintro _ _ ⟨g1325, rfl, hI1326, hF1327, v1328, rfl, hr1329⟩
  refine At.sti ?_
  have ks1332 := hr1329.2.2
  have hr1331 : _ ∧ _ := ⟨hr1329.1, hr1329.2.1⟩
  have hF1330 := Fr.tr hF1324 hF1327 rfl rfl
  have zv1333 : (1 : Int32).toInt = 1 := rfl
  have ab1334_ := ABX.c ((hF1321.2.1 5 ma_X0_handsOf_1_5)) ((hF1321.1 1 4 mf_X0_handsOf_1_1_4)) hr1331.2
  have ab1334 : ABX g0 a1.toInt 1 v1328.toInt := ab1334_
  refine At.enter rfl ?_
  refine r_istore_n ([(3, .int v1328), (2, .int v1322), (0, .ref 184), (1, .int a1)]) rfl ?_
  refine r_bipush 9 rfl ?_
  refine r_istore ([(4, .int 9), (3, .int v1328), (2, .int v1322), (0, .ref 184), (1, .int a1)]) rfl ?_
  refine r_iconst 0 rfl ?_
  refine r_istore ([(5, .int 0), (4, .int 9), (3, .int v1328), (2, .int v1322), (0, .ref 184), (1, .int a1)]) rfl ?_
  refine Ar.fall 26 rfl ?_
  have z_1909 : (9 : Int32).toInt = 9 := rfl
  have z_1910 : (0 : Int32).toInt = 0 := rfl
  refine w_loopI (fun n_ l_ g_ => ∃ x1888 : Int32, ∃ x1889 : Int32, ∃ x1890 : Int32, n_ = 11 - x1890.toInt ∧ HI g_ ∧ Fr F_X9_minutesInPieces_184 A_X9_minutesInPieces_184 g0 g_ ∧ en_get 0 l_ = some (.ref 184) ∧ en_get 1 l_ = some (.int a1) ∧ en_get 2 l_ = some (.int v1322) ∧ en_get 3 l_ = some (.int x1888) ∧ en_get 4 l_ = some (.int x1889) ∧ en_get 5 l_ = some (.int x1890) ∧ x1889.toInt ≤ 9 ∧ (0 ≤ x1890.toInt ∧ x1890.toInt ≤ 11) ∧ (x1888.toInt = itI (NX g0) x1890.toInt v1328.toInt) ∧ (x1889.toInt = LSI (NX g0) (SX g0) x1890.toInt v1328.toInt) ∧ (0 ≤ x1890.toInt) ∧ (x1890.toInt ≤ v1322.toInt ∨ x1890.toInt = 0)) ?_ (11 - 0) ⟨v1328, 9, 0, by first | rfl | omega, hI1326, hF1330, rfl, rfl, rfl, rfl, rfl, rfl, by decide, by decide, (itI_n _ (by first | decide | omega) _).symm, (LSI.z _ _ _ (by first | decide | omega)), by omega, by omega⟩
  rintro n1895 l1894 g1891 ⟨x1888, x1889, x1890, hm1911, hI1892, hF1893, e1897, e1898, e1899, e1900, e1901, e1902, r1903, r1904, q1905, q1906, q1907, q1908⟩ ih1896
  refine At.enter rfl ?_
  refine r_iload e1902 ?_
  refine r_iload_n e1899 ?_
  have bv1913 := q_bnd x1890
  have bv1914 := q_bnd v1322
  refine r_ics 32 rfl (fun c1912 => ?_) (fun c1912 => ?_)
  · have c1912_ : x1890.toInt ≥ v1322.toInt := en_i_ge_t c1912
    refine At.enter rfl ?_
    refine r_iload_n e1899 ?_
    refine r_ifs 78 rfl (fun c1915 => ?_) (fun c1915 => ?_)
    · have c1915_ : v1322.toInt ≤ 0 := en_k_le_t c1915
      refine At.enter rfl ?_
      refine r_iload_n e1899 ?_
      refine r_ireti ?_
      obtain ⟨v1916, hv1916⟩ : ∃ v, gI g0 1 0 = v := ⟨_, rfl⟩
      have rv1916 := RgF.at hI0.2.1 (p := 1) (b := 0) rfl
      rw [hv1916] at rv1916
      dsimp only at rv1916
      have tv1916 := congrArg Int32.toInt hv1916
      exact ⟨_, rfl, hI1892, hF1893, _, rfl, trivial, (fun h hw => by have e1 := ab1334.1 ⟨h.1, h.2, by decide, by decide⟩; have wf := hr1323.2 h hw; rw [← e1] at wf; rw [← e1]; first | (exact PCE.few v1322 wf (by omega) (by omega)) | (exact PCE.low v1322 x1889 wf (by rw [show v1322.toInt = x1890.toInt from by omega]; exact q1906) (by omega) (by omega)) | ((exfalso; have z := WAYF.stand wf hw (by omega) (by omega) q1905; omega)))⟩
    · have c1915_ : v1322.toInt > 0 := en_k_le_f c1915
      refine At.enter rfl ?_
      refine r_iload e1901 ?_
      refine r_iconst 1 rfl ?_
      refine r_ics 84 rfl (fun c1918 => ?_) (fun c1918 => ?_)
      · have c1918_ : x1889.toInt ≥ 1 := en_i_ge_t c1918
        refine At.enter rfl ?_
        refine r_iload_n e1899 ?_
        refine r_aload_n e1897 ?_
        refine q_getR (Sh.ref hI1892.1 kx_184 rfl) ?_
        refine r_iload_n e1898 ?_
        refine r_iconst 0 rfl ?_
        refine r_callV 96 rfl [.ref 1, .int a1, .int 0] [.int v1322] (Nat.le_of_ble_eq_true rfl) rfl (T_X0_about_1 _ hI1892 a1 0) ?_
        rintro _ _ ⟨g1919, rfl, hI1920, hF1921, v1922, rfl, hr1923⟩
        refine At.sti ?_
        have ks1926 := hr1923.2.2
        have hr1925 : _ ∧ _ := ⟨hr1923.1, hr1923.2.1⟩
        have hF1924 := Fr.tr hF1893 hF1921 rfl rfl
        have zv1927 : (0 : Int32).toInt = 0 := rfl
        have ab1928_ := ABX.c ((hF1893.2.1 5 (by decide))) ((hF1893.1 1 4 (by decide))) hr1925.2
        have ab1928 : ABX g0 a1.toInt 0 v1922.toInt := ab1928_
        refine At.enter rfl ?_
        refine r_iload e1901 ?_
        refine q_iaddO (fun v1929 ov1929 => ?_)
        refine r_iconst 1 rfl ?_
        refine q_isubO (fun v1930 ov1930 => ?_)
        refine r_iload e1901 ?_
        refine q_idivO (by omega) (fun v1931 ov1931 => ?_)
        refine q_iaddO (fun v1932 ov1932 => ?_)
        refine r_iconst 1 rfl ?_
        refine q_isubO (fun v1933 ov1933 => ?_)
        refine r_ireti ?_
        obtain ⟨v1934, hv1934⟩ : ∃ v, gI g0 1 0 = v := ⟨_, rfl⟩
        have rv1934 := RgF.at hI0.2.1 (p := 1) (b := 0) rfl
        rw [hv1934] at rv1934
        dsimp only at rv1934
        have tv1934 := congrArg Int32.toInt hv1934
        exact ⟨_, rfl, hI1920, hF1924, _, rfl, trivial, (fun h hw => by have e1 := ab1334.1 ⟨h.1, h.2, by decide, by decide⟩; have wf := hr1323.2 h hw; rw [← e1] at wf; rw [← e1]; first | (exact PCE.few v1322 wf (by omega) (by omega)) | (exact PCE.low v1322 x1889 wf (by rw [show v1322.toInt = x1890.toInt from by omega]; exact q1906) (by omega) (by omega)) | (exact PCE.mk v1322 x1889 v1922 wf (by rw [show v1322.toInt = x1890.toInt from by omega]; exact q1906) (by omega) (by omega) (ab1928.1 ⟨h.1, h.2, by decide, by decide⟩) (by rw [ov1933, ov1932, ov1931, ov1930, ov1929])) | ((exfalso; have z := WAYF.stand wf hw (by omega) (by omega) q1905; omega)))⟩
      · have c1918_ : x1889.toInt < 1 := en_i_ge_f c1918
        refine At.enter rfl ?_
        refine r_iload_n e1899 ?_
        refine r_ireti ?_
        obtain ⟨v1936, hv1936⟩ : ∃ v, gI g0 1 0 = v := ⟨_, rfl⟩
        have rv1936 := RgF.at hI0.2.1 (p := 1) (b := 0) rfl
        rw [hv1936] at rv1936
        dsimp only at rv1936
        have tv1936 := congrArg Int32.toInt hv1936
        exact ⟨_, rfl, hI1892, hF1893, _, rfl, trivial, (fun h hw => by have e1 := ab1334.1 ⟨h.1, h.2, by decide, by decide⟩; have wf := hr1323.2 h hw; rw [← e1] at wf; rw [← e1]; first | (exact PCE.few v1322 wf (by omega) (by omega)) | (exact PCE.low v1322 x1889 wf (by rw [show v1322.toInt = x1890.toInt from by omega]; exact q1906) (by omega) (by omega)) | ((exfalso; have z := WAYF.stand wf hw (by omega) (by omega) q1905; omega)))⟩
  · have c1912_ : x1890.toInt < v1322.toInt := en_i_ge_f c1912
    refine At.enter rfl ?_
    refine r_aload_n e1897 ?_
    refine q_getR (Sh.ref hI1892.1 kx_184 rfl) ?_
    refine r_iload_n e1900 ?_
    refine q_inlV 40 rfl [.ref 1, .int x1888] [] (Nat.le_of_ble_eq_true rfl) rfl ?_
    refine Ev.mk rfl rfl ⟨Nat.le_of_ble_eq_true rfl, Or.inr (q_rc hI1892.1 kx_1 rfl)⟩ ?_
    show At _ none _ _ (0, [(0, .ref 1), (1, .int x1888)], [], (_, _)) _
    refine At.enter rfl ?_
    refine r_iload_n rfl ?_
    refine r_ifs 4 rfl (fun c1938 => ?_) (fun c1938 => ?_)
    · have c1938_ : x1888.toInt < 0 := en_k_lt_t c1938
      refine At.enter rfl ?_
      refine r_iconst 0 rfl ?_
      refine Ar.fall 17 rfl ?_
      refine At.enter rfl ?_
      refine q_iretz (by decide) ?_
      refine At.enter rfl ?_
      refine r_ift (by decide) ?_
      refine At.enter rfl ?_
      refine r_iload_n e1899 ?_
      refine r_ifs 78 rfl (fun c1939 => ?_) (fun c1939 => ?_)
      · have c1939_ : v1322.toInt ≤ 0 := en_k_le_t c1939
        exfalso; omega
      · have c1939_ : v1322.toInt > 0 := en_k_le_f c1939
        refine At.enter rfl ?_
        refine r_iload e1901 ?_
        refine r_iconst 1 rfl ?_
        refine r_ics 84 rfl (fun c1940 => ?_) (fun c1940 => ?_)
        · have c1940_ : x1889.toInt ≥ 1 := en_i_ge_t c1940
          refine At.enter rfl ?_
          refine r_iload_n e1899 ?_
          refine r_aload_n e1897 ?_
          refine q_getR (Sh.ref hI1892.1 kx_184 rfl) ?_
          refine r_iload_n e1898 ?_
          refine r_iconst 0 rfl ?_
          refine r_callV 96 rfl [.ref 1, .int a1, .int 0] [.int v1322] (Nat.le_of_ble_eq_true rfl) rfl (T_X0_about_1 _ hI1892 a1 0) ?_
          rintro _ _ ⟨g1941, rfl, hI1942, hF1943, v1944, rfl, hr1945⟩
          refine At.sti ?_
          have ks1948 := hr1945.2.2
          have hr1947 : _ ∧ _ := ⟨hr1945.1, hr1945.2.1⟩
          have hF1946 := Fr.tr hF1893 hF1943 rfl rfl
          have zv1949 : (0 : Int32).toInt = 0 := rfl
          have ab1950_ := ABX.c ((hF1893.2.1 5 (by decide))) ((hF1893.1 1 4 (by decide))) hr1947.2
          have ab1950 : ABX g0 a1.toInt 0 v1944.toInt := ab1950_
          refine At.enter rfl ?_
          refine r_iload e1901 ?_
          refine q_iaddO (fun v1951 ov1951 => ?_)
          refine r_iconst 1 rfl ?_
          refine q_isubO (fun v1952 ov1952 => ?_)
          refine r_iload e1901 ?_
          refine q_idivO (by omega) (fun v1953 ov1953 => ?_)
          refine q_iaddO (fun v1954 ov1954 => ?_)
          refine r_iconst 1 rfl ?_
          refine q_isubO (fun v1955 ov1955 => ?_)
          refine r_ireti ?_
          obtain ⟨v1956, hv1956⟩ : ∃ v, gI g0 1 0 = v := ⟨_, rfl⟩
          have rv1956 := RgF.at hI0.2.1 (p := 1) (b := 0) rfl
          rw [hv1956] at rv1956
          dsimp only at rv1956
          have tv1956 := congrArg Int32.toInt hv1956
          exact ⟨_, rfl, hI1942, hF1946, _, rfl, trivial, (fun h hw => by have e1 := ab1334.1 ⟨h.1, h.2, by decide, by decide⟩; have wf := hr1323.2 h hw; rw [← e1] at wf; rw [← e1]; first | (exact PCE.few v1322 wf (by omega) (by omega)) | (exact PCE.low v1322 x1889 wf (by rw [show v1322.toInt = x1890.toInt from by omega]; exact q1906) (by omega) (by omega)) | (exact PCE.mk v1322 x1889 v1944 wf (by rw [show v1322.toInt = x1890.toInt from by omega]; exact q1906) (by omega) (by omega) (ab1950.1 ⟨h.1, h.2, by decide, by decide⟩) (by rw [ov1955, ov1954, ov1953, ov1952, ov1951])) | ((exfalso; have z := WAYF.stand wf hw (by omega) (by omega) q1905; omega)))⟩
        · have c1940_ : x1889.toInt < 1 := en_i_ge_f c1940
          refine At.enter rfl ?_
          refine r_iload_n e1899 ?_
          refine r_ireti ?_
          obtain ⟨v1958, hv1958⟩ : ∃ v, gI g0 1 0 = v := ⟨_, rfl⟩
          have rv1958 := RgF.at hI0.2.1 (p := 1) (b := 0) rfl
          rw [hv1958] at rv1958
          dsimp only at rv1958
          have tv1958 := congrArg Int32.toInt hv1958
          exact ⟨_, rfl, hI1892, hF1893, _, rfl, trivial, (fun h hw => by have e1 := ab1334.1 ⟨h.1, h.2, by decide, by decide⟩; have wf := hr1323.2 h hw; rw [← e1] at wf; rw [← e1]; first | (exact PCE.few v1322 wf (by omega) (by omega)) | (exact PCE.low v1322 x1889 wf (by rw [show v1322.toInt = x1890.toInt from by omega]; exact q1906) (by omega) (by omega)) | ((exfalso; have z := WAYF.stand wf hw (by omega) (by omega) q1905; omega)))⟩
    · have c1938_ : x1888.toInt ≥ 0 := en_k_lt_f c1938
      refine At.enter rfl ?_
      refine r_iload_n rfl ?_
      refine r_aload_n rfl ?_
      obtain ⟨v1960, hv1960⟩ : ∃ v, gI g0 1 0 = v := ⟨_, rfl⟩
      have rv1960 := RgF.at hI0.2.1 (p := 1) (b := 0) rfl
      rw [hv1960] at rv1960
      dsimp only at rv1960
      refine q_getI (Sh.int hI1892.1 kx_1 rfl) v1960 ((hF1893.1 1 0 (by decide)).trans hv1960) ?_
      have bv1962 := q_bnd x1888
      have bv1963 := q_bnd v1960
      refine r_ics 12 rfl (fun c1961 => ?_) (fun c1961 => ?_)
      · have c1961_ : x1888.toInt ≥ v1960.toInt := en_i_ge_t c1961
        refine At.enter rfl ?_
        refine r_iconst 0 rfl ?_
        refine Ar.fall 17 rfl ?_
        refine At.enter rfl ?_
        refine q_iretz (by decide) ?_
        refine At.enter rfl ?_
        refine r_ift (by decide) ?_
        refine At.enter rfl ?_
        refine r_iload_n e1899 ?_
        refine r_ifs 78 rfl (fun c1964 => ?_) (fun c1964 => ?_)
        · have c1964_ : v1322.toInt ≤ 0 := en_k_le_t c1964
          exfalso; omega
        · have c1964_ : v1322.toInt > 0 := en_k_le_f c1964
          refine At.enter rfl ?_
          refine r_iload e1901 ?_
          refine r_iconst 1 rfl ?_
          refine r_ics 84 rfl (fun c1965 => ?_) (fun c1965 => ?_)
          · have c1965_ : x1889.toInt ≥ 1 := en_i_ge_t c1965
            refine At.enter rfl ?_
            refine r_iload_n e1899 ?_
            refine r_aload_n e1897 ?_
            refine q_getR (Sh.ref hI1892.1 kx_184 rfl) ?_
            refine r_iload_n e1898 ?_
            refine r_iconst 0 rfl ?_
            refine r_callV 96 rfl [.ref 1, .int a1, .int 0] [.int v1322] (Nat.le_of_ble_eq_true rfl) rfl (T_X0_about_1 _ hI1892 a1 0) ?_
            rintro _ _ ⟨g1966, rfl, hI1967, hF1968, v1969, rfl, hr1970⟩
            refine At.sti ?_
            have ks1973 := hr1970.2.2
            have hr1972 : _ ∧ _ := ⟨hr1970.1, hr1970.2.1⟩
            have hF1971 := Fr.tr hF1893 hF1968 rfl rfl
            have zv1974 : (0 : Int32).toInt = 0 := rfl
            have ab1975_ := ABX.c ((hF1893.2.1 5 (by decide))) ((hF1893.1 1 4 (by decide))) hr1972.2
            have ab1975 : ABX g0 a1.toInt 0 v1969.toInt := ab1975_
            refine At.enter rfl ?_
            refine r_iload e1901 ?_
            refine q_iaddO (fun v1976 ov1976 => ?_)
            refine r_iconst 1 rfl ?_
            refine q_isubO (fun v1977 ov1977 => ?_)
            refine r_iload e1901 ?_
            refine q_idivO (by omega) (fun v1978 ov1978 => ?_)
            refine q_iaddO (fun v1979 ov1979 => ?_)
            refine r_iconst 1 rfl ?_
            refine q_isubO (fun v1980 ov1980 => ?_)
            refine r_ireti ?_
            have x1981 := HI.eqI hI0 (p := 1) (b := 0) (hv1960)
            exact ⟨_, rfl, hI1967, hF1971, _, rfl, trivial, (fun h hw => by have e1 := ab1334.1 ⟨h.1, h.2, by decide, by decide⟩; have wf := hr1323.2 h hw; rw [← e1] at wf; rw [← e1]; first | (exact PCE.few v1322 wf (by omega) (by omega)) | (exact PCE.low v1322 x1889 wf (by rw [show v1322.toInt = x1890.toInt from by omega]; exact q1906) (by omega) (by omega)) | (exact PCE.mk v1322 x1889 v1969 wf (by rw [show v1322.toInt = x1890.toInt from by omega]; exact q1906) (by omega) (by omega) (ab1975.1 ⟨h.1, h.2, by decide, by decide⟩) (by rw [ov1980, ov1979, ov1978, ov1977, ov1976])) | ((exfalso; have z := WAYF.stand wf hw (by omega) (by omega) q1905; omega)))⟩
          · have c1965_ : x1889.toInt < 1 := en_i_ge_f c1965
            refine At.enter rfl ?_
            refine r_iload_n e1899 ?_
            refine r_ireti ?_
            have x1982 := HI.eqI hI0 (p := 1) (b := 0) (hv1960)
            exact ⟨_, rfl, hI1892, hF1893, _, rfl, trivial, (fun h hw => by have e1 := ab1334.1 ⟨h.1, h.2, by decide, by decide⟩; have wf := hr1323.2 h hw; rw [← e1] at wf; rw [← e1]; first | (exact PCE.few v1322 wf (by omega) (by omega)) | (exact PCE.low v1322 x1889 wf (by rw [show v1322.toInt = x1890.toInt from by omega]; exact q1906) (by omega) (by omega)) | ((exfalso; have z := WAYF.stand wf hw (by omega) (by omega) q1905; omega)))⟩
      · have c1961_ : x1888.toInt < v1960.toInt := en_i_ge_f c1961
        refine At.enter rfl ?_
        refine r_iconst 1 rfl ?_
        refine r_goto ?_
        refine At.enter rfl ?_
        refine q_iretz (by decide) ?_
        refine At.enter rfl ?_
        refine r_iff 43 rfl (by decide) ?_
        refine At.enter rfl ?_
        refine r_iload e1901 ?_
        refine r_aload_n e1897 ?_
        refine q_getR (Sh.ref hI1892.1 kx_184 rfl) ?_
        refine q_getR (Sh.ref hI1892.1 kx_1 rfl) ?_
        refine r_iload_n e1900 ?_
        obtain ⟨v1983, hv1983⟩ : ∃ v, eA g0 3 x1888.toInt = v := ⟨_, rfl⟩
        refine q_iald (Sh.arr hI1892.1 ka_3) x1888.toInt rfl (by omega) v1983 ((eA_c (hF1893.2.1 3 (by decide))).trans hv1983) ?_
        refine q_mmin rfl (Nat.le_of_ble_eq_true rfl) (fun v1984 hv1984 => ?_)
        refine r_istore _ rfl ?_
        refine r_aload_n (w_p1 (by decide) (Or.inr rfl) e1897) ?_
        refine q_getR (Sh.ref hI1892.1 kx_184 rfl) ?_
        refine r_iload_n (w_p1 (by decide) (Or.inr rfl) e1900) ?_
        refine r_callV 67 rfl [.ref 1, .int x1888] [] (Nat.le_of_ble_eq_true rfl) rfl (T_X0_next_1 _ hI1892 x1888) ?_
        rintro _ _ ⟨g1985, rfl, hI1986, hF1987, v1988, rfl, hr1989⟩
        refine At.sti ?_
        have ks1992 := hr1989.2.2
        have hr1991 : _ ∧ _ := ⟨hr1989.1, hr1989.2.1⟩
        have hF1990 := Fr.tr hF1893 hF1987 rfl rfl
        rw [NX.c ((hF1893.2.1 2 (by decide))) ((hF1893.1 1 0 (by decide)))] at hr1991
        refine At.enter rfl ?_
        refine r_istore_n _ rfl ?_
        refine q_iinc (w_p1 (by decide) (Or.inr rfl) (w_p1 (by decide) (Or.inr rfl) e1902)) (x1890.toInt + 1) rfl (by omega) (fun v1993 hv1993 => ?_)
        refine r_goto ?_
        have bv1994 := q_bnd v1988
        have bv1995 := q_bnd v1984
        exact ih1896 (11 - v1993.toInt) _ _ ⟨v1988, v1984, v1993, by first | rfl | omega, hI1986, hF1990, (w_p1 (by decide) (Or.inr rfl) (w_p1 (by decide) (Or.inr rfl) (w_p1 (by decide) (Or.inr rfl) e1897))), (w_p1 (by decide) (Or.inr rfl) (w_p1 (by decide) (Or.inr rfl) (w_p1 (by decide) (Or.inr rfl) e1898))), (w_p1 (by decide) (Or.inr rfl) (w_p1 (by decide) (Or.inr rfl) (w_p1 (by decide) (Or.inr rfl) e1899))), (w_p1 (by decide) (Or.inr rfl) (w_e1 _ _ _)), (w_p1 (by decide) (Or.inr rfl) (w_p1 (by decide) (Or.inr rfl) (w_e1 _ _ _))), (w_e1 _ _ _), by omega, by omega, (by rw [show v1993.toInt = x1890.toInt + 1 from by omega, itI_s (NX g0) (by omega), ← q1905]; omega), (LSI.step (x := v1983.toInt) (by omega) (show v1993.toInt = x1890.toInt + 1 from by omega) q1906 (by rw [← q1905]; exact congrArg Int32.toInt hv1983) ⟨by omega, by omega, by omega⟩), by omega, by omega⟩ ⟨by omega, by omega⟩
