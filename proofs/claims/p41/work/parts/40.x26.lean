def F_X9_fitsSigns_184 : List (Nat × Nat) := []
def A_X9_fitsSigns_184 : List Nat := []
theorem ma_X9_standAfter_184_14 : memA A_X9_standAfter_184 14 = false := by decide
set_option maxRecDepth 100000 in
set_option maxHeartbeats 4000000 in
theorem T_X9_fitsSigns_184 (d : Nat) {N : Nat} {g0 : List en_E} (hI0 : HI g0) (a1 : Int32) : Ev (d + 4) 99 [.ref 184, .int a1] (g0, N) (fun w h' => ∃ g', h' = (g', N) ∧ HI g' ∧ Fr F_X9_fitsSigns_184 A_X9_fitsSigns_184 g0 g' ∧ ∃ r : Int32, w = some (.int r) ∧ (0 ≤ r.toInt ∧ r.toInt ≤ 1) ∧ (BL (FITX g0 a1.toInt) r.toInt)) := by
  have hF0 : Fr F_X9_fitsSigns_184 A_X9_fitsSigns_184 g0 g0 := Fr.rf
  refine Ev.mk rfl rfl ⟨Nat.le_of_ble_eq_true rfl, Or.inr (q_rc hI0.1 kx_184 rfl)⟩ ?_
  show At _ none _ _ (0, [(0, .ref 184), (1, .int a1)], [], (_, _)) _
  refine At.enter rfl ?_
  refine r_iconst 0 rfl ?_
  refine r_istore_n ([(2, .int 0), (0, .ref 184), (1, .int a1)]) rfl ?_
  refine Ar.fall 2 rfl ?_
  have z_431 : (0 : Int32).toInt = 0 := rfl
  refine w_loopI (fun n_ l_ g_ => ∃ x418 : Int32, n_ = 8 - x418.toInt ∧ HI g_ ∧ Fr F_X9_fitsSigns_184 A_X9_fitsSigns_184 g0 g_ ∧ en_get 0 l_ = some (.ref 184) ∧ en_get 1 l_ = some (.int a1) ∧ en_get 2 l_ = some (.int x418) ∧ (0 ≤ x418.toInt ∧ x418.toInt ≤ 8) ∧ (∀ k : Int, 0 ≤ k → k < x418.toInt → itI (NX g0) (eA g0 15 k).toInt a1.toInt = (eA g0 14 k).toInt) ∧ (0 ≤ x418.toInt)) ?_ (8 - 0) ⟨0, by first | rfl | omega, hI0, hF0, rfl, rfl, rfl, by decide, (fun k h0 h1 => absurd h1 (by omega)), by omega⟩
  rintro n423 l422 g419 ⟨x418, hm432, hI420, hF421, e425, e426, e427, r428, q429, q430⟩ ih424
  refine At.enter rfl ?_
  refine r_iload_n e427 ?_
  refine r_aload_n e425 ?_
  refine q_getR (Sh.ref hI420.1 kx_184 rfl) ?_
  obtain ⟨v433, hv433⟩ : ∃ v, gI g0 1 12 = v := ⟨_, rfl⟩
  have rv433 := RgF.at hI0.2.1 (p := 1) (b := 12) rfl
  rw [hv433] at rv433
  dsimp only at rv433
  refine q_getI (Sh.int hI420.1 kx_1 rfl) v433 ((hF421.1 1 12 (by decide)).trans hv433) ?_
  have bv435 := q_bnd x418
  have bv436 := q_bnd v433
  refine r_ics 13 rfl (fun c434 => ?_) (fun c434 => ?_)
  · have c434_ : x418.toInt ≥ v433.toInt := en_i_ge_t c434
    refine At.enter rfl ?_
    refine r_iconst 1 rfl ?_
    refine r_iretz (by decide) ?_
    have zv437 : (1 : Int32).toInt = 1 := rfl
    have x438 := HI.eqI hI0 (p := 1) (b := 12) (hv433)
    exact ⟨_, rfl, hI420, hF421, _, rfl, by decide, (FITX.mk (fun k h0 h1 => q429 k h0 (by omega)) (by omega))⟩
  · have c434_ : x418.toInt < v433.toInt := en_i_ge_f c434
    refine At.enter rfl ?_
    refine r_iload_n e427 ?_
    refine r_bipush 8 rfl ?_
    refine r_ics 19 rfl (fun c439 => ?_) (fun c439 => ?_)
    · have c439_ : x418.toInt ≥ 8 := en_i_ge_t c439
      exfalso; omega
    · have c439_ : x418.toInt < 8 := en_i_ge_f c439
      refine At.enter rfl ?_
      refine r_aload_n e425 ?_
      refine r_iload_n e426 ?_
      refine r_aload_n e425 ?_
      refine q_getR (Sh.ref hI420.1 kx_184 rfl) ?_
      refine q_getR (Sh.ref hI420.1 kx_1 rfl) ?_
      refine r_iload_n e427 ?_
      obtain ⟨v440, hv440⟩ : ∃ v, eA g0 15 x418.toInt = v := ⟨_, rfl⟩
      refine q_iald (Sh.arr hI420.1 ka_15) x418.toInt rfl (by omega) v440 ((eA_c (hF421.2.1 15 (by decide))).trans hv440) ?_
      refine r_callV 33 rfl [.ref 184, .int a1, .int v440] [] (Nat.le_of_ble_eq_true rfl) rfl (T_X9_standAfter_184 _ hI420 a1 v440) ?_
      rintro _ _ ⟨g441, rfl, hI442, hF443, v444, rfl, hr445⟩
      refine At.sti ?_
      have hF446 := Fr.tr hF421 hF443 rfl rfl
      rw [NX.cI ((hF421.2.1 2 (by decide))) ((hF421.1 1 0 (by decide)))] at hr445
      refine At.enter rfl ?_
      refine r_aload_n e425 ?_
      refine q_getR (Sh.ref hI442.1 kx_184 rfl) ?_
      refine q_getR (Sh.ref hI442.1 kx_1 rfl) ?_
      refine r_iload_n e427 ?_
      obtain ⟨v447, hv447⟩ : ∃ v, eA g0 14 x418.toInt = v := ⟨_, rfl⟩
      refine q_iald (Sh.arr hI442.1 ka_14) x418.toInt rfl (by omega) v447 ((eA_c ((hF443.2.1 14 ma_X9_standAfter_184_14).trans (hF421.2.1 14 (by decide)))).trans hv447) ?_
      refine r_ics 45 rfl (fun c448 => ?_) (fun c448 => ?_)
      · have c448_ : v444.toInt = v447.toInt := en_i_eq_t c448
        refine At.enter rfl ?_
        refine q_iinc e427 (x418.toInt + 1) rfl (by omega) (fun v449 hv449 => ?_)
        refine r_goto ?_
        exact ih424 (8 - v449.toInt) _ _ ⟨v449, by first | rfl | omega, hI442, hF446, (w_p1 (by decide) (Or.inr rfl) e425), (w_p1 (by decide) (Or.inr rfl) e426), (w_e1 _ _ _), by omega, (fun k h0 h1 => (Decidable.em (k = x418.toInt)).elim (fun e => by rw [e, hv440, hv447]; omega) (fun e => q429 k h0 (by omega))), by omega⟩ ⟨by omega, by omega⟩
      · have c448_ : v444.toInt ≠ v447.toInt := en_i_eq_f c448
        refine At.enter rfl ?_
        refine r_iconst 0 rfl ?_
        refine r_iretz (by decide) ?_
        have zv450 : (0 : Int32).toInt = 0 := rfl
        have x451 := HI.eqI hI0 (p := 1) (b := 12) (hv433)
        exact ⟨_, rfl, hI442, hF446, _, rfl, by decide, (FITX.no x418.toInt (by omega) (by omega) (by rw [hv440, hv447]; omega) (by omega))⟩

def F_X9_suspects_184 : List (Nat × Nat) := []
def A_X9_suspects_184 : List Nat := []
set_option maxRecDepth 100000 in
set_option maxHeartbeats 4000000 in
theorem T_X9_suspects_184 (d : Nat) {N : Nat} {g0 : List en_E} (hI0 : HI g0) : Ev (d + 5) 98 [.ref 184] (g0, N) (fun w h' => ∃ g', h' = (g', N) ∧ HI g' ∧ Fr F_X9_suspects_184 A_X9_suspects_184 g0 g' ∧ ∃ r : Int32, w = some (.int r) ∧ True ∧ (r.toInt = (ACI (FITX g0) (gI g0 1 0).toInt).toInt)) := by
  have hF0 : Fr F_X9_suspects_184 A_X9_suspects_184 g0 g0 := Fr.rf
  refine Ev.mk rfl rfl ⟨Nat.le_of_ble_eq_true rfl, Or.inr (q_rc hI0.1 kx_184 rfl)⟩ ?_
  show At _ none _ _ (0, [(0, .ref 184)], [], (_, _)) _
  refine At.enter rfl ?_
  refine r_iconst 0 rfl ?_
  refine r_istore_n ([(1, .int 0), (0, .ref 184)]) rfl ?_
  refine r_iconst 0 rfl ?_
  refine r_istore_n ([(2, .int 0), (1, .int 0), (0, .ref 184)]) rfl ?_
  refine Ar.fall 4 rfl ?_
  have z_569 : (0 : Int32).toInt = 0 := rfl
  have z_570 : (0 : Int32).toInt = 0 := rfl
  obtain ⟨v571, hv571⟩ : ∃ v, gI g0 1 0 = v := ⟨_, rfl⟩
  have rv571 := RgF.at hI0.2.1 (p := 1) (b := 0) rfl
  rw [hv571] at rv571
  dsimp only at rv571
  have tv571 := congrArg Int32.toInt hv571
  refine w_loopI (fun n_ l_ g_ => ∃ x554 : Int32, ∃ x555 : Int32, n_ = 12 - x555.toInt ∧ HI g_ ∧ Fr F_X9_suspects_184 A_X9_suspects_184 g0 g_ ∧ en_get 0 l_ = some (.ref 184) ∧ en_get 1 l_ = some (.int x554) ∧ en_get 2 l_ = some (.int x555) ∧ (0 ≤ x555.toInt ∧ x555.toInt ≤ 12) ∧ (x554.toInt = (ACI (FITX g0) x555.toInt).toInt) ∧ (0 ≤ x555.toInt) ∧ (x555.toInt ≤ (gI g0 1 0).toInt)) ?_ (12 - 0) ⟨0, 0, by first | rfl | omega, hI0, hF0, rfl, rfl, rfl, by decide, ((by first | rfl | omega : _ = (0 : Int)).trans (ACI.z _ (by first | decide | omega))), by omega, by omega⟩
  rintro n560 l559 g556 ⟨x554, x555, hm572, hI557, hF558, e562, e563, e564, r565, q566, q567, q568⟩ ih561
  refine At.enter rfl ?_
  refine r_iload_n e564 ?_
  refine r_aload_n e562 ?_
  refine q_getR (Sh.ref hI557.1 kx_184 rfl) ?_
  refine q_getI (Sh.int hI557.1 kx_1 rfl) v571 ((hF558.1 1 0 (by decide)).trans hv571) ?_
  have bv574 := q_bnd x555
  have bv575 := q_bnd v571
  refine r_ics 15 rfl (fun c573 => ?_) (fun c573 => ?_)
  · have c573_ : x555.toInt ≥ v571.toInt := en_i_ge_t c573
    refine At.enter rfl ?_
    refine r_iload_n e563 ?_
    refine r_ireti ?_
    exact ⟨_, rfl, hI557, hF558, _, rfl, trivial, (by rw [show (gI g0 1 0).toInt = x555.toInt from by omega]; exact q566)⟩
  · have c573_ : x555.toInt < v571.toInt := en_i_ge_f c573
    refine At.enter rfl ?_
    refine r_aload_n e562 ?_
    refine r_iload_n e564 ?_
    refine r_callV 20 rfl [.ref 184, .int x555] [] (Nat.le_of_ble_eq_true rfl) rfl (T_X9_fitsSigns_184 _ hI557 x555) ?_
    rintro _ _ ⟨g577, rfl, hI578, hF579, v580, rfl, hr581⟩
    refine At.sti ?_
    have hF582 := Fr.tr hF558 hF579 rfl rfl
    refine At.enter rfl ?_
    refine r_ifs 23 rfl (fun c583 => ?_) (fun c583 => ?_)
    · have c583_ : v580.toInt = 0 := en_k_eq_t c583
      refine At.enter rfl ?_
      refine q_iinc e564 (x555.toInt + 1) rfl (by omega) (fun v584 hv584 => ?_)
      refine r_goto ?_
      have bv585 := q_bnd x554
      exact ih561 (12 - v584.toInt) _ _ ⟨x554, v584, by first | rfl | omega, hI578, hF582, (w_p1 (by decide) (Or.inr rfl) e562), (w_p1 (by decide) (Or.inr rfl) e563), (w_e1 _ _ _), by omega, (ACI.no (by omega) (show v584.toInt = x555.toInt + 1 from by omega) (fun f => BL.no hr581.2 (by omega) (((FITX.c (s := x555.toInt) ((hF558.2.1 2 (by decide))) ((hF558.2.1 14 (by decide))) ((hF558.2.1 15 (by decide))) ((hF558.1 1 0 (by decide))) ((hF558.1 1 12 (by decide))))).mpr f)) q566), by omega, by omega⟩ ⟨by omega, by omega⟩
    · have c583_ : v580.toInt ≠ 0 := en_k_eq_f c583
      refine At.enter rfl ?_
      refine r_iload_n e563 ?_
      refine r_iconst 1 rfl ?_
      refine r_iload_n e564 ?_
      refine q_ishlO (fun v586 hv586 => ?_)
      refine q_iorO (fun v587 hv587 => ?_)
      refine r_istore_n _ rfl ?_
      refine Ar.fall 29 rfl ?_
      refine At.enter rfl ?_
      refine q_iinc (w_p1 (by decide) (Or.inr rfl) e564) (x555.toInt + 1) rfl (by omega) (fun v588 hv588 => ?_)
      refine r_goto ?_
      have bv589 := q_bnd v587
      exact ih561 (12 - v588.toInt) _ _ ⟨v587, v588, by first | rfl | omega, hI578, hF582, (w_p1 (by decide) (Or.inr rfl) (w_p1 (by decide) (Or.inr rfl) e562)), (w_p1 (by decide) (Or.inr rfl) (w_e1 _ _ _)), (w_e1 _ _ _), by omega, (ACI.yes (i := x555) (by omega) (show v588.toInt = x555.toInt + 1 from by omega) (((FITX.c (s := x555.toInt) ((hF558.2.1 2 (by decide))) ((hF558.2.1 14 (by decide))) ((hF558.2.1 15 (by decide))) ((hF558.1 1 0 (by decide))) ((hF558.1 1 12 (by decide))))).mp (BL.yes hr581.2 (by omega))) rfl hv587 (by assumption) q566), by omega, by omega⟩ ⟨by omega, by omega⟩

def F_X9_meeting_184 : List (Nat × Nat) := []
def A_X9_meeting_184 : List Nat := []
theorem ma_X0_next_1_2 : memA A_X0_next_1 2 = false := by decide
theorem mf_X0_next_1_1_0 : memF F_X0_next_1 1 0 = false := by decide
set_option maxRecDepth 100000 in
set_option maxHeartbeats 4000000 in
theorem T_X9_meeting_184 (d : Nat) {N : Nat} {g0 : List en_E} (hI0 : HI g0) (a1 : Int32) (a2 : Int32) (a3 : Int32) : Ev (d + 3) 100 [.ref 184, .int a1, .int a2, .int a3] (g0, N) (fun w h' => ∃ g', h' = (g', N) ∧ HI g' ∧ Fr F_X9_meeting_184 A_X9_meeting_184 g0 g' ∧ ∃ r : Int32, w = some (.int r) ∧ True ∧ (MEET (NX g0) 144 a1.toInt a2.toInt a3.toInt r.toInt)) := by
  have hF0 : Fr F_X9_meeting_184 A_X9_meeting_184 g0 g0 := Fr.rf
  refine Ev.mk rfl rfl ⟨Nat.le_of_ble_eq_true rfl, Or.inr (q_rc hI0.1 kx_184 rfl)⟩ ?_
  show At _ none _ _ (0, [(0, .ref 184), (1, .int a1), (2, .int a2), (3, .int a3)], [], (_, _)) _
  refine At.enter rfl ?_
  refine r_iload_n rfl ?_
  refine r_istore ([(4, .int a1), (0, .ref 184), (1, .int a1), (2, .int a2), (3, .int a3)]) rfl ?_
  refine r_iload_n rfl ?_
  refine r_istore ([(5, .int a2), (4, .int a1), (0, .ref 184), (1, .int a1), (2, .int a2), (3, .int a3)]) rfl ?_
  refine r_iconst 0 rfl ?_
  refine r_istore ([(6, .int 0), (5, .int a2), (4, .int a1), (0, .ref 184), (1, .int a1), (2, .int a2), (3, .int a3)]) rfl ?_
  refine Ar.fall 9 rfl ?_
  have z_1160 : (0 : Int32).toInt = 0 := rfl
  refine w_loopI (fun n_ l_ g_ => ∃ x1139 : Int32, ∃ x1140 : Int32, ∃ x1141 : Int32, n_ = 145 - x1141.toInt ∧ HI g_ ∧ Fr F_X9_meeting_184 A_X9_meeting_184 g0 g_ ∧ en_get 0 l_ = some (.ref 184) ∧ en_get 1 l_ = some (.int a1) ∧ en_get 2 l_ = some (.int a2) ∧ en_get 3 l_ = some (.int a3) ∧ en_get 4 l_ = some (.int x1139) ∧ en_get 5 l_ = some (.int x1140) ∧ en_get 6 l_ = some (.int x1141) ∧ (0 ≤ x1141.toInt ∧ x1141.toInt ≤ 145) ∧ (x1139.toInt = itI (NX g0) x1141.toInt a1.toInt) ∧ (x1140.toInt = itI (NX g0) x1141.toInt a2.toInt) ∧ (∀ j : Int, 0 ≤ j → j < x1141.toInt → ¬ MT (NX g0) a1.toInt a2.toInt j) ∧ (0 ≤ x1141.toInt)) ?_ (145 - 0) ⟨a1, a2, 0, by first | rfl | omega, hI0, hF0, rfl, rfl, rfl, rfl, rfl, rfl, rfl, by decide, (itI_n _ (by first | decide | omega) _).symm, (itI_n _ (by first | decide | omega) _).symm, (fun j h0 h1 => absurd h1 (by omega)), by omega⟩
  rintro n1146 l1145 g1142 ⟨x1139, x1140, x1141, hm1161, hI1143, hF1144, e1148, e1149, e1150, e1151, e1152, e1153, e1154, r1155, q1156, q1157, q1158, q1159⟩ ih1147
  refine At.enter rfl ?_
  refine r_iload e1154 ?_
  refine r_sipush 144 rfl ?_
  refine r_ics 17 rfl (fun c1162 => ?_) (fun c1162 => ?_)
  · have c1162_ : x1141.toInt > 144 := en_i_gt_t c1162
    refine At.enter rfl ?_
    refine r_iconst (-1) rfl ?_
    refine r_ireti ?_
    have zv1163 : ((-1) : Int32).toInt = (-1) := rfl
    exact ⟨_, rfl, hI1143, hF1144, _, rfl, trivial, (by first | exact MEET.a x1141.toInt (by omega) (by omega) (by rw [← q1156, ← q1157]; omega) (by rw [← q1156]; omega) q1158 (by omega) (by rw [← q1156]; omega) | exact MEET.n (NX.e g0) q1158 (by rw [← q1156, ← q1157]; omega) (by omega))⟩
  · have c1162_ : x1141.toInt ≤ 144 := en_i_gt_f c1162
    refine At.enter rfl ?_
    refine r_iload e1152 ?_
    refine r_iconst (-1) rfl ?_
    refine r_ics 23 rfl (fun c1164 => ?_) (fun c1164 => ?_)
    · have c1164_ : x1139.toInt = (-1) := en_i_eq_t c1164
      refine At.enter rfl ?_
      refine r_iconst (-1) rfl ?_
      refine r_ireti ?_
      have zv1165 : ((-1) : Int32).toInt = (-1) := rfl
      exact ⟨_, rfl, hI1143, hF1144, _, rfl, trivial, (by first | exact MEET.a x1141.toInt (by omega) (by omega) (by rw [← q1156, ← q1157]; omega) (by rw [← q1156]; omega) q1158 (by omega) (by rw [← q1156]; omega) | exact MEET.n (NX.e g0) q1158 (by rw [← q1156, ← q1157]; omega) (by omega))⟩
    · have c1164_ : x1139.toInt ≠ (-1) := en_i_eq_f c1164
      refine At.enter rfl ?_
      refine r_iload e1153 ?_
      refine r_iconst (-1) rfl ?_
      refine r_ics 29 rfl (fun c1166 => ?_) (fun c1166 => ?_)
      · have c1166_ : x1140.toInt = (-1) := en_i_eq_t c1166
        refine At.enter rfl ?_
        refine r_iconst (-1) rfl ?_
        refine r_ireti ?_
        have zv1167 : ((-1) : Int32).toInt = (-1) := rfl
        exact ⟨_, rfl, hI1143, hF1144, _, rfl, trivial, (by first | exact MEET.a x1141.toInt (by omega) (by omega) (by rw [← q1156, ← q1157]; omega) (by rw [← q1156]; omega) q1158 (by omega) (by rw [← q1156]; omega) | exact MEET.n (NX.e g0) q1158 (by rw [← q1156, ← q1157]; omega) (by omega))⟩
      · have c1166_ : x1140.toInt ≠ (-1) := en_i_eq_f c1166
        refine At.enter rfl ?_
        refine r_iload e1152 ?_
        refine r_iload e1153 ?_
        refine r_ics 36 rfl (fun c1168 => ?_) (fun c1168 => ?_)
        · have c1168_ : x1139.toInt ≠ x1140.toInt := en_i_ne_t c1168
          refine At.enter rfl ?_
          refine r_aload_n e1148 ?_
          refine q_getR (Sh.ref hI1143.1 kx_184 rfl) ?_
          refine r_iload e1152 ?_
          refine r_callV 57 rfl [.ref 1, .int x1139] [] (Nat.le_of_ble_eq_true rfl) rfl (T_X0_next_1 _ hI1143 x1139) ?_
          rintro _ _ ⟨g1169, rfl, hI1170, hF1171, v1172, rfl, hr1173⟩
          refine At.sti ?_
          have hF1174 := Fr.tr hF1144 hF1171 rfl rfl
          rw [NX.c ((hF1144.2.1 2 (by decide))) ((hF1144.1 1 0 (by decide)))] at hr1173
          refine At.enter rfl ?_
          refine r_istore _ rfl ?_
          refine r_aload_n (w_p1 (by decide) (Or.inr rfl) e1148) ?_
          refine q_getR (Sh.ref hI1170.1 kx_184 rfl) ?_
          refine r_iload (w_p1 (by decide) (Or.inr rfl) e1153) ?_
          refine r_callV 68 rfl [.ref 1, .int x1140] [] (Nat.le_of_ble_eq_true rfl) rfl (T_X0_next_1 _ hI1170 x1140) ?_
          rintro _ _ ⟨g1175, rfl, hI1176, hF1177, v1178, rfl, hr1179⟩
          refine At.sti ?_
          have hF1180 := Fr.tr hF1174 hF1177 rfl rfl
          rw [NX.c (((hF1171.2.1 2 ma_X0_next_1_2).trans (hF1144.2.1 2 (by decide)))) (((hF1171.1 1 0 mf_X0_next_1_1_0).trans (hF1144.1 1 0 (by decide))))] at hr1179
          refine At.enter rfl ?_
          refine r_istore _ rfl ?_
          refine q_iinc (w_p1 (by decide) (Or.inr rfl) (w_p1 (by decide) (Or.inr rfl) e1154)) (x1141.toInt + 1) rfl (by omega) (fun v1181 hv1181 => ?_)
          refine r_goto ?_
          have bv1182 := q_bnd v1172
          have bv1183 := q_bnd v1178
          exact ih1147 (145 - v1181.toInt) _ _ ⟨v1172, v1178, v1181, by first | rfl | omega, hI1176, hF1180, (w_p1 (by decide) (Or.inr rfl) (w_p1 (by decide) (Or.inr rfl) (w_p1 (by decide) (Or.inr rfl) e1148))), (w_p1 (by decide) (Or.inr rfl) (w_p1 (by decide) (Or.inr rfl) (w_p1 (by decide) (Or.inr rfl) e1149))), (w_p1 (by decide) (Or.inr rfl) (w_p1 (by decide) (Or.inr rfl) (w_p1 (by decide) (Or.inr rfl) e1150))), (w_p1 (by decide) (Or.inr rfl) (w_p1 (by decide) (Or.inr rfl) (w_p1 (by decide) (Or.inr rfl) e1151))), (w_p1 (by decide) (Or.inr rfl) (w_p1 (by decide) (Or.inr rfl) (w_e1 _ _ _))), (w_p1 (by decide) (Or.inr rfl) (w_e1 _ _ _)), (w_e1 _ _ _), by omega, (by rw [show v1181.toInt = x1141.toInt + 1 from by omega, itI_s (NX g0) (by omega), ← q1156]; omega), (by rw [show v1181.toInt = x1141.toInt + 1 from by omega, itI_s (NX g0) (by omega), ← q1157]; omega), (MT.step q1158 (by rw [← q1156, ← q1157]; omega) (show v1181.toInt = x1141.toInt + 1 from by omega)), by omega⟩ ⟨by omega, by omega⟩
        · have c1168_ : x1139.toInt = x1140.toInt := en_i_ne_f c1168
          refine At.enter rfl ?_
          refine r_iload_n e1151 ?_
          refine r_ifs 40 rfl (fun c1184 => ?_) (fun c1184 => ?_)
          · have c1184_ : a3.toInt ≠ 0 := en_k_ne_t c1184
            refine At.enter rfl ?_
            refine r_iload e1152 ?_
            refine Ar.fall 47 rfl ?_
            refine At.enter rfl ?_
            refine r_ireti ?_
            exact ⟨_, rfl, hI1143, hF1144, _, rfl, trivial, (by first | exact MEET.a x1141.toInt (by omega) (by omega) (by rw [← q1156, ← q1157]; omega) (by rw [← q1156]; omega) q1158 (by omega) (by rw [← q1156]; omega) | exact MEET.n (NX.e g0) q1158 (by rw [← q1156, ← q1157]; omega) (by omega))⟩
          · have c1184_ : a3.toInt = 0 := en_k_ne_f c1184
            refine At.enter rfl ?_
            refine r_iload e1154 ?_
            refine r_goto ?_
            refine At.enter rfl ?_
            refine r_ireti ?_
            exact ⟨_, rfl, hI1143, hF1144, _, rfl, trivial, (by first | exact MEET.a x1141.toInt (by omega) (by omega) (by rw [← q1156, ← q1157]; omega) (by rw [← q1156]; omega) q1158 (by omega) (by rw [← q1156]; omega) | exact MEET.n (NX.e g0) q1158 (by rw [← q1156, ← q1157]; omega) (by omega))⟩

def F_X9_minutesInPieces_184 : List (Nat × Nat) := []
def A_X9_minutesInPieces_184 : List Nat := []
set_option maxRecDepth 100000 in
set_option maxHeartbeats 4000000 in
theorem T_X9_minutesInPieces_184 (d : Nat) {N : Nat} {g0 : List en_E} (hI0 : HI g0) (a1 : Int32) : Ev (d + 4) 101 [.ref 184, .int a1] (g0, N) (fun w h' => ∃ g', h' = (g', N) ∧ HI g' ∧ Fr F_X9_minutesInPieces_184 A_X9_minutesInPieces_184 g0 g' ∧ ∃ r : Int32, w = some (.int r) ∧ True ∧ ((0 ≤ a1.toInt ∧ a1.toInt < (gI g0 1 4).toInt) → (eA g0 5 (6 * a1.toInt + 2)).toInt ≠ -1 → PCE (NX g0) (SX g0) 11 (eA g0 5 (6 * a1.toInt + 1)).toInt (eA g0 5 (6 * a1.toInt + 2)).toInt (eA g0 5 (6 * a1.toInt + 0)).toInt r)) := by
  have hF0 : Fr F_X9_minutesInPieces_184 A_X9_minutesInPieces_184 g0 g0 := Fr.rf
  refine Ev.mk rfl rfl ⟨Nat.le_of_ble_eq_true rfl, Or.inr (q_rc hI0.1 kx_184 rfl)⟩ ?_
  show At _ none _ _ (0, [(0, .ref 184), (1, .int a1)], [], (_, _)) _
  refine At.enter rfl ?_
  refine r_aload_n rfl ?_
  refine q_getR (Sh.ref hI0.1 kx_184 rfl) ?_
  refine r_iload_n rfl ?_
  refine r_callV 8 rfl [.ref 1, .int a1] [] (Nat.le_of_ble_eq_true rfl) rfl (T_X0_handsOf_1 _ hI0 a1) ?_
  rintro _ _ ⟨g1175, rfl, hI1176, hF1177, v1178, rfl, hr1179⟩
  refine At.sti ?_
  have hF1180 := Fr.tr hF0 hF1177 rfl rfl
  refine At.enter rfl ?_
  refine r_istore_n ([(2, .int v1178), (0, .ref 184), (1, .int a1)]) rfl ?_
  refine r_aload_n rfl ?_
  refine q_getR (Sh.ref hI1176.1 kx_184 rfl) ?_
  refine r_iload_n rfl ?_
  refine r_iconst 1 rfl ?_
  refine r_callV 18 rfl [.ref 1, .int a1, .int 1] [] (Nat.le_of_ble_eq_true rfl) rfl (T_X0_about_1 _ hI1176 a1 1) ?_
  rintro _ _ ⟨g1181, rfl, hI1182, hF1183, v1184, rfl, hr1185⟩
  refine At.sti ?_
  have hF1186 := Fr.tr hF1180 hF1183 rfl rfl
  have zv1187 : (1 : Int32).toInt = 1 := rfl
  have ab1188_ := ABX.c ((hF1177.2.1 5 ma_X0_handsOf_1_5)) ((hF1177.1 1 4 mf_X0_handsOf_1_1_4)) hr1185.2
  have ab1188 : ABX g0 a1.toInt 1 v1184.toInt := ab1188_
  refine At.enter rfl ?_
  refine r_istore_n ([(3, .int v1184), (2, .int v1178), (0, .ref 184), (1, .int a1)]) rfl ?_
  refine r_bipush 9 rfl ?_
  refine r_istore ([(4, .int 9), (3, .int v1184), (2, .int v1178), (0, .ref 184), (1, .int a1)]) rfl ?_
  refine r_iconst 0 rfl ?_
  refine r_istore ([(5, .int 0), (4, .int 9), (3, .int v1184), (2, .int v1178), (0, .ref 184), (1, .int a1)]) rfl ?_
  refine Ar.fall 26 rfl ?_
  have z_1701 : (9 : Int32).toInt = 9 := rfl
  have z_1702 : (0 : Int32).toInt = 0 := rfl
  refine w_loopI (fun n_ l_ g_ => ∃ x1680 : Int32, ∃ x1681 : Int32, ∃ x1682 : Int32, n_ = 11 - x1682.toInt ∧ HI g_ ∧ Fr F_X9_minutesInPieces_184 A_X9_minutesInPieces_184 g0 g_ ∧ en_get 0 l_ = some (.ref 184) ∧ en_get 1 l_ = some (.int a1) ∧ en_get 2 l_ = some (.int v1178) ∧ en_get 3 l_ = some (.int x1680) ∧ en_get 4 l_ = some (.int x1681) ∧ en_get 5 l_ = some (.int x1682) ∧ x1681.toInt ≤ 9 ∧ (0 ≤ x1682.toInt ∧ x1682.toInt ≤ 11) ∧ (x1680.toInt = itI (NX g0) x1682.toInt v1184.toInt) ∧ (x1681.toInt = LSI (NX g0) (SX g0) x1682.toInt v1184.toInt) ∧ (0 ≤ x1682.toInt) ∧ (x1682.toInt ≤ v1178.toInt ∨ x1682.toInt = 0)) ?_ (11 - 0) ⟨v1184, 9, 0, by first | rfl | omega, hI1182, hF1186, rfl, rfl, rfl, rfl, rfl, rfl, by decide, by decide, (itI_n _ (by first | decide | omega) _).symm, (LSI.z _ _ _ (by first | decide | omega)), by omega, by omega⟩
  rintro n1687 l1686 g1683 ⟨x1680, x1681, x1682, hm1703, hI1684, hF1685, e1689, e1690, e1691, e1692, e1693, e1694, r1695, r1696, q1697, q1698, q1699, q1700⟩ ih1688
  refine At.enter rfl ?_
  refine r_iload e1694 ?_
  refine r_iload_n e1691 ?_
  have bv1705 := q_bnd x1682
  have bv1706 := q_bnd v1178
  refine r_ics 32 rfl (fun c1704 => ?_) (fun c1704 => ?_)
  · have c1704_ : x1682.toInt ≥ v1178.toInt := en_i_ge_t c1704
    refine At.enter rfl ?_
    refine r_iload_n e1691 ?_
    refine r_ifs 78 rfl (fun c1707 => ?_) (fun c1707 => ?_)
    · have c1707_ : v1178.toInt ≤ 0 := en_k_le_t c1707
      refine At.enter rfl ?_
      refine r_iload_n e1691 ?_
      refine r_ireti ?_
      obtain ⟨v1708, hv1708⟩ : ∃ v, gI g0 1 0 = v := ⟨_, rfl⟩
      have rv1708 := RgF.at hI0.2.1 (p := 1) (b := 0) rfl
      rw [hv1708] at rv1708
      dsimp only at rv1708
      have tv1708 := congrArg Int32.toInt hv1708
      exact ⟨_, rfl, hI1684, hF1685, _, rfl, trivial, (fun h hw => by have e1 := ab1188.1 ⟨h.1, h.2, by decide, by decide⟩; have wf := hr1179.2 h hw; rw [← e1] at wf; rw [← e1]; first | (exact PCE.few v1178 wf (by omega) (by omega)) | (exact PCE.low v1178 x1681 wf (by rw [show v1178.toInt = x1682.toInt from by omega]; exact q1698) (by omega) (by omega)) | ((exfalso; have z := WAYF.stand wf hw (by omega) (by omega) q1697; omega)))⟩
    · have c1707_ : v1178.toInt > 0 := en_k_le_f c1707
      refine At.enter rfl ?_
      refine r_iload e1693 ?_
      refine r_iconst 1 rfl ?_
      refine r_ics 84 rfl (fun c1710 => ?_) (fun c1710 => ?_)
      · have c1710_ : x1681.toInt ≥ 1 := en_i_ge_t c1710
        refine At.enter rfl ?_
        refine r_iload_n e1691 ?_
        refine r_aload_n e1689 ?_
        refine q_getR (Sh.ref hI1684.1 kx_184 rfl) ?_
        refine r_iload_n e1690 ?_
        refine r_iconst 0 rfl ?_
        refine r_callV 96 rfl [.ref 1, .int a1, .int 0] [.int v1178] (Nat.le_of_ble_eq_true rfl) rfl (T_X0_about_1 _ hI1684 a1 0) ?_
        rintro _ _ ⟨g1711, rfl, hI1712, hF1713, v1714, rfl, hr1715⟩
        refine At.sti ?_
        have hF1716 := Fr.tr hF1685 hF1713 rfl rfl
        have zv1717 : (0 : Int32).toInt = 0 := rfl
        have ab1718_ := ABX.c ((hF1685.2.1 5 (by decide))) ((hF1685.1 1 4 (by decide))) hr1715.2
        have ab1718 : ABX g0 a1.toInt 0 v1714.toInt := ab1718_
        refine At.enter rfl ?_
        refine r_iload e1693 ?_
        refine q_iaddO (fun v1719 ov1719 => ?_)
        refine r_iconst 1 rfl ?_
        refine q_isubO (fun v1720 ov1720 => ?_)
        refine r_iload e1693 ?_
        refine q_idivO (by omega) (fun v1721 ov1721 => ?_)
        refine q_iaddO (fun v1722 ov1722 => ?_)
        refine r_iconst 1 rfl ?_
        refine q_isubO (fun v1723 ov1723 => ?_)
        refine r_ireti ?_
        obtain ⟨v1724, hv1724⟩ : ∃ v, gI g0 1 0 = v := ⟨_, rfl⟩
        have rv1724 := RgF.at hI0.2.1 (p := 1) (b := 0) rfl
        rw [hv1724] at rv1724
        dsimp only at rv1724
        have tv1724 := congrArg Int32.toInt hv1724
        exact ⟨_, rfl, hI1712, hF1716, _, rfl, trivial, (fun h hw => by have e1 := ab1188.1 ⟨h.1, h.2, by decide, by decide⟩; have wf := hr1179.2 h hw; rw [← e1] at wf; rw [← e1]; first | (exact PCE.few v1178 wf (by omega) (by omega)) | (exact PCE.low v1178 x1681 wf (by rw [show v1178.toInt = x1682.toInt from by omega]; exact q1698) (by omega) (by omega)) | (exact PCE.mk v1178 x1681 v1714 wf (by rw [show v1178.toInt = x1682.toInt from by omega]; exact q1698) (by omega) (by omega) (ab1718.1 ⟨h.1, h.2, by decide, by decide⟩) (by rw [ov1723, ov1722, ov1721, ov1720, ov1719])) | ((exfalso; have z := WAYF.stand wf hw (by omega) (by omega) q1697; omega)))⟩
      · have c1710_ : x1681.toInt < 1 := en_i_ge_f c1710
        refine At.enter rfl ?_
        refine r_iload_n e1691 ?_
        refine r_ireti ?_
        obtain ⟨v1726, hv1726⟩ : ∃ v, gI g0 1 0 = v := ⟨_, rfl⟩
        have rv1726 := RgF.at hI0.2.1 (p := 1) (b := 0) rfl
        rw [hv1726] at rv1726
        dsimp only at rv1726
        have tv1726 := congrArg Int32.toInt hv1726
        exact ⟨_, rfl, hI1684, hF1685, _, rfl, trivial, (fun h hw => by have e1 := ab1188.1 ⟨h.1, h.2, by decide, by decide⟩; have wf := hr1179.2 h hw; rw [← e1] at wf; rw [← e1]; first | (exact PCE.few v1178 wf (by omega) (by omega)) | (exact PCE.low v1178 x1681 wf (by rw [show v1178.toInt = x1682.toInt from by omega]; exact q1698) (by omega) (by omega)) | ((exfalso; have z := WAYF.stand wf hw (by omega) (by omega) q1697; omega)))⟩
  · have c1704_ : x1682.toInt < v1178.toInt := en_i_ge_f c1704
    refine At.enter rfl ?_
    refine r_aload_n e1689 ?_
    refine q_getR (Sh.ref hI1684.1 kx_184 rfl) ?_
    refine r_iload_n e1692 ?_
    refine q_inlV 40 rfl [.ref 1, .int x1680] [] (Nat.le_of_ble_eq_true rfl) rfl ?_
    refine Ev.mk rfl rfl ⟨Nat.le_of_ble_eq_true rfl, Or.inr (q_rc hI1684.1 kx_1 rfl)⟩ ?_
    show At _ none _ _ (0, [(0, .ref 1), (1, .int x1680)], [], (_, _)) _
    refine At.enter rfl ?_
    refine r_iload_n rfl ?_
    refine r_ifs 4 rfl (fun c1728 => ?_) (fun c1728 => ?_)
    · have c1728_ : x1680.toInt < 0 := en_k_lt_t c1728
      refine At.enter rfl ?_
      refine r_iconst 0 rfl ?_
      refine Ar.fall 17 rfl ?_
      refine At.enter rfl ?_
      refine q_iretz (by decide) ?_
      refine At.enter rfl ?_
      refine r_ift (by decide) ?_
      refine At.enter rfl ?_
      refine r_iload_n e1691 ?_
      refine r_ifs 78 rfl (fun c1729 => ?_) (fun c1729 => ?_)
      · have c1729_ : v1178.toInt ≤ 0 := en_k_le_t c1729
        exfalso; omega
      · have c1729_ : v1178.toInt > 0 := en_k_le_f c1729
        refine At.enter rfl ?_
        refine r_iload e1693 ?_
        refine r_iconst 1 rfl ?_
        refine r_ics 84 rfl (fun c1730 => ?_) (fun c1730 => ?_)
        · have c1730_ : x1681.toInt ≥ 1 := en_i_ge_t c1730
          refine At.enter rfl ?_
          refine r_iload_n e1691 ?_
          refine r_aload_n e1689 ?_
          refine q_getR (Sh.ref hI1684.1 kx_184 rfl) ?_
          refine r_iload_n e1690 ?_
          refine r_iconst 0 rfl ?_
          refine r_callV 96 rfl [.ref 1, .int a1, .int 0] [.int v1178] (Nat.le_of_ble_eq_true rfl) rfl (T_X0_about_1 _ hI1684 a1 0) ?_
          rintro _ _ ⟨g1731, rfl, hI1732, hF1733, v1734, rfl, hr1735⟩
          refine At.sti ?_
          have hF1736 := Fr.tr hF1685 hF1733 rfl rfl
          have zv1737 : (0 : Int32).toInt = 0 := rfl
          have ab1738_ := ABX.c ((hF1685.2.1 5 (by decide))) ((hF1685.1 1 4 (by decide))) hr1735.2
          have ab1738 : ABX g0 a1.toInt 0 v1734.toInt := ab1738_
          refine At.enter rfl ?_
          refine r_iload e1693 ?_
          refine q_iaddO (fun v1739 ov1739 => ?_)
          refine r_iconst 1 rfl ?_
          refine q_isubO (fun v1740 ov1740 => ?_)
          refine r_iload e1693 ?_
          refine q_idivO (by omega) (fun v1741 ov1741 => ?_)
          refine q_iaddO (fun v1742 ov1742 => ?_)
          refine r_iconst 1 rfl ?_
          refine q_isubO (fun v1743 ov1743 => ?_)
          refine r_ireti ?_
          obtain ⟨v1744, hv1744⟩ : ∃ v, gI g0 1 0 = v := ⟨_, rfl⟩
          have rv1744 := RgF.at hI0.2.1 (p := 1) (b := 0) rfl
          rw [hv1744] at rv1744
          dsimp only at rv1744
          have tv1744 := congrArg Int32.toInt hv1744
          exact ⟨_, rfl, hI1732, hF1736, _, rfl, trivial, (fun h hw => by have e1 := ab1188.1 ⟨h.1, h.2, by decide, by decide⟩; have wf := hr1179.2 h hw; rw [← e1] at wf; rw [← e1]; first | (exact PCE.few v1178 wf (by omega) (by omega)) | (exact PCE.low v1178 x1681 wf (by rw [show v1178.toInt = x1682.toInt from by omega]; exact q1698) (by omega) (by omega)) | (exact PCE.mk v1178 x1681 v1734 wf (by rw [show v1178.toInt = x1682.toInt from by omega]; exact q1698) (by omega) (by omega) (ab1738.1 ⟨h.1, h.2, by decide, by decide⟩) (by rw [ov1743, ov1742, ov1741, ov1740, ov1739])) | ((exfalso; have z := WAYF.stand wf hw (by omega) (by omega) q1697; omega)))⟩
        · have c1730_ : x1681.toInt < 1 := en_i_ge_f c1730
          refine At.enter rfl ?_
          refine r_iload_n e1691 ?_
          refine r_ireti ?_
          obtain ⟨v1746, hv1746⟩ : ∃ v, gI g0 1 0 = v := ⟨_, rfl⟩
          have rv1746 := RgF.at hI0.2.1 (p := 1) (b := 0) rfl
          rw [hv1746] at rv1746
          dsimp only at rv1746
          have tv1746 := congrArg Int32.toInt hv1746
          exact ⟨_, rfl, hI1684, hF1685, _, rfl, trivial, (fun h hw => by have e1 := ab1188.1 ⟨h.1, h.2, by decide, by decide⟩; have wf := hr1179.2 h hw; rw [← e1] at wf; rw [← e1]; first | (exact PCE.few v1178 wf (by omega) (by omega)) | (exact PCE.low v1178 x1681 wf (by rw [show v1178.toInt = x1682.toInt from by omega]; exact q1698) (by omega) (by omega)) | ((exfalso; have z := WAYF.stand wf hw (by omega) (by omega) q1697; omega)))⟩
    · have c1728_ : x1680.toInt ≥ 0 := en_k_lt_f c1728
      refine At.enter rfl ?_
      refine r_iload_n rfl ?_
      refine r_aload_n rfl ?_
      obtain ⟨v1748, hv1748⟩ : ∃ v, gI g0 1 0 = v := ⟨_, rfl⟩
      have rv1748 := RgF.at hI0.2.1 (p := 1) (b := 0) rfl
      rw [hv1748] at rv1748
      dsimp only at rv1748
      refine q_getI (Sh.int hI1684.1 kx_1 rfl) v1748 ((hF1685.1 1 0 (by decide)).trans hv1748) ?_
      have bv1750 := q_bnd x1680
      have bv1751 := q_bnd v1748
      refine r_ics 12 rfl (fun c1749 => ?_) (fun c1749 => ?_)
      · have c1749_ : x1680.toInt ≥ v1748.toInt := en_i_ge_t c1749
        refine At.enter rfl ?_
        refine r_iconst 0 rfl ?_
        refine Ar.fall 17 rfl ?_
        refine At.enter rfl ?_
        refine q_iretz (by decide) ?_
        refine At.enter rfl ?_
        refine r_ift (by decide) ?_
        refine At.enter rfl ?_
        refine r_iload_n e1691 ?_
        refine r_ifs 78 rfl (fun c1752 => ?_) (fun c1752 => ?_)
        · have c1752_ : v1178.toInt ≤ 0 := en_k_le_t c1752
          exfalso; omega
        · have c1752_ : v1178.toInt > 0 := en_k_le_f c1752
          refine At.enter rfl ?_
          refine r_iload e1693 ?_
          refine r_iconst 1 rfl ?_
          refine r_ics 84 rfl (fun c1753 => ?_) (fun c1753 => ?_)
          · have c1753_ : x1681.toInt ≥ 1 := en_i_ge_t c1753
            refine At.enter rfl ?_
            refine r_iload_n e1691 ?_
            refine r_aload_n e1689 ?_
            refine q_getR (Sh.ref hI1684.1 kx_184 rfl) ?_
            refine r_iload_n e1690 ?_
            refine r_iconst 0 rfl ?_
            refine r_callV 96 rfl [.ref 1, .int a1, .int 0] [.int v1178] (Nat.le_of_ble_eq_true rfl) rfl (T_X0_about_1 _ hI1684 a1 0) ?_
            rintro _ _ ⟨g1754, rfl, hI1755, hF1756, v1757, rfl, hr1758⟩
            refine At.sti ?_
            have hF1759 := Fr.tr hF1685 hF1756 rfl rfl
            have zv1760 : (0 : Int32).toInt = 0 := rfl
            have ab1761_ := ABX.c ((hF1685.2.1 5 (by decide))) ((hF1685.1 1 4 (by decide))) hr1758.2
            have ab1761 : ABX g0 a1.toInt 0 v1757.toInt := ab1761_
            refine At.enter rfl ?_
            refine r_iload e1693 ?_
            refine q_iaddO (fun v1762 ov1762 => ?_)
            refine r_iconst 1 rfl ?_
            refine q_isubO (fun v1763 ov1763 => ?_)
            refine r_iload e1693 ?_
            refine q_idivO (by omega) (fun v1764 ov1764 => ?_)
            refine q_iaddO (fun v1765 ov1765 => ?_)
            refine r_iconst 1 rfl ?_
            refine q_isubO (fun v1766 ov1766 => ?_)
            refine r_ireti ?_
            have x1767 := HI.eqI hI0 (p := 1) (b := 0) (hv1748)
            exact ⟨_, rfl, hI1755, hF1759, _, rfl, trivial, (fun h hw => by have e1 := ab1188.1 ⟨h.1, h.2, by decide, by decide⟩; have wf := hr1179.2 h hw; rw [← e1] at wf; rw [← e1]; first | (exact PCE.few v1178 wf (by omega) (by omega)) | (exact PCE.low v1178 x1681 wf (by rw [show v1178.toInt = x1682.toInt from by omega]; exact q1698) (by omega) (by omega)) | (exact PCE.mk v1178 x1681 v1757 wf (by rw [show v1178.toInt = x1682.toInt from by omega]; exact q1698) (by omega) (by omega) (ab1761.1 ⟨h.1, h.2, by decide, by decide⟩) (by rw [ov1766, ov1765, ov1764, ov1763, ov1762])) | ((exfalso; have z := WAYF.stand wf hw (by omega) (by omega) q1697; omega)))⟩
          · have c1753_ : x1681.toInt < 1 := en_i_ge_f c1753
            refine At.enter rfl ?_
            refine r_iload_n e1691 ?_
            refine r_ireti ?_
            have x1768 := HI.eqI hI0 (p := 1) (b := 0) (hv1748)
            exact ⟨_, rfl, hI1684, hF1685, _, rfl, trivial, (fun h hw => by have e1 := ab1188.1 ⟨h.1, h.2, by decide, by decide⟩; have wf := hr1179.2 h hw; rw [← e1] at wf; rw [← e1]; first | (exact PCE.few v1178 wf (by omega) (by omega)) | (exact PCE.low v1178 x1681 wf (by rw [show v1178.toInt = x1682.toInt from by omega]; exact q1698) (by omega) (by omega)) | ((exfalso; have z := WAYF.stand wf hw (by omega) (by omega) q1697; omega)))⟩
      · have c1749_ : x1680.toInt < v1748.toInt := en_i_ge_f c1749
        refine At.enter rfl ?_
        refine r_iconst 1 rfl ?_
        refine r_goto ?_
        refine At.enter rfl ?_
        refine q_iretz (by decide) ?_
        refine At.enter rfl ?_
        refine r_iff 43 rfl (by decide) ?_
        refine At.enter rfl ?_
        refine r_iload e1693 ?_
        refine r_aload_n e1689 ?_
        refine q_getR (Sh.ref hI1684.1 kx_184 rfl) ?_
        refine q_getR (Sh.ref hI1684.1 kx_1 rfl) ?_
        refine r_iload_n e1692 ?_
        obtain ⟨v1769, hv1769⟩ : ∃ v, eA g0 3 x1680.toInt = v := ⟨_, rfl⟩
        refine q_iald (Sh.arr hI1684.1 ka_3) x1680.toInt rfl (by omega) v1769 ((eA_c (hF1685.2.1 3 (by decide))).trans hv1769) ?_
        refine q_mmin rfl (Nat.le_of_ble_eq_true rfl) (fun v1770 hv1770 => ?_)
        refine r_istore _ rfl ?_
        refine r_aload_n (w_p1 (by decide) (Or.inr rfl) e1689) ?_
        refine q_getR (Sh.ref hI1684.1 kx_184 rfl) ?_
        refine r_iload_n (w_p1 (by decide) (Or.inr rfl) e1692) ?_
        refine r_callV 67 rfl [.ref 1, .int x1680] [] (Nat.le_of_ble_eq_true rfl) rfl (T_X0_next_1 _ hI1684 x1680) ?_
        rintro _ _ ⟨g1771, rfl, hI1772, hF1773, v1774, rfl, hr1775⟩
        refine At.sti ?_
        have hF1776 := Fr.tr hF1685 hF1773 rfl rfl
        rw [NX.c ((hF1685.2.1 2 (by decide))) ((hF1685.1 1 0 (by decide)))] at hr1775
        refine At.enter rfl ?_
        refine r_istore_n _ rfl ?_
        refine q_iinc (w_p1 (by decide) (Or.inr rfl) (w_p1 (by decide) (Or.inr rfl) e1694)) (x1682.toInt + 1) rfl (by omega) (fun v1777 hv1777 => ?_)
        refine r_goto ?_
        have bv1778 := q_bnd v1774
        have bv1779 := q_bnd v1770
        exact ih1688 (11 - v1777.toInt) _ _ ⟨v1774, v1770, v1777, by first | rfl | omega, hI1772, hF1776, (w_p1 (by decide) (Or.inr rfl) (w_p1 (by decide) (Or.inr rfl) (w_p1 (by decide) (Or.inr rfl) e1689))), (w_p1 (by decide) (Or.inr rfl) (w_p1 (by decide) (Or.inr rfl) (w_p1 (by decide) (Or.inr rfl) e1690))), (w_p1 (by decide) (Or.inr rfl) (w_p1 (by decide) (Or.inr rfl) (w_p1 (by decide) (Or.inr rfl) e1691))), (w_p1 (by decide) (Or.inr rfl) (w_e1 _ _ _)), (w_p1 (by decide) (Or.inr rfl) (w_p1 (by decide) (Or.inr rfl) (w_e1 _ _ _))), (w_e1 _ _ _), by omega, by omega, (by rw [show v1777.toInt = x1682.toInt + 1 from by omega, itI_s (NX g0) (by omega), ← q1697]; omega), (LSI.step (x := v1769.toInt) (by omega) (show v1777.toInt = x1682.toInt + 1 from by omega) q1698 (by rw [← q1697]; exact congrArg Int32.toInt hv1769) ⟨by omega, by omega, by omega⟩), by omega, by omega⟩ ⟨by omega, by omega⟩
