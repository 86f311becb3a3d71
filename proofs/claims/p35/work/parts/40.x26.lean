def F_X9_fitsSigns_184 : List (Nat × Nat) := []
def A_X9_fitsSigns_184 : List Nat := []
set_option maxRecDepth 100000 in
set_option maxHeartbeats 4000000 in
theorem T_X9_fitsSigns_184 (d : Nat) {N : Nat} {g0 : List en_E} (hI0 : HI g0) (a1 : Int32) : Ev (d + 4) 99 [.ref 184, .int a1] (g0, N) (fun w h' => ∃ g', h' = (g', N) ∧ HI g' ∧ Fr F_X9_fitsSigns_184 A_X9_fitsSigns_184 g0 g' ∧ ∃ r : Int32, w = some (.int r) ∧ (0 ≤ r.toInt ∧ r.toInt ≤ 1) ∧ (BL (FITX g0 a1.toInt) r.toInt)) := by
  have hF0 : Fr F_X9_fitsSigns_184 A_X9_fitsSigns_184 g0 g0 := Fr.rf
  refine Ev.mk rfl rfl ⟨Nat.le_of_ble_eq_true rfl, Or.inr (q_rc hI0.1 kx_184 rfl)⟩ ?_
  show At _ none _ _ (0, [(0, .ref 184), (1, .int a1)], [], (_, _)) _
  refine At.enter rfl ?_
  refine r_iconst 0 rfl ?_
  refine r_istore_n ([(2, .int 0), (0, .ref 184), (1, .int a1)]) rfl ?_
  refine Ar.fall 2 rfl ?_
  have z_431 : (0 : Int32).toInt = 0 := rfl
  refine w_loopI (fun n_ l_ g_ => ∃ x418 : Int32, n_ = 8 - x418.toInt ∧ HI g_ ∧ Fr F_X9_fitsSigns_184 A_X9_fitsSigns_184 g0 g_ ∧ en_get 0 l_ = some (.ref 184) ∧ en_get 1 l_ = some (.int a1) ∧ en_get 2 l_ = some (.int x418) ∧ (0 ≤ x418.toInt ∧ x418.toInt ≤ 8) ∧ (∀ k : Int, 0 ≤ k → k < x418.toInt → itI (NX g0) (eA g0 15 k).toInt a1.toInt = (eA g0 14 k).toInt) ∧ (0 ≤ x418.toInt)) ?_ (8 - 0) ⟨0, by first | rfl | omega, hI0, hF0, rfl, rfl, rfl, by decide, (fun k h0 h1 => absurd h1 (by omega)), by omega⟩
  rintro n423 l422 g419 ⟨x418, hm432, hI420, hF421, e425, e426, e427, r428, q429, q430⟩ ih424
  refine At.enter rfl ?_
  refine r_iload_n e427 ?_
  refine r_aload_n e425 ?_
  refine q_getR (Sh.ref hI420.1 kx_184 rfl) ?_
  obtain ⟨v433, hv433⟩ : ∃ v, gI g0 1 12 = v := ⟨_, rfl⟩
  have rv433 := RgF.at hI0.2.1 (p := 1) (b := 12) rfl
  rw [hv433] at rv433
  dsimp only at rv433
  refine q_getI (Sh.int hI420.1 kx_1 rfl) v433 ((hF421.1 1 12 (by decide)).trans hv433) ?_
  have bv435 := q_bnd x418
  have bv436 := q_bnd v433
  refine r_ics 13 rfl (fun c434 => ?_) (fun c434 => ?_)
  · have c434_ : x418.toInt ≥ v433.toInt := en_i_ge_t c434
    refine At.enter rfl ?_
    refine r_iconst 1 rfl ?_
    refine r_iretz (by decide) ?_
    have zv437 : (1 : Int32).toInt = 1 := rfl
    have x438 := HI.eqI hI0 (p := 1) (b := 12) (hv433)
    exact ⟨_, rfl, hI420, hF421, _, rfl, by decide, (FITX.mk (fun k h0 h1 => q429 k h0 (by omega)) (by omega))⟩
  · have c434_ : x418.toInt < v433.toInt := en_i_ge_f c434
    refine At.enter rfl ?_
    refine r_iload_n e427 ?_
    refine r_bipush 8 rfl ?_
    refine r_ics 19 rfl (fun c439 => ?_) (fun c439 => ?_)
    · have c439_ : x418.toInt ≥ 8 := en_i_ge_t c439
      exfalso; omega
    · have c439_ : x418.toInt < 8 := en_i_ge_f c439
      refine At.enter rfl ?_
      refine r_aload_n e425 ?_
      refine r_iload_n e426 ?_
      refine r_aload_n e425 ?_
      refine q_getR (Sh.ref hI420.1 kx_184 rfl) ?_
      refine q_getR (Sh.ref hI420.1 kx_1 rfl) ?_
      refine r_iload_n e427 ?_
      obtain ⟨v440, hv440⟩ : ∃ v, eA g0 15 x418.toInt = v := ⟨_, rfl⟩
      refine q_iald (Sh.arr hI420.1 ka_15) x418.toInt rfl (by omega) v440 ((eA_c (hF421.2.1 15 (by decide))).trans hv440) ?_
      refine r_callV 33 rfl [.ref 184, .int a1, .int v440] [] (Nat.le_of_ble_eq_true rfl) rfl (T_X9_standAfter_184 _ hI420 a1 v440) ?_
      rintro _ _ ⟨g441, rfl, hI442, hF443, v444, rfl, hr445⟩
      refine At.sti ?_
      have hF446 := Fr.tr hF421 hF443 rfl rfl
      rw [NX.cI ((hF421.2.1 2 (by decide))) ((hF421.1 1 0 (by decide)))] at hr445
      refine At.enter rfl ?_
      refine r_aload_n e425 ?_
      refine q_getR (Sh.ref hI442.1 kx_184 rfl) ?_
      refine q_getR (Sh.ref hI442.1 kx_1 rfl) ?_
      refine r_iload_n e427 ?_
      obtain ⟨v447, hv447⟩ : ∃ v, eA g0 14 x418.toInt = v := ⟨_, rfl⟩
      refine q_iald (Sh.arr hI442.1 ka_14) x418.toInt rfl (by omega) v447 ((eA_c ((hF443.2.1 14 (by decide)).trans (hF421.2.1 14 (by decide)))).trans hv447) ?_
      refine r_ics 45 rfl (fun c448 => ?_) (fun c448 => ?_)
      · have c448_ : v444.toInt = v447.toInt := en_i_eq_t c448
        refine At.enter rfl ?_
        refine q_iinc e427 (x418.toInt + 1) rfl (by omega) (fun v449 hv449 => ?_)
        refine r_goto ?_
        exact ih424 (8 - v449.toInt) _ _ ⟨v449, by first | rfl | omega, hI442, hF446, (w_p1 (by decide) (Or.inr rfl) e425), (w_p1 (by decide) (Or.inr rfl) e426), (w_e1 _ _ _), by omega, (fun k h0 h1 => (Decidable.em (k = x418.toInt)).elim (fun e => by rw [e, hv440, hv447]; omega) (fun e => q429 k h0 (by omega))), by omega⟩ ⟨by omega, by omega⟩
      · have c448_ : v444.toInt ≠ v447.toInt := en_i_eq_f c448
        refine At.enter rfl ?_
        refine r_iconst 0 rfl ?_
        refine r_iretz (by decide) ?_
        have zv450 : (0 : Int32).toInt = 0 := rfl
        have x451 := HI.eqI hI0 (p := 1) (b := 12) (hv433)
        exact ⟨_, rfl, hI442, hF446, _, rfl, by decide, (FITX.no x418.toInt (by omega) (by omega) (by rw [hv440, hv447]; omega) (by omega))⟩

def F_X9_suspects_184 : List (Nat × Nat) := []
def A_X9_suspects_184 : List Nat := []
set_option maxRecDepth 100000 in
set_option maxHeartbeats 4000000 in
theorem T_X9_suspects_184 (d : Nat) {N : Nat} {g0 : List en_E} (hI0 : HI g0) : Ev (d + 5) 98 [.ref 184] (g0, N) (fun w h' => ∃ g', h' = (g', N) ∧ HI g' ∧ Fr F_X9_suspects_184 A_X9_suspects_184 g0 g' ∧ ∃ r : Int32, w = some (.int r) ∧ True ∧ (r.toInt = (ACI (FITX g0) (gI g0 1 0).toInt).toInt)) := by
  have hF0 : Fr F_X9_suspects_184 A_X9_suspects_184 g0 g0 := Fr.rf
  refine Ev.mk rfl rfl ⟨Nat.le_of_ble_eq_true rfl, Or.inr (q_rc hI0.1 kx_184 rfl)⟩ ?_
  show At _ none _ _ (0, [(0, .ref 184)], [], (_, _)) _
  refine At.enter rfl ?_
  refine r_iconst 0 rfl ?_
  refine r_istore_n ([(1, .int 0), (0, .ref 184)]) rfl ?_
  refine r_iconst 0 rfl ?_
  refine r_istore_n ([(2, .int 0), (1, .int 0), (0, .ref 184)]) rfl ?_
  refine Ar.fall 4 rfl ?_
  have z_569 : (0 : Int32).toInt = 0 := rfl
  have z_570 : (0 : Int32).toInt = 0 := rfl
  obtain ⟨v571, hv571⟩ : ∃ v, gI g0 1 0 = v := ⟨_, rfl⟩
  have rv571 := RgF.at hI0.2.1 (p := 1) (b := 0) rfl
  rw [hv571] at rv571
  dsimp only at rv571
  have tv571 := congrArg Int32.toInt hv571
  refine w_loopI (fun n_ l_ g_ => ∃ x554 : Int32, ∃ x555 : Int32, n_ = 12 - x555.toInt ∧ HI g_ ∧ Fr F_X9_suspects_184 A_X9_suspects_184 g0 g_ ∧ en_get 0 l_ = some (.ref 184) ∧ en_get 1 l_ = some (.int x554) ∧ en_get 2 l_ = some (.int x555) ∧ (0 ≤ x555.toInt ∧ x555.toInt ≤ 12) ∧ (x554.toInt = (ACI (FITX g0) x555.toInt).toInt) ∧ (0 ≤ x555.toInt) ∧ (x555.toInt ≤ (gI g0 1 0).toInt)) ?_ (12 - 0) ⟨0, 0, by first | rfl | omega, hI0, hF0, rfl, rfl, rfl, by decide, ((by first | rfl | omega : _ = (0 : Int)).trans (ACI.z _ (by first | decide | omega))), by omega, by omega⟩
  rintro n560 l559 g556 ⟨x554, x555, hm572, hI557, hF558, e562, e563, e564, r565, q566, q567, q568⟩ ih561
  refine At.enter rfl ?_
  refine r_iload_n e564 ?_
  refine r_aload_n e562 ?_
  refine q_getR (Sh.ref hI557.1 kx_184 rfl) ?_
  refine q_getI (Sh.int hI557.1 kx_1 rfl) v571 ((hF558.1 1 0 (by decide)).trans hv571) ?_
  have bv574 := q_bnd x555
  have bv575 := q_bnd v571
  refine r_ics 15 rfl (fun c573 => ?_) (fun c573 => ?_)
  · have c573_ : x555.toInt ≥ v571.toInt := en_i_ge_t c573
    refine At.enter rfl ?_
    refine r_iload_n e563 ?_
    refine r_ireti ?_
    have x576 := HI.eqI hI0 (p := 1) (b := 0) (hv571)
    exact ⟨_, rfl, hI557, hF558, _, rfl, trivial, (by rw [show (gI g0 1 0).toInt = x555.toInt from by omega]; exact q566)⟩
  · have c573_ : x555.toInt < v571.toInt := en_i_ge_f c573
    refine At.enter rfl ?_
    refine r_aload_n e562 ?_
    refine r_iload_n e564 ?_
    refine r_callV 20 rfl [.ref 184, .int x555] [] (Nat.le_of_ble_eq_true rfl) rfl (T_X9_fitsSigns_184 _ hI557 x555) ?_
    rintro _ _ ⟨g577, rfl, hI578, hF579, v580, rfl, hr581⟩
    refine At.sti ?_
    have hF582 := Fr.tr hF558 hF579 rfl rfl
    refine At.enter rfl ?_
    refine r_ifs 23 rfl (fun c583 => ?_) (fun c583 => ?_)
    · have c583_ : v580.toInt = 0 := en_k_eq_t c583
      refine At.enter rfl ?_
      refine q_iinc e564 (x555.toInt + 1) rfl (by omega) (fun v584 hv584 => ?_)
      refine r_goto ?_
      have bv585 := q_bnd x554
      exact ih561 (12 - v584.toInt) _ _ ⟨x554, v584, by first | rfl | omega, hI578, hF582, (w_p1 (by decide) (Or.inr rfl) e562), (w_p1 (by decide) (Or.inr rfl) e563), (w_e1 _ _ _), by omega, (ACI.no (by omega) (show v584.toInt = x555.toInt + 1 from by omega) (fun f => BL.no hr581.2 (by omega) (((FITX.c (s := x555.toInt) ((hF558.2.1 2 (by decide))) ((hF558.2.1 14 (by decide))) ((hF558.2.1 15 (by decide))) ((hF558.1 1 0 (by decide))) ((hF558.1 1 12 (by decide))))).mpr f)) q566), by omega, by omega⟩ ⟨by omega, by omega⟩
    · have c583_ : v580.toInt ≠ 0 := en_k_eq_f c583
      refine At.enter rfl ?_
      refine r_iload_n e563 ?_
      refine r_iconst 1 rfl ?_
      refine r_iload_n e564 ?_
      refine q_ishlO (fun v586 hv586 => ?_)
      refine q_iorO (fun v587 hv587 => ?_)
      refine r_istore_n _ rfl ?_
      refine Ar.fall 29 rfl ?_
      refine At.enter rfl ?_
      refine q_iinc (w_p1 (by decide) (Or.inr rfl) e564) (x555.toInt + 1) rfl (by omega) (fun v588 hv588 => ?_)
      refine r_goto ?_
      have bv589 := q_bnd v587
      exact ih561 (12 - v588.toInt) _ _ ⟨v587, v588, by first | rfl | omega, hI578, hF582, (w_p1 (by decide) (Or.inr rfl) (w_p1 (by decide) (Or.inr rfl) e562)), (w_p1 (by decide) (Or.inr rfl) (w_e1 _ _ _)), (w_e1 _ _ _), by omega, (ACI.yes (i := x555) (by omega) (show v588.toInt = x555.toInt + 1 from by omega) (((FITX.c (s := x555.toInt) ((hF558.2.1 2 (by decide))) ((hF558.2.1 14 (by decide))) ((hF558.2.1 15 (by decide))) ((hF558.1 1 0 (by decide))) ((hF558.1 1 12 (by decide))))).mp (BL.yes hr581.2 (by omega))) rfl hv587 (by assumption) q566), by omega, by omega⟩ ⟨by omega, by omega⟩

def F_X9_meeting_184 : List (Nat × Nat) := []
def A_X9_meeting_184 : List Nat := []
set_option maxRecDepth 100000 in
set_option maxHeartbeats 4000000 in
theorem T_X9_meeting_184 (d : Nat) {N : Nat} {g0 : List en_E} (hI0 : HI g0) (a1 : Int32) (a2 : Int32) (a3 : Int32) : Ev (d + 3) 100 [.ref 184, .int a1, .int a2, .int a3] (g0, N) (fun w h' => ∃ g', h' = (g', N) ∧ HI g' ∧ Fr F_X9_meeting_184 A_X9_meeting_184 g0 g' ∧ ∃ r : Int32, w = some (.int r) ∧ True ∧ (MEET (NX g0) 144 a1.toInt a2.toInt a3.toInt r.toInt)) := by
  have hF0 : Fr F_X9_meeting_184 A_X9_meeting_184 g0 g0 := Fr.rf
  refine Ev.mk rfl rfl ⟨Nat.le_of_ble_eq_true rfl, Or.inr (q_rc hI0.1 kx_184 rfl)⟩ ?_
  show At _ none _ _ (0, [(0, .ref 184), (1, .int a1), (2, .int a2), (3, .int a3)], [], (_, _)) _
  refine At.enter rfl ?_
  refine r_iload_n rfl ?_
  refine r_istore ([(4, .int a1), (0, .ref 184), (1, .int a1), (2, .int a2), (3, .int a3)]) rfl ?_
  refine r_iload_n rfl ?_
  refine r_istore ([(5, .int a2), (4, .int a1), (0, .ref 184), (1, .int a1), (2, .int a2), (3, .int a3)]) rfl ?_
  refine r_iconst 0 rfl ?_
  refine r_istore ([(6, .int 0), (5, .int a2), (4, .int a1), (0, .ref 184), (1, .int a1), (2, .int a2), (3, .int a3)]) rfl ?_
  refine Ar.fall 9 rfl ?_
  have z_1160 : (0 : Int32).toInt = 0 := rfl
  refine w_loopI (fun n_ l_ g_ => ∃ x1139 : Int32, ∃ x1140 : Int32, ∃ x1141 : Int32, n_ = 145 - x1141.toInt ∧ HI g_ ∧ Fr F_X9_meeting_184 A_X9_meeting_184 g0 g_ ∧ en_get 0 l_ = some (.ref 184) ∧ en_get 1 l_ = some (.int a1) ∧ en_get 2 l_ = some (.int a2) ∧ en_get 3 l_ = some (.int a3) ∧ en_get 4 l_ = some (.int x1139) ∧ en_get 5 l_ = some (.int x1140) ∧ en_get 6 l_ = some (.int x1141) ∧ (0 ≤ x1141.toInt ∧ x1141.toInt ≤ 145) ∧ (x1139.toInt = itI (NX g0) x1141.toInt a1.toInt) ∧ (x1140.toInt = itI (NX g0) x1141.toInt a2.toInt) ∧ (∀ j : Int, 0 ≤ j → j < x1141.toInt → ¬ MT (NX g0) a1.toInt a2.toInt j) ∧ (0 ≤ x1141.toInt)) ?_ (145 - 0) ⟨a1, a2, 0, by first | rfl | omega, hI0, hF0, rfl, rfl, rfl, rfl, rfl, rfl, rfl, by decide, (itI_n _ (by first | decide | omega) _).symm, (itI_n _ (by first | decide | omega) _).symm, (fun j h0 h1 => absurd h1 (by omega)), by omega⟩
  rintro n1146 l1145 g1142 ⟨x1139, x1140, x1141, hm1161, hI1143, hF1144, e1148, e1149, e1150, e1151, e1152, e1153, e1154, r1155, q1156, q1157, q1158, q1159⟩ ih1147
  refine At.enter rfl ?_
  refine r_iload e1154 ?_
  refine r_sipush 144 rfl ?_
  refine r_ics 17 rfl (fun c1162 => ?_) (fun c1162 => ?_)
  · have c1162_ : x1141.toInt > 144 := en_i_gt_t c1162
    refine At.enter rfl ?_
    refine r_iconst (-1) rfl ?_
    refine r_ireti ?_
    have zv1163 : ((-1) : Int32).toInt = (-1) := rfl
    exact ⟨_, rfl, hI1143, hF1144, _, rfl, trivial, (by first | exact MEET.a x1141.toInt (by omega) (by omega) (by rw [← q1156, ← q1157]; omega) (by rw [← q1156]; omega) q1158 (by omega) (by rw [← q1156]; omega) | exact MEET.n (NX.e g0) q1158 (by rw [← q1156, ← q1157]; omega) (by omega))⟩
  · have c1162_ : x1141.toInt ≤ 144 := en_i_gt_f c1162
    refine At.enter rfl ?_
    refine r_iload e1152 ?_
    refine r_iconst (-1) rfl ?_
    refine r_ics 23 rfl (fun c1164 => ?_) (fun c1164 => ?_)
    · have c1164_ : x1139.toInt = (-1) := en_i_eq_t c1164
      refine At.enter rfl ?_
      refine r_iconst (-1) rfl ?_
      refine r_ireti ?_
      have zv1165 : ((-1) : Int32).toInt = (-1) := rfl
      exact ⟨_, rfl, hI1143, hF1144, _, rfl, trivial, (by first | exact MEET.a x1141.toInt (by omega) (by omega) (by rw [← q1156, ← q1157]; omega) (by rw [← q1156]; omega) q1158 (by omega) (by rw [← q1156]; omega) | exact MEET.n (NX.e g0) q1158 (by rw [← q1156, ← q1157]; omega) (by omega))⟩
    · have c1164_ : x1139.toInt ≠ (-1) := en_i_eq_f c1164
      refine At.enter rfl ?_
      refine r_iload e1153 ?_
      refine r_iconst (-1) rfl ?_
      refine r_ics 29 rfl (fun c1166 => ?_) (fun c1166 => ?_)
      · have c1166_ : x1140.toInt = (-1) := en_i_eq_t c1166
        refine At.enter rfl ?_
        refine r_iconst (-1) rfl ?_
        refine r_ireti ?_
        have zv1167 : ((-1) : Int32).toInt = (-1) := rfl
        exact ⟨_, rfl, hI1143, hF1144, _, rfl, trivial, (by first | exact MEET.a x1141.toInt (by omega) (by omega) (by rw [← q1156, ← q1157]; omega) (by rw [← q1156]; omega) q1158 (by omega) (by rw [← q1156]; omega) | exact MEET.n (NX.e g0) q1158 (by rw [← q1156, ← q1157]; omega) (by omega))⟩
      · have c1166_ : x1140.toInt ≠ (-1) := en_i_eq_f c1166
        refine At.enter rfl ?_
        refine r_iload e1152 ?_
        refine r_iload e1153 ?_
        refine r_ics 36 rfl (fun c1168 => ?_) (fun c1168 => ?_)
        · have c1168_ : x1139.toInt ≠ x1140.toInt := en_i_ne_t c1168
          refine At.enter rfl ?_
          refine r_aload_n e1148 ?_
          refine q_getR (Sh.ref hI1143.1 kx_184 rfl) ?_
          refine r_iload e1152 ?_
          refine r_callV 57 rfl [.ref 1, .int x1139] [] (Nat.le_of_ble_eq_true rfl) rfl (T_X0_next_1 _ hI1143 x1139) ?_
          rintro _ _ ⟨g1169, rfl, hI1170, hF1171, v1172, rfl, hr1173⟩
          refine At.sti ?_
          have hF1174 := Fr.tr hF1144 hF1171 rfl rfl
          rw [NX.c ((hF1144.2.1 2 (by decide))) ((hF1144.1 1 0 (by decide)))] at hr1173
          refine At.enter rfl ?_
          refine r_istore _ rfl ?_
          refine r_aload_n (w_p1 (by decide) (Or.inr rfl) e1148) ?_
          refine q_getR (Sh.ref hI1170.1 kx_184 rfl) ?_
          refine r_iload (w_p1 (by decide) (Or.inr rfl) e1153) ?_
          refine r_callV 68 rfl [.ref 1, .int x1140] [] (Nat.le_of_ble_eq_true rfl) rfl (T_X0_next_1 _ hI1170 x1140) ?_
          rintro _ _ ⟨g1175, rfl, hI1176, hF1177, v1178, rfl, hr1179⟩
          refine At.sti ?_
          have hF1180 := Fr.tr hF1174 hF1177 rfl rfl
          rw [NX.c (((hF1171.2.1 2 (by decide)).trans (hF1144.2.1 2 (by decide)))) (((hF1171.1 1 0 (by decide)).trans (hF1144.1 1 0 (by decide))))] at hr1179
          refine At.enter rfl ?_
          refine r_istore _ rfl ?_
          refine q_iinc (w_p1 (by decide) (Or.inr rfl) (w_p1 (by decide) (Or.inr rfl) e1154)) (x1141.toInt + 1) rfl (by omega) (fun v1181 hv1181 => ?_)
          refine r_goto ?_
          have bv1182 := q_bnd v1172
          have bv1183 := q_bnd v1178
          exact ih1147 (145 - v1181.toInt) _ _ ⟨v1172, v1178, v1181, by first | rfl | omega, hI1176, hF1180, (w_p1 (by decide) (Or.inr rfl) (w_p1 (by decide) (Or.inr rfl) (w_p1 (by decide) (Or.inr rfl) e1148))), (w_p1 (by decide) (Or.inr rfl) (w_p1 (by decide) (Or.inr rfl) (w_p1 (by decide) (Or.inr rfl) e1149))), (w_p1 (by decide) (Or.inr rfl) (w_p1 (by decide) (Or.inr rfl) (w_p1 (by decide) (Or.inr rfl) e1150))), (w_p1 (by decide) (Or.inr rfl) (w_p1 (by decide) (Or.inr rfl) (w_p1 (by decide) (Or.inr rfl) e1151))), (w_p1 (by decide) (Or.inr rfl) (w_p1 (by decide) (Or.inr rfl) (w_e1 _ _ _))), (w_p1 (by decide) (Or.inr rfl) (w_e1 _ _ _)), (w_e1 _ _ _), by omega, (by rw [show v1181.toInt = x1141.toInt + 1 from by omega, itI_s (NX g0) (by omega), ← q1156]; omega), (by rw [show v1181.toInt = x1141.toInt + 1 from by omega, itI_s (NX g0) (by omega), ← q1157]; omega), (MT.step q1158 (by rw [← q1156, ← q1157]; omega) (show v1181.toInt = x1141.toInt + 1 from by omega)), by omega⟩ ⟨by omega, by omega⟩
        · have c1168_ : x1139.toInt = x1140.toInt := en_i_ne_f c1168
          refine At.enter rfl ?_
          refine r_iload_n e1151 ?_
          refine r_ifs 40 rfl (fun c1184 => ?_) (fun c1184 => ?_)
          · have c1184_ : a3.toInt ≠ 0 := en_k_ne_t c1184
            refine At.enter rfl ?_
            refine r_iload e1152 ?_
            refine Ar.fall 47 rfl ?_
            refine At.enter rfl ?_
            refine r_ireti ?_
            exact ⟨_, rfl, hI1143, hF1144, _, rfl, trivial, (by first | exact MEET.a x1141.toInt (by omega) (by omega) (by rw [← q1156, ← q1157]; omega) (by rw [← q1156]; omega) q1158 (by omega) (by rw [← q1156]; omega) | exact MEET.n (NX.e g0) q1158 (by rw [← q1156, ← q1157]; omega) (by omega))⟩
          · have c1184_ : a3.toInt = 0 := en_k_ne_f c1184
            refine At.enter rfl ?_
            refine r_iload e1154 ?_
            refine r_goto ?_
            refine At.enter rfl ?_
            refine r_ireti ?_
            exact ⟨_, rfl, hI1143, hF1144, _, rfl, trivial, (by first | exact MEET.a x1141.toInt (by omega) (by omega) (by rw [← q1156, ← q1157]; omega) (by rw [← q1156]; omega) q1158 (by omega) (by rw [← q1156]; omega) | exact MEET.n (NX.e g0) q1158 (by rw [← q1156, ← q1157]; omega) (by omega))⟩

def F_X9_minutesInPieces_184 : List (Nat × Nat) := []
def A_X9_minutesInPieces_184 : List Nat := []
set_option maxRecDepth 100000 in
set_option maxHeartbeats 4000000 in
theorem T_X9_minutesInPieces_184 (d : Nat) {N : Nat} {g0 : List en_E} (hI0 : HI g0) (a1 : Int32) : Ev (d + 4) 101 [.ref 184, .int a1] (g0, N) (fun w h' => ∃ g', h' = (g', N) ∧ HI g' ∧ Fr F_X9_minutesInPieces_184 A_X9_minutesInPieces_184 g0 g' ∧ ∃ r : Int32, w = some (.int r) ∧ True) := by
  have hF0 : Fr F_X9_minutesInPieces_184 A_X9_minutesInPieces_184 g0 g0 := Fr.rf
  refine Ev.mk rfl rfl ⟨Nat.le_of_ble_eq_true rfl, Or.inr (q_rc hI0.1 kx_184 rfl)⟩ ?_
  show At _ none _ _ (0, [(0, .ref 184), (1, .int a1)], [], (_, _)) _
  refine At.enter rfl ?_
  refine r_aload_n rfl ?_
  refine q_getR (Sh.ref hI0.1 kx_184 rfl) ?_
  refine r_iload_n rfl ?_
  refine r_callV 8 rfl [.ref 1, .int a1] [] (Nat.le_of_ble_eq_true rfl) rfl (T_X0_handsOf_1 _ hI0 a1) ?_
  rintro _ _ ⟨g1113, rfl, hI1114, hF1115, v1116, rfl, hr1117⟩
  refine At.sti ?_
  have hF1118 := Fr.tr hF0 hF1115 rfl rfl
  refine At.enter rfl ?_
  refine r_istore_n ([(2, .int v1116), (0, .ref 184), (1, .int a1)]) rfl ?_
  refine r_aload_n rfl ?_
  refine q_getR (Sh.ref hI1114.1 kx_184 rfl) ?_
  refine r_iload_n rfl ?_
  refine r_iconst 1 rfl ?_
  refine r_callV 18 rfl [.ref 1, .int a1, .int 1] [] (Nat.le_of_ble_eq_true rfl) rfl (T_X0_about_1 _ hI1114 a1 1) ?_
  rintro _ _ ⟨g1119, rfl, hI1120, hF1121, v1122, rfl, hr1123⟩
  refine At.sti ?_
  have hF1124 := Fr.tr hF1118 hF1121 rfl rfl
  refine At.enter rfl ?_
  refine r_istore_n ([(3, .int v1122), (2, .int v1116), (0, .ref 184), (1, .int a1)]) rfl ?_
  refine r_bipush 9 rfl ?_
  refine r_istore ([(4, .int 9), (3, .int v1122), (2, .int v1116), (0, .ref 184), (1, .int a1)]) rfl ?_
  refine r_iconst 0 rfl ?_
  refine r_istore ([(5, .int 0), (4, .int 9), (3, .int v1122), (2, .int v1116), (0, .ref 184), (1, .int a1)]) rfl ?_
  refine Ar.fall 26 rfl ?_
  have z_1610 : (9 : Int32).toInt = 9 := rfl
  have z_1611 : (0 : Int32).toInt = 0 := rfl
  refine w_loopI (fun n_ l_ g_ => ∃ x1593 : Int32, ∃ x1594 : Int32, ∃ x1595 : Int32, n_ = 11 - x1595.toInt ∧ HI g_ ∧ Fr F_X9_minutesInPieces_184 A_X9_minutesInPieces_184 g0 g_ ∧ en_get 0 l_ = some (.ref 184) ∧ en_get 1 l_ = some (.int a1) ∧ en_get 2 l_ = some (.int v1116) ∧ en_get 3 l_ = some (.int x1593) ∧ en_get 4 l_ = some (.int x1594) ∧ en_get 5 l_ = some (.int x1595) ∧ x1594.toInt ≤ 9 ∧ (0 ≤ x1595.toInt ∧ x1595.toInt ≤ 11)) ?_ (11 - 0) ⟨v1122, 9, 0, by first | rfl | omega, hI1120, hF1124, rfl, rfl, rfl, rfl, rfl, rfl, by decide, by decide⟩
  rintro n1600 l1599 g1596 ⟨x1593, x1594, x1595, hm1612, hI1597, hF1598, e1602, e1603, e1604, e1605, e1606, e1607, r1608, r1609⟩ ih1601
  refine At.enter rfl ?_
  refine r_iload e1607 ?_
  refine r_iload_n e1604 ?_
  have bv1614 := q_bnd x1595
  have bv1615 := q_bnd v1116
  refine r_ics 32 rfl (fun c1613 => ?_) (fun c1613 => ?_)
  · have c1613_ : x1595.toInt ≥ v1116.toInt := en_i_ge_t c1613
    refine At.enter rfl ?_
    refine r_iload_n e1604 ?_
    refine r_ifs 78 rfl (fun c1616 => ?_) (fun c1616 => ?_)
    · have c1616_ : v1116.toInt ≤ 0 := en_k_le_t c1616
      refine At.enter rfl ?_
      refine r_iload_n e1604 ?_
      refine r_ireti ?_
      exact ⟨_, rfl, hI1597, hF1598, _, rfl, trivial⟩
    · have c1616_ : v1116.toInt > 0 := en_k_le_f c1616
      refine At.enter rfl ?_
      refine r_iload e1606 ?_
      refine r_iconst 1 rfl ?_
      refine r_ics 84 rfl (fun c1617 => ?_) (fun c1617 => ?_)
      · have c1617_ : x1594.toInt ≥ 1 := en_i_ge_t c1617
        refine At.enter rfl ?_
        refine r_iload_n e1604 ?_
        refine r_aload_n e1602 ?_
        refine q_getR (Sh.ref hI1597.1 kx_184 rfl) ?_
        refine r_iload_n e1603 ?_
        refine r_iconst 0 rfl ?_
        refine r_callV 96 rfl [.ref 1, .int a1, .int 0] [.int v1116] (Nat.le_of_ble_eq_true rfl) rfl (T_X0_about_1 _ hI1597 a1 0) ?_
        rintro _ _ ⟨g1618, rfl, hI1619, hF1620, v1621, rfl, hr1622⟩
        refine At.sti ?_
        have hF1623 := Fr.tr hF1598 hF1620 rfl rfl
        refine At.enter rfl ?_
        refine r_iload e1606 ?_
        refine q_iaddO (fun v1624 _ => ?_)
        refine r_iconst 1 rfl ?_
        refine q_isubO (fun v1625 _ => ?_)
        refine r_iload e1606 ?_
        refine q_idivO (by omega) (fun v1626 _ => ?_)
        refine q_iaddO (fun v1627 _ => ?_)
        refine r_iconst 1 rfl ?_
        refine q_isubO (fun v1628 _ => ?_)
        refine r_ireti ?_
        exact ⟨_, rfl, hI1619, hF1623, _, rfl, trivial⟩
      · have c1617_ : x1594.toInt < 1 := en_i_ge_f c1617
        refine At.enter rfl ?_
        refine r_iload_n e1604 ?_
        refine r_ireti ?_
        exact ⟨_, rfl, hI1597, hF1598, _, rfl, trivial⟩
  · have c1613_ : x1595.toInt < v1116.toInt := en_i_ge_f c1613
    refine At.enter rfl ?_
    refine r_aload_n e1602 ?_
    refine q_getR (Sh.ref hI1597.1 kx_184 rfl) ?_
    refine r_iload_n e1605 ?_
    refine q_inlV 40 rfl [.ref 1, .int x1593] [] (Nat.le_of_ble_eq_true rfl) rfl ?_
    refine Ev.mk rfl rfl ⟨Nat.le_of_ble_eq_true rfl, Or.inr (q_rc hI1597.1 kx_1 rfl)⟩ ?_
    show At _ none _ _ (0, [(0, .ref 1), (1, .int x1593)], [], (_, _)) _
    refine At.enter rfl ?_
    refine r_iload_n rfl ?_
    refine r_ifs 4 rfl (fun c1629 => ?_) (fun c1629 => ?_)
    · have c1629_ : x1593.toInt < 0 := en_k_lt_t c1629
      refine At.enter rfl ?_
      refine r_iconst 0 rfl ?_
      refine Ar.fall 17 rfl ?_
      refine At.enter rfl ?_
      refine q_iretz (by decide) ?_
      refine At.enter rfl ?_
      refine r_ift (by decide) ?_
      refine At.enter rfl ?_
      refine r_iload_n e1604 ?_
      refine r_ifs 78 rfl (fun c1630 => ?_) (fun c1630 => ?_)
      · have c1630_ : v1116.toInt ≤ 0 := en_k_le_t c1630
        exfalso; omega
      · have c1630_ : v1116.toInt > 0 := en_k_le_f c1630
        refine At.enter rfl ?_
        refine r_iload e1606 ?_
        refine r_iconst 1 rfl ?_
        refine r_ics 84 rfl (fun c1631 => ?_) (fun c1631 => ?_)
        · have c1631_ : x1594.toInt ≥ 1 := en_i_ge_t c1631
          refine At.enter rfl ?_
          refine r_iload_n e1604 ?_
          refine r_aload_n e1602 ?_
          refine q_getR (Sh.ref hI1597.1 kx_184 rfl) ?_
          refine r_iload_n e1603 ?_
          refine r_iconst 0 rfl ?_
          refine r_callV 96 rfl [.ref 1, .int a1, .int 0] [.int v1116] (Nat.le_of_ble_eq_true rfl) rfl (T_X0_about_1 _ hI1597 a1 0) ?_
          rintro _ _ ⟨g1632, rfl, hI1633, hF1634, v1635, rfl, hr1636⟩
          refine At.sti ?_
          have hF1637 := Fr.tr hF1598 hF1634 rfl rfl
          refine At.enter rfl ?_
          refine r_iload e1606 ?_
          refine q_iaddO (fun v1638 _ => ?_)
          refine r_iconst 1 rfl ?_
          refine q_isubO (fun v1639 _ => ?_)
          refine r_iload e1606 ?_
          refine q_idivO (by omega) (fun v1640 _ => ?_)
          refine q_iaddO (fun v1641 _ => ?_)
          refine r_iconst 1 rfl ?_
          refine q_isubO (fun v1642 _ => ?_)
          refine r_ireti ?_
          exact ⟨_, rfl, hI1633, hF1637, _, rfl, trivial⟩
        · have c1631_ : x1594.toInt < 1 := en_i_ge_f c1631
          refine At.enter rfl ?_
          refine r_iload_n e1604 ?_
          refine r_ireti ?_
          exact ⟨_, rfl, hI1597, hF1598, _, rfl, trivial⟩
    · have c1629_ : x1593.toInt ≥ 0 := en_k_lt_f c1629
      refine At.enter rfl ?_
      refine r_iload_n rfl ?_
      refine r_aload_n rfl ?_
      obtain ⟨v1643, hv1643⟩ : ∃ v, gI g0 1 0 = v := ⟨_, rfl⟩
      have rv1643 := RgF.at hI0.2.1 (p := 1) (b := 0) rfl
      rw [hv1643] at rv1643
      dsimp only at rv1643
      refine q_getI (Sh.int hI1597.1 kx_1 rfl) v1643 ((hF1598.1 1 0 (by decide)).trans hv1643) ?_
      have bv1645 := q_bnd x1593
      have bv1646 := q_bnd v1643
      refine r_ics 12 rfl (fun c1644 => ?_) (fun c1644 => ?_)
      · have c1644_ : x1593.toInt ≥ v1643.toInt := en_i_ge_t c1644
        refine At.enter rfl ?_
        refine r_iconst 0 rfl ?_
        refine Ar.fall 17 rfl ?_
        refine At.enter rfl ?_
        refine q_iretz (by decide) ?_
        refine At.enter rfl ?_
        refine r_ift (by decide) ?_
        refine At.enter rfl ?_
        refine r_iload_n e1604 ?_
        refine r_ifs 78 rfl (fun c1647 => ?_) (fun c1647 => ?_)
        · have c1647_ : v1116.toInt ≤ 0 := en_k_le_t c1647
          exfalso; omega
        · have c1647_ : v1116.toInt > 0 := en_k_le_f c1647
          refine At.enter rfl ?_
          refine r_iload e1606 ?_
          refine r_iconst 1 rfl ?_
          refine r_ics 84 rfl (fun c1648 => ?_) (fun c1648 => ?_)
          · have c1648_ : x1594.toInt ≥ 1 := en_i_ge_t c1648
            refine At.enter rfl ?_
            refine r_iload_n e1604 ?_
            refine r_aload_n e1602 ?_
            refine q_getR (Sh.ref hI1597.1 kx_184 rfl) ?_
            refine r_iload_n e1603 ?_
            refine r_iconst 0 rfl ?_
            refine r_callV 96 rfl [.ref 1, .int a1, .int 0] [.int v1116] (Nat.le_of_ble_eq_true rfl) rfl (T_X0_about_1 _ hI1597 a1 0) ?_
            rintro _ _ ⟨g1649, rfl, hI1650, hF1651, v1652, rfl, hr1653⟩
            refine At.sti ?_
            have hF1654 := Fr.tr hF1598 hF1651 rfl rfl
            refine At.enter rfl ?_
            refine r_iload e1606 ?_
            refine q_iaddO (fun v1655 _ => ?_)
            refine r_iconst 1 rfl ?_
            refine q_isubO (fun v1656 _ => ?_)
            refine r_iload e1606 ?_
            refine q_idivO (by omega) (fun v1657 _ => ?_)
            refine q_iaddO (fun v1658 _ => ?_)
            refine r_iconst 1 rfl ?_
            refine q_isubO (fun v1659 _ => ?_)
            refine r_ireti ?_
            exact ⟨_, rfl, hI1650, hF1654, _, rfl, trivial⟩
          · have c1648_ : x1594.toInt < 1 := en_i_ge_f c1648
            refine At.enter rfl ?_
            refine r_iload_n e1604 ?_
            refine r_ireti ?_
            exact ⟨_, rfl, hI1597, hF1598, _, rfl, trivial⟩
      · have c1644_ : x1593.toInt < v1643.toInt := en_i_ge_f c1644
        refine At.enter rfl ?_
        refine r_iconst 1 rfl ?_
        refine r_goto ?_
        refine At.enter rfl ?_
        refine q_iretz (by decide) ?_
        refine At.enter rfl ?_
        refine r_iff 43 rfl (by decide) ?_
        refine At.enter rfl ?_
        refine r_iload e1606 ?_
        refine r_aload_n e1602 ?_
        refine q_getR (Sh.ref hI1597.1 kx_184 rfl) ?_
        refine q_getR (Sh.ref hI1597.1 kx_1 rfl) ?_
        refine r_iload_n e1605 ?_
        obtain ⟨v1660, hv1660⟩ : ∃ v, eA g0 3 x1593.toInt = v := ⟨_, rfl⟩
        refine q_iald (Sh.arr hI1597.1 ka_3) x1593.toInt rfl (by omega) v1660 ((eA_c (hF1598.2.1 3 (by decide))).trans hv1660) ?_
        refine q_mmin rfl (Nat.le_of_ble_eq_true rfl) (fun v1661 hv1661 => ?_)
        refine r_istore _ rfl ?_
        refine r_aload_n (w_p1 (by decide) (Or.inr rfl) e1602) ?_
        refine q_getR (Sh.ref hI1597.1 kx_184 rfl) ?_
        refine r_iload_n (w_p1 (by decide) (Or.inr rfl) e1605) ?_
        refine r_callV 67 rfl [.ref 1, .int x1593] [] (Nat.le_of_ble_eq_true rfl) rfl (T_X0_next_1 _ hI1597 x1593) ?_
        rintro _ _ ⟨g1662, rfl, hI1663, hF1664, v1665, rfl, hr1666⟩
        refine At.sti ?_
        have hF1667 := Fr.tr hF1598 hF1664 rfl rfl
        rw [NX.c ((hF1598.2.1 2 (by decide))) ((hF1598.1 1 0 (by decide)))] at hr1666
        refine At.enter rfl ?_
        refine r_istore_n _ rfl ?_
        refine q_iinc (w_p1 (by decide) (Or.inr rfl) (w_p1 (by decide) (Or.inr rfl) e1607)) (x1595.toInt + 1) rfl (by omega) (fun v1668 hv1668 => ?_)
        refine r_goto ?_
        have bv1669 := q_bnd v1665
        have bv1670 := q_bnd v1661
        exact ih1601 (11 - v1668.toInt) _ _ ⟨v1665, v1661, v1668, by first | rfl | omega, hI1663, hF1667, (w_p1 (by decide) (Or.inr rfl) (w_p1 (by decide) (Or.inr rfl) (w_p1 (by decide) (Or.inr rfl) e1602))), (w_p1 (by decide) (Or.inr rfl) (w_p1 (by decide) (Or.inr rfl) (w_p1 (by decide) (Or.inr rfl) e1603))), (w_p1 (by decide) (Or.inr rfl) (w_p1 (by decide) (Or.inr rfl) (w_p1 (by decide) (Or.inr rfl) e1604))), (w_p1 (by decide) (Or.inr rfl) (w_e1 _ _ _)), (w_p1 (by decide) (Or.inr rfl) (w_p1 (by decide) (Or.inr rfl) (w_e1 _ _ _))), (w_e1 _ _ _), by omega, by omega⟩ ⟨by omega, by omega⟩
