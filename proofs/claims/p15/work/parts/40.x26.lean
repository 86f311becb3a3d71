def F_X9_fitsSigns_184 : List (Nat × Nat) := []
def A_X9_fitsSigns_184 : List Nat := []
theorem ma_X9_standAfter_184_14 : memA A_X9_standAfter_184 14 = false := by decide
set_option maxRecDepth 100000 in
set_option maxHeartbeats 4000000 in
theorem T_X9_fitsSigns_184 (d : Nat) {N : Nat} {g0 : List en_E} (hI0 : HI g0) (a1 : Int32) : Ev (d + 4) 99 [.ref 184, .int a1] (g0, N) (fun w h' => ∃ g', h' = (g', N) ∧ HI g' ∧ Fr F_X9_fitsSigns_184 A_X9_fitsSigns_184 g0 g' ∧ ∃ r : Int32, w = some (.int r) ∧ (0 ≤ r.toInt ∧ r.toInt ≤ 1)) := by
  have hF0 : Fr F_X9_fitsSigns_184 A_X9_fitsSigns_184 g0 g0 := Fr.rf
  refine Ev.mk rfl rfl ⟨Nat.le_of_ble_eq_true rfl, Or.inr (q_rc hI0.1 kx_184 rfl)⟩ ?_
  show At _ none _ _ (0, [(0, .ref 184), (1, .int a1)], [], (_, _)) _
  refine At.enter rfl ?_
  refine r_iconst 0 rfl ?_
  refine r_istore_n ([(2, .int 0), (0, .ref 184), (1, .int a1)]) rfl ?_
  refine Ar.fall 2 rfl ?_
  have z_425 : (0 : Int32).toInt = 0 := rfl
  refine w_loopI (fun n_ l_ g_ => ∃ x414 : Int32, n_ = 8 - x414.toInt ∧ HI g_ ∧ Fr F_X9_fitsSigns_184 A_X9_fitsSigns_184 g0 g_ ∧ en_get 0 l_ = some (.ref 184) ∧ en_get 1 l_ = some (.int a1) ∧ en_get 2 l_ = some (.int x414) ∧ (0 ≤ x414.toInt ∧ x414.toInt ≤ 8)) ?_ (8 - 0) ⟨0, by first | rfl | omega, hI0, hF0, rfl, rfl, rfl, by decide⟩
  rintro n419 l418 g415 ⟨x414, hm426, hI416, hF417, e421, e422, e423, r424⟩ ih420
  refine At.enter rfl ?_
  refine r_iload_n e423 ?_
  refine r_aload_n e421 ?_
  refine q_getR (Sh.ref hI416.1 kx_184 rfl) ?_
  obtain ⟨v427, hv427⟩ : ∃ v, gI g0 1 12 = v := ⟨_, rfl⟩
  have rv427 := RgF.at hI0.2.1 (p := 1) (b := 12) rfl
  rw [hv427] at rv427
  dsimp only at rv427
  refine q_getI (Sh.int hI416.1 kx_1 rfl) v427 ((hF417.1 1 12 (by decide)).trans hv427) ?_
  have bv429 := q_bnd x414
  have bv430 := q_bnd v427
  refine r_ics 13 rfl (fun c428 => ?_) (fun c428 => ?_)
  · have c428_ : x414.toInt ≥ v427.toInt := en_i_ge_t c428
    refine At.enter rfl ?_
    refine r_iconst 1 rfl ?_
    refine r_iretz (by decide) ?_
    exact ⟨_, rfl, hI416, hF417, _, rfl, by decide⟩
  · have c428_ : x414.toInt < v427.toInt := en_i_ge_f c428
    refine At.enter rfl ?_
    refine r_iload_n e423 ?_
    refine r_bipush 8 rfl ?_
    refine r_ics 19 rfl (fun c431 => ?_) (fun c431 => ?_)
    · have c431_ : x414.toInt ≥ 8 := en_i_ge_t c431
      exfalso; omega
    · have c431_ : x414.toInt < 8 := en_i_ge_f c431
      refine At.enter rfl ?_
      refine r_aload_n e421 ?_
      refine r_iload_n e422 ?_
      refine r_aload_n e421 ?_
      refine q_getR (Sh.ref hI416.1 kx_184 rfl) ?_
      refine q_getR (Sh.ref hI416.1 kx_1 rfl) ?_
      refine r_iload_n e423 ?_
      obtain ⟨v432, hv432⟩ : ∃ v, eA g0 15 x414.toInt = v := ⟨_, rfl⟩
      refine q_iald (Sh.arr hI416.1 ka_15) x414.toInt rfl (by omega) v432 ((eA_c (hF417.2.1 15 (by decide))).trans hv432) ?_
      refine r_callV 33 rfl [.ref 184, .int a1, .int v432] [] (Nat.le_of_ble_eq_true rfl) rfl (T_X9_standAfter_184 _ hI416 a1 v432) ?_
      rintro _ _ ⟨g433, rfl, hI434, hF435, v436, rfl, hr437⟩
      refine At.sti ?_
      have hF438 := Fr.tr hF417 hF435 rfl rfl
      refine At.enter rfl ?_
      refine r_aload_n e421 ?_
      refine q_getR (Sh.ref hI434.1 kx_184 rfl) ?_
      refine q_getR (Sh.ref hI434.1 kx_1 rfl) ?_
      refine r_iload_n e423 ?_
      obtain ⟨v439, hv439⟩ : ∃ v, eA g0 14 x414.toInt = v := ⟨_, rfl⟩
      refine q_iald (Sh.arr hI434.1 ka_14) x414.toInt rfl (by omega) v439 ((eA_c ((hF435.2.1 14 ma_X9_standAfter_184_14).trans (hF417.2.1 14 (by decide)))).trans hv439) ?_
      refine r_ics 45 rfl (fun c440 => ?_) (fun c440 => ?_)
      · have c440_ : v436.toInt = v439.toInt := en_i_eq_t c440
        refine At.enter rfl ?_
        refine q_iinc e423 (x414.toInt + 1) rfl (by omega) (fun v441 hv441 => ?_)
        refine r_goto ?_
        exact ih420 (8 - v441.toInt) _ _ ⟨v441, by first | rfl | omega, hI434, hF438, (w_p1 (by decide) (Or.inr rfl) e421), (w_p1 (by decide) (Or.inr rfl) e422), (w_e1 _ _ _), by omega⟩ ⟨by omega, by omega⟩
      · have c440_ : v436.toInt ≠ v439.toInt := en_i_eq_f c440
        refine At.enter rfl ?_
        refine r_iconst 0 rfl ?_
        refine r_iretz (by decide) ?_
        exact ⟨_, rfl, hI434, hF438, _, rfl, by decide⟩

def F_X9_suspects_184 : List (Nat × Nat) := []
def A_X9_suspects_184 : List Nat := []
set_option maxRecDepth 100000 in
set_option maxHeartbeats 4000000 in
theorem T_X9_suspects_184 (d : Nat) {N : Nat} {g0 : List en_E} (hI0 : HI g0) : Ev (d + 5) 98 [.ref 184] (g0, N) (fun w h' => ∃ g', h' = (g', N) ∧ HI g' ∧ Fr F_X9_suspects_184 A_X9_suspects_184 g0 g' ∧ ∃ r : Int32, w = some (.int r) ∧ True) := by
  have hF0 : Fr F_X9_suspects_184 A_X9_suspects_184 g0 g0 := Fr.rf
  refine Ev.mk rfl rfl ⟨Nat.le_of_ble_eq_true rfl, Or.inr (q_rc hI0.1 kx_184 rfl)⟩ ?_
  show At _ none _ _ (0, [(0, .ref 184)], [], (_, _)) _
  refine At.enter rfl ?_
  refine r_iconst 0 rfl ?_
  refine r_istore_n ([(1, .int 0), (0, .ref 184)]) rfl ?_
  refine r_iconst 0 rfl ?_
  refine r_istore_n ([(2, .int 0), (1, .int 0), (0, .ref 184)]) rfl ?_
  refine Ar.fall 4 rfl ?_
  have z_559 : (0 : Int32).toInt = 0 := rfl
  have z_560 : (0 : Int32).toInt = 0 := rfl
  refine w_loopI (fun n_ l_ g_ => ∃ x547 : Int32, ∃ x548 : Int32, n_ = 12 - x548.toInt ∧ HI g_ ∧ Fr F_X9_suspects_184 A_X9_suspects_184 g0 g_ ∧ en_get 0 l_ = some (.ref 184) ∧ en_get 1 l_ = some (.int x547) ∧ en_get 2 l_ = some (.int x548) ∧ (0 ≤ x548.toInt ∧ x548.toInt ≤ 12)) ?_ (12 - 0) ⟨0, 0, by first | rfl | omega, hI0, hF0, rfl, rfl, rfl, by decide⟩
  rintro n553 l552 g549 ⟨x547, x548, hm561, hI550, hF551, e555, e556, e557, r558⟩ ih554
  refine At.enter rfl ?_
  refine r_iload_n e557 ?_
  refine r_aload_n e555 ?_
  refine q_getR (Sh.ref hI550.1 kx_184 rfl) ?_
  obtain ⟨v562, hv562⟩ : ∃ v, gI g0 1 0 = v := ⟨_, rfl⟩
  have rv562 := RgF.at hI0.2.1 (p := 1) (b := 0) rfl
  rw [hv562] at rv562
  dsimp only at rv562
  refine q_getI (Sh.int hI550.1 kx_1 rfl) v562 ((hF551.1 1 0 (by decide)).trans hv562) ?_
  have bv564 := q_bnd x548
  have bv565 := q_bnd v562
  refine r_ics 15 rfl (fun c563 => ?_) (fun c563 => ?_)
  · have c563_ : x548.toInt ≥ v562.toInt := en_i_ge_t c563
    refine At.enter rfl ?_
    refine r_iload_n e556 ?_
    refine r_ireti ?_
    exact ⟨_, rfl, hI550, hF551, _, rfl, trivial⟩
  · have c563_ : x548.toInt < v562.toInt := en_i_ge_f c563
    refine At.enter rfl ?_
    refine r_aload_n e555 ?_
    refine r_iload_n e557 ?_
    refine r_callV 20 rfl [.ref 184, .int x548] [] (Nat.le_of_ble_eq_true rfl) rfl (T_X9_fitsSigns_184 _ hI550 x548) ?_
    rintro _ _ ⟨g566, rfl, hI567, hF568, v569, rfl, hr570⟩
    refine At.sti ?_
    have hF571 := Fr.tr hF551 hF568 rfl rfl
    refine At.enter rfl ?_
    refine r_ifs 23 rfl (fun c572 => ?_) (fun c572 => ?_)
    · have c572_ : v569.toInt = 0 := en_k_eq_t c572
      refine At.enter rfl ?_
      refine q_iinc e557 (x548.toInt + 1) rfl (by omega) (fun v573 hv573 => ?_)
      refine r_goto ?_
      have bv574 := q_bnd x547
      exact ih554 (12 - v573.toInt) _ _ ⟨x547, v573, by first | rfl | omega, hI567, hF571, (w_p1 (by decide) (Or.inr rfl) e555), (w_p1 (by decide) (Or.inr rfl) e556), (w_e1 _ _ _), by omega⟩ ⟨by omega, by omega⟩
    · have c572_ : v569.toInt ≠ 0 := en_k_eq_f c572
      refine At.enter rfl ?_
      refine r_iload_n e556 ?_
      refine r_iconst 1 rfl ?_
      refine r_iload_n e557 ?_
      refine q_ishlO (fun v575 hv575 => ?_)
      refine q_iorO (fun v576 hv576 => ?_)
      refine r_istore_n _ rfl ?_
      refine Ar.fall 29 rfl ?_
      refine At.enter rfl ?_
      refine q_iinc (w_p1 (by decide) (Or.inr rfl) e557) (x548.toInt + 1) rfl (by omega) (fun v577 hv577 => ?_)
      refine r_goto ?_
      have bv578 := q_bnd v576
      exact ih554 (12 - v577.toInt) _ _ ⟨v576, v577, by first | rfl | omega, hI567, hF571, (w_p1 (by decide) (Or.inr rfl) (w_p1 (by decide) (Or.inr rfl) e555)), (w_p1 (by decide) (Or.inr rfl) (w_e1 _ _ _)), (w_e1 _ _ _), by omega⟩ ⟨by omega, by omega⟩

def F_X9_meeting_184 : List (Nat × Nat) := []
def A_X9_meeting_184 : List Nat := []
set_option maxRecDepth 100000 in
set_option maxHeartbeats 4000000 in
theorem T_X9_meeting_184 (d : Nat) {N : Nat} {g0 : List en_E} (hI0 : HI g0) (a1 : Int32) (a2 : Int32) (a3 : Int32) : Ev (d + 3) 100 [.ref 184, .int a1, .int a2, .int a3] (g0, N) (fun w h' => ∃ g', h' = (g', N) ∧ HI g' ∧ Fr F_X9_meeting_184 A_X9_meeting_184 g0 g' ∧ ∃ r : Int32, w = some (.int r) ∧ True) := by
  have hF0 : Fr F_X9_meeting_184 A_X9_meeting_184 g0 g0 := Fr.rf
  refine Ev.mk rfl rfl ⟨Nat.le_of_ble_eq_true rfl, Or.inr (q_rc hI0.1 kx_184 rfl)⟩ ?_
  show At _ none _ _ (0, [(0, .ref 184), (1, .int a1), (2, .int a2), (3, .int a3)], [], (_, _)) _
  refine At.enter rfl ?_
  refine r_iload_n rfl ?_
  refine r_istore ([(4, .int a1), (0, .ref 184), (1, .int a1), (2, .int a2), (3, .int a3)]) rfl ?_
  refine r_iload_n rfl ?_
  refine r_istore ([(5, .int a2), (4, .int a1), (0, .ref 184), (1, .int a1), (2, .int a2), (3, .int a3)]) rfl ?_
  refine r_iconst 0 rfl ?_
  refine r_istore ([(6, .int 0), (5, .int a2), (4, .int a1), (0, .ref 184), (1, .int a1), (2, .int a2), (3, .int a3)]) rfl ?_
  refine Ar.fall 9 rfl ?_
  have z_1148 : (0 : Int32).toInt = 0 := rfl
  refine w_loopI (fun n_ l_ g_ => ∃ x1131 : Int32, ∃ x1132 : Int32, ∃ x1133 : Int32, n_ = 145 - x1133.toInt ∧ HI g_ ∧ Fr F_X9_meeting_184 A_X9_meeting_184 g0 g_ ∧ en_get 0 l_ = some (.ref 184) ∧ en_get 1 l_ = some (.int a1) ∧ en_get 2 l_ = some (.int a2) ∧ en_get 3 l_ = some (.int a3) ∧ en_get 4 l_ = some (.int x1131) ∧ en_get 5 l_ = some (.int x1132) ∧ en_get 6 l_ = some (.int x1133) ∧ (0 ≤ x1133.toInt ∧ x1133.toInt ≤ 145)) ?_ (145 - 0) ⟨a1, a2, 0, by first | rfl | omega, hI0, hF0, rfl, rfl, rfl, rfl, rfl, rfl, rfl, by decide⟩
  rintro n1138 l1137 g1134 ⟨x1131, x1132, x1133, hm1149, hI1135, hF1136, e1140, e1141, e1142, e1143, e1144, e1145, e1146, r1147⟩ ih1139
  refine At.enter rfl ?_
  refine r_iload e1146 ?_
  refine r_sipush 144 rfl ?_
  refine r_ics 17 rfl (fun c1150 => ?_) (fun c1150 => ?_)
  · have c1150_ : x1133.toInt > 144 := en_i_gt_t c1150
    refine At.enter rfl ?_
    refine r_iconst (-1) rfl ?_
    refine r_ireti ?_
    exact ⟨_, rfl, hI1135, hF1136, _, rfl, trivial⟩
  · have c1150_ : x1133.toInt ≤ 144 := en_i_gt_f c1150
    refine At.enter rfl ?_
    refine r_iload e1144 ?_
    refine r_iconst (-1) rfl ?_
    refine r_ics 23 rfl (fun c1151 => ?_) (fun c1151 => ?_)
    · have c1151_ : x1131.toInt = (-1) := en_i_eq_t c1151
      refine At.enter rfl ?_
      refine r_iconst (-1) rfl ?_
      refine r_ireti ?_
      exact ⟨_, rfl, hI1135, hF1136, _, rfl, trivial⟩
    · have c1151_ : x1131.toInt ≠ (-1) := en_i_eq_f c1151
      refine At.enter rfl ?_
      refine r_iload e1145 ?_
      refine r_iconst (-1) rfl ?_
      refine r_ics 29 rfl (fun c1152 => ?_) (fun c1152 => ?_)
      · have c1152_ : x1132.toInt = (-1) := en_i_eq_t c1152
        refine At.enter rfl ?_
        refine r_iconst (-1) rfl ?_
        refine r_ireti ?_
        exact ⟨_, rfl, hI1135, hF1136, _, rfl, trivial⟩
      · have c1152_ : x1132.toInt ≠ (-1) := en_i_eq_f c1152
        refine At.enter rfl ?_
        refine r_iload e1144 ?_
        refine r_iload e1145 ?_
        refine r_ics 36 rfl (fun c1153 => ?_) (fun c1153 => ?_)
        · have c1153_ : x1131.toInt ≠ x1132.toInt := en_i_ne_t c1153
          refine At.enter rfl ?_
          refine r_aload_n e1140 ?_
          refine q_getR (Sh.ref hI1135.1 kx_184 rfl) ?_
          refine r_iload e1144 ?_
          refine r_callV 57 rfl [.ref 1, .int x1131] [] (Nat.le_of_ble_eq_true rfl) rfl (T_X0_next_1 _ hI1135 x1131) ?_
          rintro _ _ ⟨g1154, rfl, hI1155, hF1156, v1157, rfl, hr1158⟩
          refine At.sti ?_
          have hF1159 := Fr.tr hF1136 hF1156 rfl rfl
          refine At.enter rfl ?_
          refine r_istore _ rfl ?_
          refine r_aload_n (w_p1 (by decide) (Or.inr rfl) e1140) ?_
          refine q_getR (Sh.ref hI1155.1 kx_184 rfl) ?_
          refine r_iload (w_p1 (by decide) (Or.inr rfl) e1145) ?_
          refine r_callV 68 rfl [.ref 1, .int x1132] [] (Nat.le_of_ble_eq_true rfl) rfl (T_X0_next_1 _ hI1155 x1132) ?_
          rintro _ _ ⟨g1160, rfl, hI1161, hF1162, v1163, rfl, hr1164⟩
          refine At.sti ?_
          have hF1165 := Fr.tr hF1159 hF1162 rfl rfl
          refine At.enter rfl ?_
          refine r_istore _ rfl ?_
          refine q_iinc (w_p1 (by decide) (Or.inr rfl) (w_p1 (by decide) (Or.inr rfl) e1146)) (x1133.toInt + 1) rfl (by omega) (fun v1166 hv1166 => ?_)
          refine r_goto ?_
          have bv1167 := q_bnd v1157
          have bv1168 := q_bnd v1163
          exact ih1139 (145 - v1166.toInt) _ _ ⟨v1157, v1163, v1166, by first | rfl | omega, hI1161, hF1165, (w_p1 (by decide) (Or.inr rfl) (w_p1 (by decide) (Or.inr rfl) (w_p1 (by decide) (Or.inr rfl) e1140))), (w_p1 (by decide) (Or.inr rfl) (w_p1 (by decide) (Or.inr rfl) (w_p1 (by decide) (Or.inr rfl) e1141))), (w_p1 (by decide) (Or.inr rfl) (w_p1 (by decide) (Or.inr rfl) (w_p1 (by decide) (Or.inr rfl) e1142))), (w_p1 (by decide) (Or.inr rfl) (w_p1 (by decide) (Or.inr rfl) (w_p1 (by decide) (Or.inr rfl) e1143))), (w_p1 (by decide) (Or.inr rfl) (w_p1 (by decide) (Or.inr rfl) (w_e1 _ _ _))), (w_p1 (by decide) (Or.inr rfl) (w_e1 _ _ _)), (w_e1 _ _ _), by omega⟩ ⟨by omega, by omega⟩
        · have c1153_ : x1131.toInt = x1132.toInt := en_i_ne_f c1153
          refine At.enter rfl ?_
          refine r_iload_n e1143 ?_
          refine r_ifs 40 rfl (fun c1169 => ?_) (fun c1169 => ?_)
          · have c1169_ : a3.toInt ≠ 0 := en_k_ne_t c1169
            refine At.enter rfl ?_
            refine r_iload e1144 ?_
            refine Ar.fall 47 rfl ?_
            refine At.enter rfl ?_
            refine r_ireti ?_
            exact ⟨_, rfl, hI1135, hF1136, _, rfl, trivial⟩
          · have c1169_ : a3.toInt = 0 := en_k_ne_f c1169
            refine At.enter rfl ?_
            refine r_iload e1146 ?_
            refine r_goto ?_
            refine At.enter rfl ?_
            refine r_ireti ?_
            exact ⟨_, rfl, hI1135, hF1136, _, rfl, trivial⟩

def F_X9_minutesInPieces_184 : List (Nat × Nat) := []
def A_X9_minutesInPieces_184 : List Nat := []
set_option maxRecDepth 100000 in
set_option maxHeartbeats 4000000 in
theorem T_X9_minutesInPieces_184 (d : Nat) {N : Nat} {g0 : List en_E} (hI0 : HI g0) (a1 : Int32) : Ev (d + 4) 101 [.ref 184, .int a1] (g0, N) (fun w h' => ∃ g', h' = (g', N) ∧ HI g' ∧ Fr F_X9_minutesInPieces_184 A_X9_minutesInPieces_184 g0 g' ∧ ∃ r : Int32, w = some (.int r) ∧ True) := by
  have hF0 : Fr F_X9_minutesInPieces_184 A_X9_minutesInPieces_184 g0 g0 := Fr.rf
  refine Ev.mk rfl rfl ⟨Nat.le_of_ble_eq_true rfl, Or.inr (q_rc hI0.1 kx_184 rfl)⟩ ?_
  show At _ none _ _ (0, [(0, .ref 184), (1, .int a1)], [], (_, _)) _
  refine At.enter rfl ?_
  refine r_aload_n rfl ?_
  refine q_getR (Sh.ref hI0.1 kx_184 rfl) ?_
  refine r_iload_n rfl ?_
  refine r_callV 8 rfl [.ref 1, .int a1] [] (Nat.le_of_ble_eq_true rfl) rfl (T_X0_handsOf_1 _ hI0 a1) ?_
  rintro _ _ ⟨g1113, rfl, hI1114, hF1115, v1116, rfl, hr1117⟩
  refine At.sti ?_
  have hF1118 := Fr.tr hF0 hF1115 rfl rfl
  refine At.enter rfl ?_
  refine r_istore_n ([(2, .int v1116), (0, .ref 184), (1, .int a1)]) rfl ?_
  refine r_aload_n rfl ?_
  refine q_getR (Sh.ref hI1114.1 kx_184 rfl) ?_
  refine r_iload_n rfl ?_
  refine r_iconst 1 rfl ?_
  refine r_callV 18 rfl [.ref 1, .int a1, .int 1] [] (Nat.le_of_ble_eq_true rfl) rfl (T_X0_about_1 _ hI1114 a1 1) ?_
  rintro _ _ ⟨g1119, rfl, hI1120, hF1121, v1122, rfl, hr1123⟩
  refine At.sti ?_
  have hF1124 := Fr.tr hF1118 hF1121 rfl rfl
  refine At.enter rfl ?_
  refine r_istore_n ([(3, .int v1122), (2, .int v1116), (0, .ref 184), (1, .int a1)]) rfl ?_
  refine r_bipush 9 rfl ?_
  refine r_istore ([(4, .int 9), (3, .int v1122), (2, .int v1116), (0, .ref 184), (1, .int a1)]) rfl ?_
  refine r_iconst 0 rfl ?_
  refine r_istore ([(5, .int 0), (4, .int 9), (3, .int v1122), (2, .int v1116), (0, .ref 184), (1, .int a1)]) rfl ?_
  refine Ar.fall 26 rfl ?_
  have z_1610 : (9 : Int32).toInt = 9 := rfl
  have z_1611 : (0 : Int32).toInt = 0 := rfl
  refine w_loopI (fun n_ l_ g_ => ∃ x1593 : Int32, ∃ x1594 : Int32, ∃ x1595 : Int32, n_ = 11 - x1595.toInt ∧ HI g_ ∧ Fr F_X9_minutesInPieces_184 A_X9_minutesInPieces_184 g0 g_ ∧ en_get 0 l_ = some (.ref 184) ∧ en_get 1 l_ = some (.int a1) ∧ en_get 2 l_ = some (.int v1116) ∧ en_get 3 l_ = some (.int x1593) ∧ en_get 4 l_ = some (.int x1594) ∧ en_get 5 l_ = some (.int x1595) ∧ x1594.toInt ≤ 9 ∧ (0 ≤ x1595.toInt ∧ x1595.toInt ≤ 11)) ?_ (11 - 0) ⟨v1122, 9, 0, by first | rfl | omega, hI1120, hF1124, rfl, rfl, rfl, rfl, rfl, rfl, by decide, by decide⟩
  rintro n1600 l1599 g1596 ⟨x1593, x1594, x1595, hm1612, hI1597, hF1598, e1602, e1603, e1604, e1605, e1606, e1607, r1608, r1609⟩ ih1601
  refine At.enter rfl ?_
  refine r_iload e1607 ?_
  refine r_iload_n e1604 ?_
  have bv1614 := q_bnd x1595
  have bv1615 := q_bnd v1116
  refine r_ics 32 rfl (fun c1613 => ?_) (fun c1613 => ?_)
  · have c1613_ : x1595.toInt ≥ v1116.toInt := en_i_ge_t c1613
    refine At.enter rfl ?_
    refine r_iload_n e1604 ?_
    refine r_ifs 78 rfl (fun c1616 => ?_) (fun c1616 => ?_)
    · have c1616_ : v1116.toInt ≤ 0 := en_k_le_t c1616
      refine At.enter rfl ?_
      refine r_iload_n e1604 ?_
      refine r_ireti ?_
      exact ⟨_, rfl, hI1597, hF1598, _, rfl, trivial⟩
    · have c1616_ : v1116.toInt > 0 := en_k_le_f c1616
      refine At.enter rfl ?_
      refine r_iload e1606 ?_
      refine r_iconst 1 rfl ?_
      refine r_ics 84 rfl (fun c1617 => ?_) (fun c1617 => ?_)
      · have c1617_ : x1594.toInt ≥ 1 := en_i_ge_t c1617
        refine At.enter rfl ?_
        refine r_iload_n e1604 ?_
        refine r_aload_n e1602 ?_
        refine q_getR (Sh.ref hI1597.1 kx_184 rfl) ?_
        refine r_iload_n e1603 ?_
        refine r_iconst 0 rfl ?_
        refine r_callV 96 rfl [.ref 1, .int a1, .int 0] [.int v1116] (Nat.le_of_ble_eq_true rfl) rfl (T_X0_about_1 _ hI1597 a1 0) ?_
        rintro _ _ ⟨g1618, rfl, hI1619, hF1620, v1621, rfl, hr1622⟩
        refine At.sti ?_
        have hF1623 := Fr.tr hF1598 hF1620 rfl rfl
        refine At.enter rfl ?_
        refine r_iload e1606 ?_
        refine q_iaddO (fun v1624 _ => ?_)
        refine r_iconst 1 rfl ?_
        refine q_isubO (fun v1625 _ => ?_)
        refine r_iload e1606 ?_
        refine q_idivO (by omega) (fun v1626 _ => ?_)
        refine q_iaddO (fun v1627 _ => ?_)
        refine r_iconst 1 rfl ?_
        refine q_isubO (fun v1628 _ => ?_)
        refine r_ireti ?_
        exact ⟨_, rfl, hI1619, hF1623, _, rfl, trivial⟩
      · have c1617_ : x1594.toInt < 1 := en_i_ge_f c1617
        refine At.enter rfl ?_
        refine r_iload_n e1604 ?_
        refine r_ireti ?_
        exact ⟨_, rfl, hI1597, hF1598, _, rfl, trivial⟩
  · have c1613_ : x1595.toInt < v1116.toInt := en_i_ge_f c1613
    refine At.enter rfl ?_
    refine r_aload_n e1602 ?_
    refine q_getR (Sh.ref hI1597.1 kx_184 rfl) ?_
    refine r_iload_n e1605 ?_
    refine q_inlV 40 rfl [.ref 1, .int x1593] [] (Nat.le_of_ble_eq_true rfl) rfl ?_
    refine Ev.mk rfl rfl ⟨Nat.le_of_ble_eq_true rfl, Or.inr (q_rc hI1597.1 kx_1 rfl)⟩ ?_
    show At _ none _ _ (0, [(0, .ref 1), (1, .int x1593)], [], (_, _)) _
    refine At.enter rfl ?_
    refine r_iload_n rfl ?_
    refine r_ifs 4 rfl (fun c1629 => ?_) (fun c1629 => ?_)
    · have c1629_ : x1593.toInt < 0 := en_k_lt_t c1629
      refine At.enter rfl ?_
      refine r_iconst 0 rfl ?_
      refine Ar.fall 17 rfl ?_
      refine At.enter rfl ?_
      refine q_iretz (by decide) ?_
      refine At.enter rfl ?_
      refine r_ift (by decide) ?_
      refine At.enter rfl ?_
      refine r_iload_n e1604 ?_
      refine r_ifs 78 rfl (fun c1630 => ?_) (fun c1630 => ?_)
      · have c1630_ : v1116.toInt ≤ 0 := en_k_le_t c1630
        exfalso; omega
      · have c1630_ : v1116.toInt > 0 := en_k_le_f c1630
        refine At.enter rfl ?_
        refine r_iload e1606 ?_
        refine r_iconst 1 rfl ?_
        refine r_ics 84 rfl (fun c1631 => ?_) (fun c1631 => ?_)
        · have c1631_ : x1594.toInt ≥ 1 := en_i_ge_t c1631
          refine At.enter rfl ?_
          refine r_iload_n e1604 ?_
          refine r_aload_n e1602 ?_
          refine q_getR (Sh.ref hI1597.1 kx_184 rfl) ?_
          refine r_iload_n e1603 ?_
          refine r_iconst 0 rfl ?_
          refine r_callV 96 rfl [.ref 1, .int a1, .int 0] [.int v1116] (Nat.le_of_ble_eq_true rfl) rfl (T_X0_about_1 _ hI1597 a1 0) ?_
          rintro _ _ ⟨g1632, rfl, hI1633, hF1634, v1635, rfl, hr1636⟩
          refine At.sti ?_
          have hF1637 := Fr.tr hF1598 hF1634 rfl rfl
          refine At.enter rfl ?_
          refine r_iload e1606 ?_
          refine q_iaddO (fun v1638 _ => ?_)
          refine r_iconst 1 rfl ?_
          refine q_isubO (fun v1639 _ => ?_)
          refine r_iload e1606 ?_
          refine q_idivO (by omega) (fun v1640 _ => ?_)
          refine q_iaddO (fun v1641 _ => ?_)
          refine r_iconst 1 rfl ?_
          refine q_isubO (fun v1642 _ => ?_)
          refine r_ireti ?_
          exact ⟨_, rfl, hI1633, hF1637, _, rfl, trivial⟩
        · have c1631_ : x1594.toInt < 1 := en_i_ge_f c1631
          refine At.enter rfl ?_
          refine r_iload_n e1604 ?_
          refine r_ireti ?_
          exact ⟨_, rfl, hI1597, hF1598, _, rfl, trivial⟩
    · have c1629_ : x1593.toInt ≥ 0 := en_k_lt_f c1629
      refine At.enter rfl ?_
      refine r_iload_n rfl ?_
      refine r_aload_n rfl ?_
      obtain ⟨v1643, hv1643⟩ : ∃ v, gI g0 1 0 = v := ⟨_, rfl⟩
      have rv1643 := RgF.at hI0.2.1 (p := 1) (b := 0) rfl
      rw [hv1643] at rv1643
      dsimp only at rv1643
      refine q_getI (Sh.int hI1597.1 kx_1 rfl) v1643 ((hF1598.1 1 0 (by decide)).trans hv1643) ?_
      have bv1645 := q_bnd x1593
      have bv1646 := q_bnd v1643
      refine r_ics 12 rfl (fun c1644 => ?_) (fun c1644 => ?_)
      · have c1644_ : x1593.toInt ≥ v1643.toInt := en_i_ge_t c1644
        refine At.enter rfl ?_
        refine r_iconst 0 rfl ?_
        refine Ar.fall 17 rfl ?_
        refine At.enter rfl ?_
        refine q_iretz (by decide) ?_
        refine At.enter rfl ?_
        refine r_ift (by decide) ?_
        refine At.enter rfl ?_
        refine r_iload_n e1604 ?_
        refine r_ifs 78 rfl (fun c1647 => ?_) (fun c1647 => ?_)
        · have c1647_ : v1116.toInt ≤ 0 := en_k_le_t c1647
          exfalso; omega
        · have c1647_ : v1116.toInt > 0 := en_k_le_f c1647
          refine At.enter rfl ?_
          refine r_iload e1606 ?_
          refine r_iconst 1 rfl ?_
          refine r_ics 84 rfl (fun c1648 => ?_) (fun c1648 => ?_)
          · have c1648_ : x1594.toInt ≥ 1 := en_i_ge_t c1648
            refine At.enter rfl ?_
            refine r_iload_n e1604 ?_
            refine r_aload_n e1602 ?_
            refine q_getR (Sh.ref hI1597.1 kx_184 rfl) ?_
            refine r_iload_n e1603 ?_
            refine r_iconst 0 rfl ?_
            refine r_callV 96 rfl [.ref 1, .int a1, .int 0] [.int v1116] (Nat.le_of_ble_eq_true rfl) rfl (T_X0_about_1 _ hI1597 a1 0) ?_
            rintro _ _ ⟨g1649, rfl, hI1650, hF1651, v1652, rfl, hr1653⟩
            refine At.sti ?_
            have hF1654 := Fr.tr hF1598 hF1651 rfl rfl
            refine At.enter rfl ?_
            refine r_iload e1606 ?_
            refine q_iaddO (fun v1655 _ => ?_)
            refine r_iconst 1 rfl ?_
            refine q_isubO (fun v1656 _ => ?_)
            refine r_iload e1606 ?_
            refine q_idivO (by omega) (fun v1657 _ => ?_)
            refine q_iaddO (fun v1658 _ => ?_)
            refine r_iconst 1 rfl ?_
            refine q_isubO (fun v1659 _ => ?_)
            refine r_ireti ?_
            exact ⟨_, rfl, hI1650, hF1654, _, rfl, trivial⟩
          · have c1648_ : x1594.toInt < 1 := en_i_ge_f c1648
            refine At.enter rfl ?_
            refine r_iload_n e1604 ?_
            refine r_ireti ?_
            exact ⟨_, rfl, hI1597, hF1598, _, rfl, trivial⟩
      · have c1644_ : x1593.toInt < v1643.toInt := en_i_ge_f c1644
        refine At.enter rfl ?_
        refine r_iconst 1 rfl ?_
        refine r_goto ?_
        refine At.enter rfl ?_
        refine q_iretz (by decide) ?_
        refine At.enter rfl ?_
        refine r_iff 43 rfl (by decide) ?_
        refine At.enter rfl ?_
        refine r_iload e1606 ?_
        refine r_aload_n e1602 ?_
        refine q_getR (Sh.ref hI1597.1 kx_184 rfl) ?_
        refine q_getR (Sh.ref hI1597.1 kx_1 rfl) ?_
        refine r_iload_n e1605 ?_
        obtain ⟨v1660, hv1660⟩ : ∃ v, eA g0 3 x1593.toInt = v := ⟨_, rfl⟩
        refine q_iald (Sh.arr hI1597.1 ka_3) x1593.toInt rfl (by omega) v1660 ((eA_c (hF1598.2.1 3 (by decide))).trans hv1660) ?_
        refine q_mmin rfl (Nat.le_of_ble_eq_true rfl) (fun v1661 hv1661 => ?_)
        refine r_istore _ rfl ?_
        refine r_aload_n (w_p1 (by decide) (Or.inr rfl) e1602) ?_
        refine q_getR (Sh.ref hI1597.1 kx_184 rfl) ?_
        refine r_iload_n (w_p1 (by decide) (Or.inr rfl) e1605) ?_
        refine r_callV 67 rfl [.ref 1, .int x1593] [] (Nat.le_of_ble_eq_true rfl) rfl (T_X0_next_1 _ hI1597 x1593) ?_
        rintro _ _ ⟨g1662, rfl, hI1663, hF1664, v1665, rfl, hr1666⟩
        refine At.sti ?_
        have hF1667 := Fr.tr hF1598 hF1664 rfl rfl
        refine At.enter rfl ?_
        refine r_istore_n _ rfl ?_
        refine q_iinc (w_p1 (by decide) (Or.inr rfl) (w_p1 (by decide) (Or.inr rfl) e1607)) (x1595.toInt + 1) rfl (by omega) (fun v1668 hv1668 => ?_)
        refine r_goto ?_
        have bv1669 := q_bnd v1665
        have bv1670 := q_bnd v1661
        exact ih1601 (11 - v1668.toInt) _ _ ⟨v1665, v1661, v1668, by first | rfl | omega, hI1663, hF1667, (w_p1 (by decide) (Or.inr rfl) (w_p1 (by decide) (Or.inr rfl) (w_p1 (by decide) (Or.inr rfl) e1602))), (w_p1 (by decide) (Or.inr rfl) (w_p1 (by decide) (Or.inr rfl) (w_p1 (by decide) (Or.inr rfl) e1603))), (w_p1 (by decide) (Or.inr rfl) (w_p1 (by decide) (Or.inr rfl) (w_p1 (by decide) (Or.inr rfl) e1604))), (w_p1 (by decide) (Or.inr rfl) (w_e1 _ _ _)), (w_p1 (by decide) (Or.inr rfl) (w_p1 (by decide) (Or.inr rfl) (w_e1 _ _ _))), (w_e1 _ _ _), by omega, by omega⟩ ⟨by omega, by omega⟩
