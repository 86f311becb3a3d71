def F_X1_comeByNoon_188 : List (Nat × Nat) := []
def A_X1_comeByNoon_188 : List Nat := []
set_option maxRecDepth 100000 in
set_option maxHeartbeats 4000000 in
theorem T_X1_comeByNoon_188 (d : Nat) {N : Nat} {g0 : List en_E} (hI0 : HI g0) : Ev (d + 1) 32 [.ref 188] (g0, N) (fun w h' => ∃ g', h' = (g', N) ∧ HI g' ∧ Fr F_X1_comeByNoon_188 A_X1_comeByNoon_188 g0 g' ∧ ∃ r : Int32, w = some (.int r) ∧ True) := by
  have hF0 : Fr F_X1_comeByNoon_188 A_X1_comeByNoon_188 g0 g0 := Fr.rf
  refine Ev.mk rfl rfl ⟨Nat.le_of_ble_eq_true rfl, Or.inr (q_rc hI0.1 kx_188 rfl)⟩ ?_
  show At _ none _ _ (0, [(0, .ref 188)], [], (_, _)) _
  refine At.enter rfl ?_
  refine r_iconst 0 rfl ?_
  refine r_istore_n ([(1, .int 0), (0, .ref 188)]) rfl ?_
  refine r_iconst 0 rfl ?_
  refine r_istore_n ([(2, .int 0), (1, .int 0), (0, .ref 188)]) rfl ?_
  refine Ar.fall 4 rfl ?_
  have z_1193 : (0 : Int32).toInt = 0 := rfl
  have z_1194 : (0 : Int32).toInt = 0 := rfl
  refine w_loopI (fun n_ l_ g_ => ∃ x1181 : Int32, ∃ x1182 : Int32, n_ = 8 - x1182.toInt ∧ HI g_ ∧ Fr F_X1_comeByNoon_188 A_X1_comeByNoon_188 g0 g_ ∧ en_get 0 l_ = some (.ref 188) ∧ en_get 1 l_ = some (.int x1181) ∧ en_get 2 l_ = some (.int x1182) ∧ (0 ≤ x1182.toInt ∧ x1182.toInt ≤ 8)) ?_ (8 - 0) ⟨0, 0, by first | rfl | omega, hI0, hF0, rfl, rfl, rfl, by decide⟩
  rintro n1187 l1186 g1183 ⟨x1181, x1182, hm1195, hI1184, hF1185, e1189, e1190, e1191, r1192⟩ ih1188
  refine At.enter rfl ?_
  refine r_iload_n e1191 ?_
  refine r_aload_n e1189 ?_
  refine q_getR (Sh.ref hI1184.1 kx_188 rfl) ?_
  obtain ⟨v1196, hv1196⟩ : ∃ v, gI g0 1 4 = v := ⟨_, rfl⟩
  have rv1196 := RgF.at hI0.2.1 (p := 1) (b := 4) rfl
  rw [hv1196] at rv1196
  dsimp only at rv1196
  refine q_getI (Sh.int hI1184.1 kx_1 rfl) v1196 ((hF1185.1 1 4 (by decide)).trans hv1196) ?_
  have bv1198 := q_bnd x1182
  have bv1199 := q_bnd v1196
  refine r_ics 15 rfl (fun c1197 => ?_) (fun c1197 => ?_)
  · have c1197_ : x1182.toInt ≥ v1196.toInt := en_i_ge_t c1197
    refine At.enter rfl ?_
    refine r_iload_n e1190 ?_
    refine r_ireti ?_
    exact ⟨_, rfl, hI1184, hF1185, _, rfl, trivial⟩
  · have c1197_ : x1182.toInt < v1196.toInt := en_i_ge_f c1197
    refine At.enter rfl ?_
    refine r_aload_n e1189 ?_
    refine q_getR (Sh.ref hI1184.1 kx_188 rfl) ?_
    refine r_iload_n e1191 ?_
    obtain ⟨v1200, hv1200⟩ : ∃ v, eA g0 196 x1182.toInt = v := ⟨_, rfl⟩
    refine q_iald (Sh.arr hI1184.1 ka_196) x1182.toInt rfl (by omega) v1200 ((eA_c (hF1185.2.1 196 (by decide))).trans hv1200) ?_
    refine r_iconst (-1) rfl ?_
    refine r_ics 25 rfl (fun c1201 => ?_) (fun c1201 => ?_)
    · have c1201_ : v1200.toInt = (-1) := en_i_eq_t c1201
      refine At.enter rfl ?_
      refine q_iinc e1191 (x1182.toInt + 1) rfl (by omega) (fun v1202 hv1202 => ?_)
      refine r_goto ?_
      have bv1203 := q_bnd x1181
      exact ih1188 (8 - v1202.toInt) _ _ ⟨x1181, v1202, by first | rfl | omega, hI1184, hF1185, (w_p1 (by decide) (Or.inr rfl) e1189), (w_p1 (by decide) (Or.inr rfl) e1190), (w_e1 _ _ _), by omega⟩ ⟨by omega, by omega⟩
    · have c1201_ : v1200.toInt ≠ (-1) := en_i_eq_f c1201
      refine At.enter rfl ?_
      refine r_aload_n e1189 ?_
      refine q_getR (Sh.ref hI1184.1 kx_188 rfl) ?_
      refine r_iload_n e1191 ?_
      refine q_iald (Sh.arr hI1184.1 ka_196) x1182.toInt rfl (by omega) v1200 ((eA_c (hF1185.2.1 196 (by decide))).trans hv1200) ?_
      refine r_aload_n e1189 ?_
      refine q_getR (Sh.ref hI1184.1 kx_188 rfl) ?_
      obtain ⟨v1204, hv1204⟩ : ∃ v, gI g0 1 10 = v := ⟨_, rfl⟩
      refine q_getI (Sh.int hI1184.1 kx_1 rfl) v1204 ((hF1185.1 1 10 (by decide)).trans hv1204) ?_
      have bv1206 := q_bnd v1200
      have bv1207 := q_bnd v1204
      refine r_ics 41 rfl (fun c1205 => ?_) (fun c1205 => ?_)
      · have c1205_ : v1200.toInt > v1204.toInt := en_i_gt_t c1205
        refine At.enter rfl ?_
        refine q_iinc e1191 (x1182.toInt + 1) rfl (by omega) (fun v1208 hv1208 => ?_)
        refine r_goto ?_
        have bv1209 := q_bnd x1181
        exact ih1188 (8 - v1208.toInt) _ _ ⟨x1181, v1208, by first | rfl | omega, hI1184, hF1185, (w_p1 (by decide) (Or.inr rfl) e1189), (w_p1 (by decide) (Or.inr rfl) e1190), (w_e1 _ _ _), by omega⟩ ⟨by omega, by omega⟩
      · have c1205_ : v1200.toInt ≤ v1204.toInt := en_i_gt_f c1205
        refine At.enter rfl ?_
        refine q_iincO e1190 (fun v1210 _ => ?_)
        refine Ar.fall 44 rfl ?_
        refine At.enter rfl ?_
        refine q_iinc (w_p1 (by decide) (Or.inr rfl) e1191) (x1182.toInt + 1) rfl (by omega) (fun v1211 hv1211 => ?_)
        refine r_goto ?_
        have bv1212 := q_bnd v1210
        exact ih1188 (8 - v1211.toInt) _ _ ⟨v1210, v1211, by first | rfl | omega, hI1184, hF1185, (w_p1 (by decide) (Or.inr rfl) (w_p1 (by decide) (Or.inr rfl) e1189)), (w_p1 (by decide) (Or.inr rfl) (w_e1 _ _ _)), (w_e1 _ _ _), by omega⟩ ⟨by omega, by omega⟩

def F_X1_failures_188 : List (Nat × Nat) := []
def A_X1_failures_188 : List Nat := []
set_option maxRecDepth 100000 in
set_option maxHeartbeats 4000000 in
theorem T_X1_failures_188 (d : Nat) {N : Nat} {g0 : List en_E} (hI0 : HI g0) : Ev (d + 1) 33 [.ref 188] (g0, N) (fun w h' => ∃ g', h' = (g', N) ∧ HI g' ∧ Fr F_X1_failures_188 A_X1_failures_188 g0 g' ∧ ∃ r : Int32, w = some (.int r) ∧ True) := by
  have hF0 : Fr F_X1_failures_188 A_X1_failures_188 g0 g0 := Fr.rf
  refine Ev.mk rfl rfl ⟨Nat.le_of_ble_eq_true rfl, Or.inr (q_rc hI0.1 kx_188 rfl)⟩ ?_
  show At _ none _ _ (0, [(0, .ref 188)], [], (_, _)) _
  refine At.enter rfl ?_
  refine r_iconst 0 rfl ?_
  refine r_istore_n ([(1, .int 0), (0, .ref 188)]) rfl ?_
  refine r_iconst 0 rfl ?_
  refine r_istore_n ([(2, .int 0), (1, .int 0), (0, .ref 188)]) rfl ?_
  refine Ar.fall 4 rfl ?_
  have z_853 : (0 : Int32).toInt = 0 := rfl
  have z_854 : (0 : Int32).toInt = 0 := rfl
  refine w_loopI (fun n_ l_ g_ => ∃ x841 : Int32, ∃ x842 : Int32, n_ = 8 - x842.toInt ∧ HI g_ ∧ Fr F_X1_failures_188 A_X1_failures_188 g0 g_ ∧ en_get 0 l_ = some (.ref 188) ∧ en_get 1 l_ = some (.int x841) ∧ en_get 2 l_ = some (.int x842) ∧ (0 ≤ x842.toInt ∧ x842.toInt ≤ 8)) ?_ (8 - 0) ⟨0, 0, by first | rfl | omega, hI0, hF0, rfl, rfl, rfl, by decide⟩
  rintro n847 l846 g843 ⟨x841, x842, hm855, hI844, hF845, e849, e850, e851, r852⟩ ih848
  refine At.enter rfl ?_
  refine r_iload_n e851 ?_
  refine r_aload_n e849 ?_
  refine q_getR (Sh.ref hI844.1 kx_188 rfl) ?_
  obtain ⟨v856, hv856⟩ : ∃ v, gI g0 1 4 = v := ⟨_, rfl⟩
  have rv856 := RgF.at hI0.2.1 (p := 1) (b := 4) rfl
  rw [hv856] at rv856
  dsimp only at rv856
  refine q_getI (Sh.int hI844.1 kx_1 rfl) v856 ((hF845.1 1 4 (by decide)).trans hv856) ?_
  have bv858 := q_bnd x842
  have bv859 := q_bnd v856
  refine r_ics 15 rfl (fun c857 => ?_) (fun c857 => ?_)
  · have c857_ : x842.toInt ≥ v856.toInt := en_i_ge_t c857
    refine At.enter rfl ?_
    refine r_iload_n e850 ?_
    refine r_ireti ?_
    exact ⟨_, rfl, hI844, hF845, _, rfl, trivial⟩
  · have c857_ : x842.toInt < v856.toInt := en_i_ge_f c857
    refine At.enter rfl ?_
    refine r_aload_n e849 ?_
    refine q_getR (Sh.ref hI844.1 kx_188 rfl) ?_
    refine r_iload_n e851 ?_
    obtain ⟨v860, hv860⟩ : ∃ v, eA g0 196 x842.toInt = v := ⟨_, rfl⟩
    refine q_iald (Sh.arr hI844.1 ka_196) x842.toInt rfl (by omega) v860 ((eA_c (hF845.2.1 196 (by decide))).trans hv860) ?_
    refine r_iconst (-1) rfl ?_
    refine r_ics 25 rfl (fun c861 => ?_) (fun c861 => ?_)
    · have c861_ : v860.toInt ≠ (-1) := en_i_ne_t c861
      refine At.enter rfl ?_
      refine q_iinc e851 (x842.toInt + 1) rfl (by omega) (fun v862 hv862 => ?_)
      refine r_goto ?_
      have bv863 := q_bnd x841
      exact ih848 (8 - v862.toInt) _ _ ⟨x841, v862, by first | rfl | omega, hI844, hF845, (w_p1 (by decide) (Or.inr rfl) e849), (w_p1 (by decide) (Or.inr rfl) e850), (w_e1 _ _ _), by omega⟩ ⟨by omega, by omega⟩
    · have c861_ : v860.toInt = (-1) := en_i_ne_f c861
      refine At.enter rfl ?_
      refine q_iincO e850 (fun v864 _ => ?_)
      refine Ar.fall 28 rfl ?_
      refine At.enter rfl ?_
      refine q_iinc (w_p1 (by decide) (Or.inr rfl) e851) (x842.toInt + 1) rfl (by omega) (fun v865 hv865 => ?_)
      refine r_goto ?_
      have bv866 := q_bnd v864
      exact ih848 (8 - v865.toInt) _ _ ⟨v864, v865, by first | rfl | omega, hI844, hF845, (w_p1 (by decide) (Or.inr rfl) (w_p1 (by decide) (Or.inr rfl) e849)), (w_p1 (by decide) (Or.inr rfl) (w_e1 _ _ _)), (w_e1 _ _ _), by omega⟩ ⟨by omega, by omega⟩

def F_X1_handsToWant_204 : List (Nat × Nat) := []
def A_X1_handsToWant_204 : List Nat := []
set_option maxRecDepth 100000 in
set_option maxHeartbeats 4000000 in
theorem T_X1_handsToWant_204 (d : Nat) {N : Nat} {g0 : List en_E} (hI0 : HI g0) (a1 : Int32) : Ev (d + 2) 17 [.ref 204, .int a1] (g0, N) (fun w h' => ∃ g', h' = (g', N) ∧ HI g' ∧ Fr F_X1_handsToWant_204 A_X1_handsToWant_204 g0 g' ∧ ∃ r : Int32, w = some (.int r) ∧ ((-1) ≤ r.toInt ∧ r.toInt ≤ 11)) := by
  have hF0 : Fr F_X1_handsToWant_204 A_X1_handsToWant_204 g0 g0 := Fr.rf
  refine Ev.mk rfl rfl ⟨Nat.le_of_ble_eq_true rfl, Or.inr (q_rc hI0.1 kx_204 rfl)⟩ ?_
  show At _ none _ _ (0, [(0, .ref 204), (1, .int a1)], [], (_, _)) _
  refine At.enter rfl ?_
  refine r_aload_n rfl ?_
  refine q_getR (Sh.ref hI0.1 kx_204 rfl) ?_
  refine r_iload_n rfl ?_
  refine r_iconst 1 rfl ?_
  refine r_callV 9 rfl [.ref 1, .int a1, .int 1] [] (Nat.le_of_ble_eq_true rfl) rfl (T_X0_about_1 _ hI0 a1 1) ?_
  rintro _ _ ⟨g295, rfl, hI296, hF297, v298, rfl, hr299⟩
  refine At.sti ?_
  have hF300 := Fr.tr hF0 hF297 rfl rfl
  have zv301 : (1 : Int32).toInt = 1 := rfl
  refine At.enter rfl ?_
  refine r_istore_n ([(2, .int v298), (0, .ref 204), (1, .int a1)]) rfl ?_
  refine r_aload_n rfl ?_
  refine q_getR (Sh.ref hI296.1 kx_204 rfl) ?_
  refine r_iload_n rfl ?_
  refine r_iconst 2 rfl ?_
  refine r_callV 19 rfl [.ref 1, .int a1, .int 2] [] (Nat.le_of_ble_eq_true rfl) rfl (T_X0_about_1 _ hI296 a1 2) ?_
  rintro _ _ ⟨g302, rfl, hI303, hF304, v305, rfl, hr306⟩
  refine At.sti ?_
  have hF307 := Fr.tr hF300 hF304 rfl rfl
  have zv308 : (2 : Int32).toInt = 2 := rfl
  refine At.enter rfl ?_
  refine r_istore_n ([(3, .int v305), (2, .int v298), (0, .ref 204), (1, .int a1)]) rfl ?_
  refine r_iconst 0 rfl ?_
  refine r_istore ([(4, .int 0), (3, .int v305), (2, .int v298), (0, .ref 204), (1, .int a1)]) rfl ?_
  refine Ar.fall 23 rfl ?_
  have z_431 : (0 : Int32).toInt = 0 := rfl
  refine w_loopI (fun n_ l_ g_ => ∃ x417 : Int32, ∃ x418 : Int32, n_ = 12 - x418.toInt ∧ HI g_ ∧ Fr F_X1_handsToWant_204 A_X1_handsToWant_204 g0 g_ ∧ en_get 0 l_ = some (.ref 204) ∧ en_get 1 l_ = some (.int a1) ∧ en_get 2 l_ = some (.int x417) ∧ en_get 3 l_ = some (.int v305) ∧ en_get 4 l_ = some (.int x418) ∧ (0 ≤ x418.toInt ∧ x418.toInt ≤ 12)) ?_ (12 - 0) ⟨v298, 0, by first | rfl | omega, hI303, hF307, rfl, rfl, rfl, rfl, rfl, by decide⟩
  rintro n423 l422 g419 ⟨x417, x418, hm432, hI420, hF421, e425, e426, e427, e428, e429, r430⟩ ih424
  refine At.enter rfl ?_
  refine r_iload e429 ?_
  refine r_bipush 12 rfl ?_
  refine r_ics 30 rfl (fun c433 => ?_) (fun c433 => ?_)
  · have c433_ : x418.toInt ≥ 12 := en_i_ge_t c433
    refine At.enter rfl ?_
    refine r_iconst (-1) rfl ?_
    refine r_ireti ?_
    exact ⟨_, rfl, hI420, hF421, _, rfl, by decide⟩
  · have c433_ : x418.toInt < 12 := en_i_ge_f c433
    refine At.enter rfl ?_
    refine r_aload_n e425 ?_
    refine q_getR (Sh.ref hI420.1 kx_204 rfl) ?_
    refine r_iload_n e427 ?_
    refine q_inlV 38 rfl [.ref 1, .int x417] [] (Nat.le_of_ble_eq_true rfl) rfl ?_
    refine Ev.mk rfl rfl ⟨Nat.le_of_ble_eq_true rfl, Or.inr (q_rc hI420.1 kx_1 rfl)⟩ ?_
    show At _ none _ _ (0, [(0, .ref 1), (1, .int x417)], [], (_, _)) _
    refine At.enter rfl ?_
    refine r_iload_n rfl ?_
    refine r_ifs 4 rfl (fun c434 => ?_) (fun c434 => ?_)
    · have c434_ : x417.toInt < 0 := en_k_lt_t c434
      refine At.enter rfl ?_
      refine r_iconst 0 rfl ?_
      refine Ar.fall 17 rfl ?_
      refine At.enter rfl ?_
      refine q_iretz (by decide) ?_
      refine At.enter rfl ?_
      refine r_ift (by decide) ?_
      refine At.enter rfl ?_
      refine r_iconst (-1) rfl ?_
      refine r_ireti ?_
      exact ⟨_, rfl, hI420, hF421, _, rfl, by decide⟩
    · have c434_ : x417.toInt ≥ 0 := en_k_lt_f c434
      refine At.enter rfl ?_
      refine r_iload_n rfl ?_
      refine r_aload_n rfl ?_
      obtain ⟨v435, hv435⟩ : ∃ v, gI g0 1 0 = v := ⟨_, rfl⟩
      have rv435 := RgF.at hI0.2.1 (p := 1) (b := 0) rfl
      rw [hv435] at rv435
      dsimp only at rv435
      refine q_getI (Sh.int hI420.1 kx_1 rfl) v435 ((hF421.1 1 0 (by decide)).trans hv435) ?_
      have bv437 := q_bnd x417
      have bv438 := q_bnd v435
      refine r_ics 12 rfl (fun c436 => ?_) (fun c436 => ?_)
      · have c436_ : x417.toInt ≥ v435.toInt := en_i_ge_t c436
        refine At.enter rfl ?_
        refine r_iconst 0 rfl ?_
        refine Ar.fall 17 rfl ?_
        refine At.enter rfl ?_
        refine q_iretz (by decide) ?_
        refine At.enter rfl ?_
        refine r_ift (by decide) ?_
        refine At.enter rfl ?_
        refine r_iconst (-1) rfl ?_
        refine r_ireti ?_
        exact ⟨_, rfl, hI420, hF421, _, rfl, by decide⟩
      · have c436_ : x417.toInt < v435.toInt := en_i_ge_f c436
        refine At.enter rfl ?_
        refine r_iconst 1 rfl ?_
        refine r_goto ?_
        refine At.enter rfl ?_
        refine q_iretz (by decide) ?_
        refine At.enter rfl ?_
        refine r_iff 41 rfl (by decide) ?_
        refine At.enter rfl ?_
        refine r_iload_n e427 ?_
        refine r_iload_n e428 ?_
        refine r_ics 46 rfl (fun c439 => ?_) (fun c439 => ?_)
        · have c439_ : x417.toInt ≠ v305.toInt := en_i_ne_t c439
          refine At.enter rfl ?_
          refine r_aload_n e425 ?_
          refine q_getR (Sh.ref hI420.1 kx_204 rfl) ?_
          refine r_iload_n e427 ?_
          obtain ⟨v440, hv440⟩ : ∃ v, eA g0 208 x417.toInt = v := ⟨_, rfl⟩
          refine q_iald (Sh.arr hI420.1 ka_208) x417.toInt rfl (by omega) v440 ((eA_c (hF421.2.1 208 (by decide))).trans hv440) ?_
          refine r_istore_n _ rfl ?_
          refine q_iinc (w_p1 (by decide) (Or.inr rfl) e429) (x418.toInt + 1) rfl (by omega) (fun v441 hv441 => ?_)
          refine r_goto ?_
          have bv442 := q_bnd v440
          exact ih424 (12 - v441.toInt) _ _ ⟨v440, v441, by first | rfl | omega, hI420, hF421, (w_p1 (by decide) (Or.inr rfl) (w_p1 (by decide) (Or.inr rfl) e425)), (w_p1 (by decide) (Or.inr rfl) (w_p1 (by decide) (Or.inr rfl) e426)), (w_p1 (by decide) (Or.inr rfl) (w_e1 _ _ _)), (w_p1 (by decide) (Or.inr rfl) (w_p1 (by decide) (Or.inr rfl) e428)), (w_e1 _ _ _), by omega⟩ ⟨by omega, by omega⟩
        · have c439_ : x417.toInt = v305.toInt := en_i_ne_f c439
          refine At.enter rfl ?_
          refine r_iload e429 ?_
          refine r_ireti ?_
          exact ⟨_, rfl, hI420, hF421, _, rfl, by omega⟩

def F_X1_layOut_204 : List (Nat × Nat) := []
def A_X1_layOut_204 : List Nat := [205, 206, 207, 208, 209]
set_option maxRecDepth 100000 in
set_option maxHeartbeats 4000000 in
theorem T_X1_layOut_204 (d : Nat) {N : Nat} {g0 : List en_E} (hI0 : HI g0) (a1 : Int32) : Ev (d + 4) 16 [.ref 204, .int a1] (g0, N) (fun w h' => ∃ g', h' = (g', N) ∧ HI g' ∧ Fr F_X1_layOut_204 A_X1_layOut_204 g0 g' ∧ w = none) := by
  have hF0 : Fr F_X1_layOut_204 A_X1_layOut_204 g0 g0 := Fr.rf
  refine Ev.mk rfl rfl ⟨Nat.le_of_ble_eq_true rfl, Or.inr (q_rc hI0.1 kx_204 rfl)⟩ ?_
  show At _ none _ _ (0, [(0, .ref 204), (1, .int a1)], [], (_, _)) _
  refine At.enter rfl ?_
  refine r_aload_n rfl ?_
  refine q_getR (Sh.ref hI0.1 kx_204 rfl) ?_
  refine q_getR (Sh.ref hI0.1 kx_1 rfl) ?_
  refine r_iconst 0 rfl ?_
  refine r_aload_n rfl ?_
  refine q_getR (Sh.ref hI0.1 kx_204 rfl) ?_
  refine r_iconst 0 rfl ?_
  refine r_bipush 12 rfl ?_
  have zv4403 : (0 : Int32).toInt = 0 := rfl
  have zv4404 : (0 : Int32).toInt = 0 := rfl
  have zv4405 : (12 : Int32).toInt = 12 := rfl
  refine q_cpy rfl (Nat.le_of_ble_eq_true rfl) (Sh.arr hI0.1 ka_3) (Sh.arr hI0.1 ka_205) ⟨by omega, by omega, by omega, by omega, by omega⟩ ?_
  have hI4406 := HI.cpy0 hI0 ka_3 ka_205 rfl rfl ((0 : Int32).toInt.toNat) ((0 : Int32).toInt.toNat) ((12 : Int32).toInt.toNat) (by omega) (by omega)
  have hF4407 := Fr.cpy (p0 := 3) (p1 := 205) hF0 rfl ((0 : Int32).toInt.toNat) ((0 : Int32).toInt.toNat) ((12 : Int32).toInt.toNat)
  refine r_aload_n rfl ?_
  refine q_getR (Sh.ref hI4406.1 kx_204 rfl) ?_
  refine q_getR (Sh.ref hI4406.1 kx_1 rfl) ?_
  refine r_iconst 0 rfl ?_
  refine r_aload_n rfl ?_
  refine q_getR (Sh.ref hI4406.1 kx_204 rfl) ?_
  refine r_iconst 0 rfl ?_
  refine r_bipush 12 rfl ?_
  have zv4408 : (0 : Int32).toInt = 0 := rfl
  have zv4409 : (0 : Int32).toInt = 0 := rfl
  have zv4410 : (12 : Int32).toInt = 12 := rfl
  refine q_cpy rfl (Nat.le_of_ble_eq_true rfl) (Sh.arr hI4406.1 ka_4) (Sh.arr hI4406.1 ka_206) ⟨by omega, by omega, by omega, by omega, by omega⟩ ?_
  have hI4411 := HI.cpy0 hI4406 ka_4 ka_206 rfl rfl ((0 : Int32).toInt.toNat) ((0 : Int32).toInt.toNat) ((12 : Int32).toInt.toNat) (by omega) (by omega)
  have hF4412 := Fr.cpy (p0 := 4) (p1 := 206) hF4407 rfl ((0 : Int32).toInt.toNat) ((0 : Int32).toInt.toNat) ((12 : Int32).toInt.toNat)
  refine r_iconst 0 rfl ?_
  refine r_istore_n ([(2, .int 0), (0, .ref 204), (1, .int a1)]) rfl ?_
  refine Ar.fall 38 rfl ?_
  have z_6386 : (0 : Int32).toInt = 0 := rfl
  refine w_loopI (fun n_ l_ g_ => ∃ x6375 : Int32, n_ = 12 - x6375.toInt ∧ HI g_ ∧ Fr F_X1_layOut_204 A_X1_layOut_204 g0 g_ ∧ en_get 0 l_ = some (.ref 204) ∧ en_get 1 l_ = some (.int a1) ∧ en_get 2 l_ = some (.int x6375) ∧ (0 ≤ x6375.toInt ∧ x6375.toInt ≤ 12)) ?_ (12 - 0) ⟨0, by first | rfl | omega, hI4411, hF4412, rfl, rfl, rfl, by decide⟩
  rintro n6380 l6379 g6376 ⟨x6375, hm6387, hI6377, hF6378, e6382, e6383, e6384, r6385⟩ ih6381
  refine At.enter rfl ?_
  refine r_iload_n e6384 ?_
  refine r_aload_n e6382 ?_
  refine q_getR (Sh.ref hI6377.1 kx_204 rfl) ?_
  obtain ⟨v6388, hv6388⟩ : ∃ v, gI g0 1 0 = v := ⟨_, rfl⟩
  have rv6388 := RgF.at hI0.2.1 (p := 1) (b := 0) rfl
  rw [hv6388] at rv6388
  dsimp only at rv6388
  refine q_getI (Sh.int hI6377.1 kx_1 rfl) v6388 ((hF6378.1 1 0 (by decide)).trans hv6388) ?_
  have bv6390 := q_bnd x6375
  have bv6391 := q_bnd v6388
  refine r_ics 49 rfl (fun c6389 => ?_) (fun c6389 => ?_)
  · have c6389_ : x6375.toInt ≥ v6388.toInt := en_i_ge_t c6389
    refine At.enter rfl ?_
    refine r_iconst 0 rfl ?_
    refine r_istore_n _ rfl ?_
    refine Ar.fall 72 rfl ?_
    have z_6571 : (0 : Int32).toInt = 0 := rfl
    refine w_loopI (fun n_ l_ g_ => ∃ x6560 : Int32, n_ = 8 - x6560.toInt ∧ HI g_ ∧ Fr F_X1_layOut_204 A_X1_layOut_204 g0 g_ ∧ en_get 0 l_ = some (.ref 204) ∧ en_get 1 l_ = some (.int a1) ∧ en_get 2 l_ = some (.int x6560) ∧ (0 ≤ x6560.toInt ∧ x6560.toInt ≤ 8)) ?_ (8 - 0) ⟨0, by first | rfl | omega, hI6377, hF6378, (w_p1 (by decide) (Or.inr rfl) e6382), (w_p1 (by decide) (Or.inr rfl) e6383), (w_e1 _ _ _), by decide⟩
    rintro n6565 l6564 g6561 ⟨x6560, hm6572, hI6562, hF6563, e6567, e6568, e6569, r6570⟩ ih6566
    refine At.enter rfl ?_
    refine r_iload_n e6569 ?_
    refine r_aload_n e6567 ?_
    refine q_getR (Sh.ref hI6562.1 kx_204 rfl) ?_
    obtain ⟨v6573, hv6573⟩ : ∃ v, gI g0 1 4 = v := ⟨_, rfl⟩
    have rv6573 := RgF.at hI0.2.1 (p := 1) (b := 4) rfl
    rw [hv6573] at rv6573
    dsimp only at rv6573
    refine q_getI (Sh.int hI6562.1 kx_1 rfl) v6573 ((hF6563.1 1 4 (by decide)).trans hv6573) ?_
    have bv6575 := q_bnd x6560
    have bv6576 := q_bnd v6573
    refine r_ics 83 rfl (fun c6574 => ?_) (fun c6574 => ?_)
    · have c6574_ : x6560.toInt ≥ v6573.toInt := en_i_ge_t c6574
      refine At.enter rfl ?_
      refine r_vret ?_
      exact ⟨_, rfl, hI6562, hF6563, rfl⟩
    · have c6574_ : x6560.toInt < v6573.toInt := en_i_ge_f c6574
      refine At.enter rfl ?_
      refine r_aload_n e6567 ?_
      refine q_getR (Sh.ref hI6562.1 kx_204 rfl) ?_
      refine r_iload_n e6569 ?_
      refine r_aload_n e6567 ?_
      refine q_getR (Sh.ref hI6562.1 kx_204 rfl) ?_
      refine r_iload_n e6569 ?_
      refine r_iconst 3 rfl ?_
      refine r_callV 97 rfl [.ref 1, .int x6560, .int 3] [.int x6560, .ref 207] (Nat.le_of_ble_eq_true rfl) rfl (T_X0_about_1 _ hI6562 x6560 3) ?_
      rintro _ _ ⟨g6577, rfl, hI6578, hF6579, v6580, rfl, hr6581⟩
      refine At.sti ?_
      have hF6582 := Fr.tr hF6563 hF6579 rfl rfl
      have zv6583 : (3 : Int32).toInt = 3 := rfl
      refine At.enter rfl ?_
      refine q_iast (Sh.arr hI6578.1 ka_207) (x6560.toInt) rfl (by omega) ?_
      have hI6584 := HI.wA0 hI6578 ka_207 (p := 207) rfl rfl (x6560.toInt) (v6580)
      have hF6585 := Fr.wA (p := 207) (j := x6560.toInt) (v := v6580) hF6582 rfl
      refine r_aload_n e6567 ?_
      refine q_getR (Sh.ref hI6584.1 kx_204 rfl) ?_
      refine r_iload_n e6569 ?_
      refine r_aload_n e6567 ?_
      refine r_iload_n e6569 ?_
      refine r_callV 108 rfl [.ref 204, .int x6560] [.int x6560, .ref 209] (Nat.le_of_ble_eq_true rfl) rfl (T_X1_handsToWant_204 _ hI6584 x6560) ?_
      rintro _ _ ⟨g6586, rfl, hI6587, hF6588, v6589, rfl, hr6590⟩
      refine At.sti ?_
      have hF6591 := Fr.tr hF6585 hF6588 rfl rfl
      refine At.enter rfl ?_
      refine q_iast (Sh.arr hI6587.1 ka_209) (x6560.toInt) rfl (by omega) ?_
      have hI6592 := HI.wA0 hI6587 ka_209 (p := 209) rfl rfl (x6560.toInt) (v6589)
      have hF6593 := Fr.wA (p := 209) (j := x6560.toInt) (v := v6589) hF6591 rfl
      refine q_iinc e6569 (x6560.toInt + 1) rfl (by omega) (fun v6594 hv6594 => ?_)
      refine r_goto ?_
      exact ih6566 (8 - v6594.toInt) _ _ ⟨v6594, by first | rfl | omega, hI6592, hF6593, (w_p1 (by decide) (Or.inr rfl) e6567), (w_p1 (by decide) (Or.inr rfl) e6568), (w_e1 _ _ _), by omega⟩ ⟨by omega, by omega⟩
  · have c6389_ : x6375.toInt < v6388.toInt := en_i_ge_f c6389
    refine At.enter rfl ?_
    refine r_aload_n e6382 ?_
    refine q_getR (Sh.ref hI6377.1 kx_204 rfl) ?_
    refine r_iload_n e6384 ?_
    refine r_aload_n e6382 ?_
    refine q_getR (Sh.ref hI6377.1 kx_204 rfl) ?_
    refine r_iload_n e6384 ?_
    refine r_iload_n e6383 ?_
    refine r_callV 63 rfl [.ref 1, .int x6375, .int a1] [.int x6375, .ref 208] (Nat.le_of_ble_eq_true rfl) rfl (T_X0_nextPast_1 _ hI6377 x6375 a1) ?_
    rintro _ _ ⟨g6595, rfl, hI6596, hF6597, v6598, rfl, hr6599⟩
    refine At.sti ?_
    have hF6600 := Fr.tr hF6378 hF6597 rfl rfl
    refine At.enter rfl ?_
    refine q_iast (Sh.arr hI6596.1 ka_208) (x6375.toInt) rfl (by omega) ?_
    have hI6601 := HI.wA0 hI6596 ka_208 (p := 208) rfl rfl (x6375.toInt) (v6598)
    have hF6602 := Fr.wA (p := 208) (j := x6375.toInt) (v := v6598) hF6600 rfl
    refine q_iinc e6384 (x6375.toInt + 1) rfl (by omega) (fun v6603 hv6603 => ?_)
    refine r_goto ?_
    exact ih6381 (12 - v6603.toInt) _ _ ⟨v6603, by first | rfl | omega, hI6601, hF6602, (w_p1 (by decide) (Or.inr rfl) e6382), (w_p1 (by decide) (Or.inr rfl) e6383), (w_e1 _ _ _), by omega⟩ ⟨by omega, by omega⟩
