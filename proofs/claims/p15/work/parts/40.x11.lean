def F_X1_comeByNoon_188 : List (Nat × Nat) := []
def A_X1_comeByNoon_188 : List Nat := []
set_option maxRecDepth 100000 in
set_option maxHeartbeats 4000000 in
theorem T_X1_comeByNoon_188 (d : Nat) {N : Nat} {g0 : List en_E} (hI0 : HI g0) : Ev (d + 1) 32 [.ref 188] (g0, N) (fun w h' => ∃ g', h' = (g', N) ∧ HI g' ∧ Fr F_X1_comeByNoon_188 A_X1_comeByNoon_188 g0 g' ∧ ∃ r : Int32, w = some (.int r) ∧ True) := by
  have hF0 : Fr F_X1_comeByNoon_188 A_X1_comeByNoon_188 g0 g0 := Fr.rf
  refine Ev.mk rfl rfl ⟨Nat.le_of_ble_eq_true rfl, Or.inr (q_rc hI0.1 kx_188 rfl)⟩ ?_
  show At _ none _ _ (0, [(0, .ref 188)], [], (_, _)) _
  refine At.enter rfl ?_
  refine r_iconst 0 rfl ?_
  refine r_istore_n ([(1, .int 0), (0, .ref 188)]) rfl ?_
  refine r_iconst 0 rfl ?_
  refine r_istore_n ([(2, .int 0), (1, .int 0), (0, .ref 188)]) rfl ?_
  refine Ar.fall 4 rfl ?_
  have z_1193 : (0 : Int32).toInt = 0 := rfl
  have z_1194 : (0 : Int32).toInt = 0 := rfl
  refine w_loopI (fun n_ l_ g_ => ∃ x1181 : Int32, ∃ x1182 : Int32, n_ = 8 - x1182.toInt ∧ HI g_ ∧ Fr F_X1_comeByNoon_188 A_X1_comeByNoon_188 g0 g_ ∧ en_get 0 l_ = some (.ref 188) ∧ en_get 1 l_ = some (.int x1181) ∧ en_get 2 l_ = some (.int x1182) ∧ (0 ≤ x1182.toInt ∧ x1182.toInt ≤ 8)) ?_ (8 - 0) ⟨0, 0, by first | rfl | omega, hI0, hF0, rfl, rfl, rfl, by decide⟩
  rintro n1187 l1186 g1183 ⟨x1181, x1182, hm1195, hI1184, hF1185, e1189, e1190, e1191, r1192⟩ ih1188
  refine At.enter rfl ?_
  refine r_iload_n e1191 ?_
  refine r_aload_n e1189 ?_
  refine q_getR (Sh.ref hI1184.1 kx_188 rfl) ?_
  obtain ⟨v1196, hv1196⟩ : ∃ v, gI g0 1 4 = v := ⟨_, rfl⟩
  have rv1196 := RgF.at hI0.2.1 (p := 1) (b := 4) rfl
  rw [hv1196] at rv1196
  dsimp only at rv1196
  refine q_getI (Sh.int hI1184.1 kx_1 rfl) v1196 ((hF1185.1 1 4 (by decide)).trans hv1196) ?_
  have bv1198 := q_bnd x1182
  have bv1199 := q_bnd v1196
  refine r_ics 15 rfl (fun c1197 => ?_) (fun c1197 => ?_)
  · have c1197_ : x1182.toInt ≥ v1196.toInt := en_i_ge_t c1197
    refine At.enter rfl ?_
    refine r_iload_n e1190 ?_
    refine r_ireti ?_
    exact ⟨_, rfl, hI1184, hF1185, _, rfl, trivial⟩
  · have c1197_ : x1182.toInt < v1196.toInt := en_i_ge_f c1197
    refine At.enter rfl ?_
    refine r_aload_n e1189 ?_
    refine q_getR (Sh.ref hI1184.1 kx_188 rfl) ?_
    refine r_iload_n e1191 ?_
    obtain ⟨v1200, hv1200⟩ : ∃ v, eA g0 196 x1182.toInt = v := ⟨_, rfl⟩
    refine q_iald (Sh.arr hI1184.1 ka_196) x1182.toInt rfl (by omega) v1200 ((eA_c (hF1185.2.1 196 (by decide))).trans hv1200) ?_
    refine r_iconst (-1) rfl ?_
    refine r_ics 25 rfl (fun c1201 => ?_) (fun c1201 => ?_)
    · have c1201_ : v1200.toInt = (-1) := en_i_eq_t c1201
      refine At.enter rfl ?_
      refine q_iinc e1191 (x1182.toInt + 1) rfl (by omega) (fun v1202 hv1202 => ?_)
      refine r_goto ?_
      have bv1203 := q_bnd x1181
      exact ih1188 (8 - v1202.toInt) _ _ ⟨x1181, v1202, by first | rfl | omega, hI1184, hF1185, (w_p1 (by decide) (Or.inr rfl) e1189), (w_p1 (by decide) (Or.inr rfl) e1190), (w_e1 _ _ _), by omega⟩ ⟨by omega, by omega⟩
    · have c1201_ : v1200.toInt ≠ (-1) := en_i_eq_f c1201
      refine At.enter rfl ?_
      refine r_aload_n e1189 ?_
      refine q_getR (Sh.ref hI1184.1 kx_188 rfl) ?_
      refine r_iload_n e1191 ?_
      refine q_iald (Sh.arr hI1184.1 ka_196) x1182.toInt rfl (by omega) v1200 ((eA_c (hF1185.2.1 196 (by decide))).trans hv1200) ?_
      refine r_aload_n e1189 ?_
      refine q_getR (Sh.ref hI1184.1 kx_188 rfl) ?_
      obtain ⟨v1204, hv1204⟩ : ∃ v, gI g0 1 10 = v := ⟨_, rfl⟩
      refine q_getI (Sh.int hI1184.1 kx_1 rfl) v1204 ((hF1185.1 1 10 (by decide)).trans hv1204) ?_
      have bv1206 := q_bnd v1200
      have bv1207 := q_bnd v1204
      refine r_ics 41 rfl (fun c1205 => ?_) (fun c1205 => ?_)
      · have c1205_ : v1200.toInt > v1204.toInt := en_i_gt_t c1205
        refine At.enter rfl ?_
        refine q_iinc e1191 (x1182.toInt + 1) rfl (by omega) (fun v1208 hv1208 => ?_)
        refine r_goto ?_
        have bv1209 := q_bnd x1181
        exact ih1188 (8 - v1208.toInt) _ _ ⟨x1181, v1208, by first | rfl | omega, hI1184, hF1185, (w_p1 (by decide) (Or.inr rfl) e1189), (w_p1 (by decide) (Or.inr rfl) e1190), (w_e1 _ _ _), by omega⟩ ⟨by omega, by omega⟩
      · have c1205_ : v1200.toInt ≤ v1204.toInt := en_i_gt_f c1205
        refine At.enter rfl ?_
        refine q_iincO e1190 (fun v1210 _ => ?_)
        refine Ar.fall 44 rfl ?_
        refine At.enter rfl ?_
        refine q_iinc (w_p1 (by decide) (Or.inr rfl) e1191) (x1182.toInt + 1) rfl (by omega) (fun v1211 hv1211 => ?_)
        refine r_goto ?_
        have bv1212 := q_bnd v1210
        exact ih1188 (8 - v1211.toInt) _ _ ⟨v1210, v1211, by first | rfl | omega, hI1184, hF1185, (w_p1 (by decide) (Or.inr rfl) (w_p1 (by decide) (Or.inr rfl) e1189)), (w_p1 (by decide) (Or.inr rfl) (w_e1 _ _ _)), (w_e1 _ _ _), by omega⟩ ⟨by omega, by omega⟩

def F_X1_failures_188 : List (Nat × Nat) := []
def A_X1_failures_188 : List Nat := []
set_option maxRecDepth 100000 in
set_option maxHeartbeats 4000000 in
theorem T_X1_failures_188 (d : Nat) {N : Nat} {g0 : List en_E} (hI0 : HI g0) : Ev (d + 1) 33 [.ref 188] (g0, N) (fun w h' => ∃ g', h' = (g', N) ∧ HI g' ∧ Fr F_X1_failures_188 A_X1_failures_188 g0 g' ∧ ∃ r : Int32, w = some (.int r) ∧ True) := by
  have hF0 : Fr F_X1_failures_188 A_X1_failures_188 g0 g0 := Fr.rf
  refine Ev.mk rfl rfl ⟨Nat.le_of_ble_eq_true rfl, Or.inr (q_rc hI0.1 kx_188 rfl)⟩ ?_
  show At _ none _ _ (0, [(0, .ref 188)], [], (_, _)) _
  refine At.enter rfl ?_
  refine r_iconst 0 rfl ?_
  refine r_istore_n ([(1, .int 0), (0, .ref 188)]) rfl ?_
  refine r_iconst 0 rfl ?_
  refine r_istore_n ([(2, .int 0), (1, .int 0), (0, .ref 188)]) rfl ?_
  refine Ar.fall 4 rfl ?_
  have z_853 : (0 : Int32).toInt = 0 := rfl
  have z_854 : (0 : Int32).toInt = 0 := rfl
  refine w_loopI (fun n_ l_ g_ => ∃ x841 : Int32, ∃ x842 : Int32, n_ = 8 - x842.toInt ∧ HI g_ ∧ Fr F_X1_failures_188 A_X1_failures_188 g0 g_ ∧ en_get 0 l_ = some (.ref 188) ∧ en_get 1 l_ = some (.int x841) ∧ en_get 2 l_ = some (.int x842) ∧ (0 ≤ x842.toInt ∧ x842.toInt ≤ 8)) ?_ (8 - 0) ⟨0, 0, by first | rfl | omega, hI0, hF0, rfl, rfl, rfl, by decide⟩
  rintro n847 l846 g843 ⟨x841, x842, hm855, hI844, hF845, e849, e850, e851, r852⟩ ih848
  refine At.enter rfl ?_
  refine r_iload_n e851 ?_
  refine r_aload_n e849 ?_
  refine q_getR (Sh.ref hI844.1 kx_188 rfl) ?_
  obtain ⟨v856, hv856⟩ : ∃ v, gI g0 1 4 = v := ⟨_, rfl⟩
  have rv856 := RgF.at hI0.2.1 (p := 1) (b := 4) rfl
  rw [hv856] at rv856
  dsimp only at rv856
  refine q_getI (Sh.int hI844.1 kx_1 rfl) v856 ((hF845.1 1 4 (by decide)).trans hv856) ?_
  have bv858 := q_bnd x842
  have bv859 := q_bnd v856
  refine r_ics 15 rfl (fun c857 => ?_) (fun c857 => ?_)
  · have c857_ : x842.toInt ≥ v856.toInt := en_i_ge_t c857
    refine At.enter rfl ?_
    refine r_iload_n e850 ?_
    refine r_ireti ?_
    exact ⟨_, rfl, hI844, hF845, _, rfl, trivial⟩
  · have c857_ : x842.toInt < v856.toInt := en_i_ge_f c857
    refine At.enter rfl ?_
    refine r_aload_n e849 ?_
    refine q_getR (Sh.ref hI844.1 kx_188 rfl) ?_
    refine r_iload_n e851 ?_
    obtain ⟨v860, hv860⟩ : ∃ v, eA g0 196 x842.toInt = v := ⟨_, rfl⟩
    refine q_iald (Sh.arr hI844.1 ka_196) x842.toInt rfl (by omega) v860 ((eA_c (hF845.2.1 196 (by decide))).trans hv860) ?_
    refine r_iconst (-1) rfl ?_
    refine r_ics 25 rfl (fun c861 => ?_) (fun c861 => ?_)
    · have c861_ : v860.toInt ≠ (-1) := en_i_ne_t c861
      refine At.enter rfl ?_
      refine q_iinc e851 (x842.toInt + 1) rfl (by omega) (fun v862 hv862 => ?_)
      refine r_goto ?_
      have bv863 := q_bnd x841
      exact ih848 (8 - v862.toInt) _ _ ⟨x841, v862, by first | rfl | omega, hI844, hF845, (w_p1 (by decide) (Or.inr rfl) e849), (w_p1 (by decide) (Or.inr rfl) e850), (w_e1 _ _ _), by omega⟩ ⟨by omega, by omega⟩
    · have c861_ : v860.toInt = (-1) := en_i_ne_f c861
      refine At.enter rfl ?_
      refine q_iincO e850 (fun v864 _ => ?_)
      refine Ar.fall 28 rfl ?_
      refine At.enter rfl ?_
      refine q_iinc (w_p1 (by decide) (Or.inr rfl) e851) (x842.toInt + 1) rfl (by omega) (fun v865 hv865 => ?_)
      refine r_goto ?_
      have bv866 := q_bnd v864
      exact ih848 (8 - v865.toInt) _ _ ⟨v864, v865, by first | rfl | omega, hI844, hF845, (w_p1 (by decide) (Or.inr rfl) (w_p1 (by decide) (Or.inr rfl) e849)), (w_p1 (by decide) (Or.inr rfl) (w_e1 _ _ _)), (w_e1 _ _ _), by omega⟩ ⟨by omega, by omega⟩

def F_X1_handsToWant_204 : List (Nat × Nat) := []
def A_X1_handsToWant_204 : List Nat := []
set_option maxRecDepth 100000 in
set_option maxHeartbeats 4000000 in
theorem T_X1_handsToWant_204 (d : Nat) {N : Nat} {g0 : List en_E} (hI0 : HI g0) (a1 : Int32) : Ev (d + 2) 17 [.ref 204, .int a1] (g0, N) (fun w h' => ∃ g', h' = (g', N) ∧ HI g' ∧ Fr F_X1_handsToWant_204 A_X1_handsToWant_204 g0 g' ∧ ∃ r : Int32, w = some (.int r) ∧ ((-1) ≤ r.toInt ∧ r.toInt ≤ 11)) := by
  have hF0 : Fr F_X1_handsToWant_204 A_X1_handsToWant_204 g0 g0 := Fr.rf
  refine Ev.mk rfl rfl ⟨Nat.le_of_ble_eq_true rfl, Or.inr (q_rc hI0.1 kx_204 rfl)⟩ ?_
  show At _ none _ _ (0, [(0, .ref 204), (1, .int a1)], [], (_, _)) _
  refine At.enter rfl ?_
  refine r_aload_n rfl ?_
  refine q_getR (Sh.ref hI0.1 kx_204 rfl) ?_
  refine r_iload_n rfl ?_
  refine r_iconst 1 rfl ?_
  refine r_callV 9 rfl [.ref 1, .int a1, .int 1] [] (Nat.le_of_ble_eq_true rfl) rfl (T_X0_about_1 _ hI0 a1 1) ?_
  rintro _ _ ⟨g291, rfl, hI292, hF293, v294, rfl, hr295⟩
  refine At.sti ?_
  have hF296 := Fr.tr hF0 hF293 rfl rfl
  refine At.enter rfl ?_
  refine r_istore_n ([(2, .int v294), (0, .ref 204), (1, .int a1)]) rfl ?_
  refine r_aload_n rfl ?_
  refine q_getR (Sh.ref hI292.1 kx_204 rfl) ?_
  refine r_iload_n rfl ?_
  refine r_iconst 2 rfl ?_
  refine r_callV 19 rfl [.ref 1, .int a1, .int 2] [] (Nat.le_of_ble_eq_true rfl) rfl (T_X0_about_1 _ hI292 a1 2) ?_
  rintro _ _ ⟨g297, rfl, hI298, hF299, v300, rfl, hr301⟩
  refine At.sti ?_
  have hF302 := Fr.tr hF296 hF299 rfl rfl
  refine At.enter rfl ?_
  refine r_istore_n ([(3, .int v300), (2, .int v294), (0, .ref 204), (1, .int a1)]) rfl ?_
  refine r_iconst 0 rfl ?_
  refine r_istore ([(4, .int 0), (3, .int v300), (2, .int v294), (0, .ref 204), (1, .int a1)]) rfl ?_
  refine Ar.fall 23 rfl ?_
  have z_425 : (0 : Int32).toInt = 0 := rfl
  refine w_loopI (fun n_ l_ g_ => ∃ x411 : Int32, ∃ x412 : Int32, n_ = 12 - x412.toInt ∧ HI g_ ∧ Fr F_X1_handsToWant_204 A_X1_handsToWant_204 g0 g_ ∧ en_get 0 l_ = some (.ref 204) ∧ en_get 1 l_ = some (.int a1) ∧ en_get 2 l_ = some (.int x411) ∧ en_get 3 l_ = some (.int v300) ∧ en_get 4 l_ = some (.int x412) ∧ (0 ≤ x412.toInt ∧ x412.toInt ≤ 12)) ?_ (12 - 0) ⟨v294, 0, by first | rfl | omega, hI298, hF302, rfl, rfl, rfl, rfl, rfl, by decide⟩
  rintro n417 l416 g413 ⟨x411, x412, hm426, hI414, hF415, e419, e420, e421, e422, e423, r424⟩ ih418
  refine At.enter rfl ?_
  refine r_iload e423 ?_
  refine r_bipush 12 rfl ?_
  refine r_ics 30 rfl (fun c427 => ?_) (fun c427 => ?_)
  · have c427_ : x412.toInt ≥ 12 := en_i_ge_t c427
    refine At.enter rfl ?_
    refine r_iconst (-1) rfl ?_
    refine r_ireti ?_
    exact ⟨_, rfl, hI414, hF415, _, rfl, by decide⟩
  · have c427_ : x412.toInt < 12 := en_i_ge_f c427
    refine At.enter rfl ?_
    refine r_aload_n e419 ?_
    refine q_getR (Sh.ref hI414.1 kx_204 rfl) ?_
    refine r_iload_n e421 ?_
    refine q_inlV 38 rfl [.ref 1, .int x411] [] (Nat.le_of_ble_eq_true rfl) rfl ?_
    refine Ev.mk rfl rfl ⟨Nat.le_of_ble_eq_true rfl, Or.inr (q_rc hI414.1 kx_1 rfl)⟩ ?_
    show At _ none _ _ (0, [(0, .ref 1), (1, .int x411)], [], (_, _)) _
    refine At.enter rfl ?_
    refine r_iload_n rfl ?_
    refine r_ifs 4 rfl (fun c428 => ?_) (fun c428 => ?_)
    · have c428_ : x411.toInt < 0 := en_k_lt_t c428
      refine At.enter rfl ?_
      refine r_iconst 0 rfl ?_
      refine Ar.fall 17 rfl ?_
      refine At.enter rfl ?_
      refine q_iretz (by decide) ?_
      refine At.enter rfl ?_
      refine r_ift (by decide) ?_
      refine At.enter rfl ?_
      refine r_iconst (-1) rfl ?_
      refine r_ireti ?_
      exact ⟨_, rfl, hI414, hF415, _, rfl, by decide⟩
    · have c428_ : x411.toInt ≥ 0 := en_k_lt_f c428
      refine At.enter rfl ?_
      refine r_iload_n rfl ?_
      refine r_aload_n rfl ?_
      obtain ⟨v429, hv429⟩ : ∃ v, gI g0 1 0 = v := ⟨_, rfl⟩
      have rv429 := RgF.at hI0.2.1 (p := 1) (b := 0) rfl
      rw [hv429] at rv429
      dsimp only at rv429
      refine q_getI (Sh.int hI414.1 kx_1 rfl) v429 ((hF415.1 1 0 (by decide)).trans hv429) ?_
      have bv431 := q_bnd x411
      have bv432 := q_bnd v429
      refine r_ics 12 rfl (fun c430 => ?_) (fun c430 => ?_)
      · have c430_ : x411.toInt ≥ v429.toInt := en_i_ge_t c430
        refine At.enter rfl ?_
        refine r_iconst 0 rfl ?_
        refine Ar.fall 17 rfl ?_
        refine At.enter rfl ?_
        refine q_iretz (by decide) ?_
        refine At.enter rfl ?_
        refine r_ift (by decide) ?_
        refine At.enter rfl ?_
        refine r_iconst (-1) rfl ?_
        refine r_ireti ?_
        exact ⟨_, rfl, hI414, hF415, _, rfl, by decide⟩
      · have c430_ : x411.toInt < v429.toInt := en_i_ge_f c430
        refine At.enter rfl ?_
        refine r_iconst 1 rfl ?_
        refine r_goto ?_
        refine At.enter rfl ?_
        refine q_iretz (by decide) ?_
        refine At.enter rfl ?_
        refine r_iff 41 rfl (by decide) ?_
        refine At.enter rfl ?_
        refine r_iload_n e421 ?_
        refine r_iload_n e422 ?_
        refine r_ics 46 rfl (fun c433 => ?_) (fun c433 => ?_)
        · have c433_ : x411.toInt ≠ v300.toInt := en_i_ne_t c433
          refine At.enter rfl ?_
          refine r_aload_n e419 ?_
          refine q_getR (Sh.ref hI414.1 kx_204 rfl) ?_
          refine r_iload_n e421 ?_
          obtain ⟨v434, hv434⟩ : ∃ v, eA g0 208 x411.toInt = v := ⟨_, rfl⟩
          refine q_iald (Sh.arr hI414.1 ka_208) x411.toInt rfl (by omega) v434 ((eA_c (hF415.2.1 208 (by decide))).trans hv434) ?_
          refine r_istore_n _ rfl ?_
          refine q_iinc (w_p1 (by decide) (Or.inr rfl) e423) (x412.toInt + 1) rfl (by omega) (fun v435 hv435 => ?_)
          refine r_goto ?_
          have bv436 := q_bnd v434
          exact ih418 (12 - v435.toInt) _ _ ⟨v434, v435, by first | rfl | omega, hI414, hF415, (w_p1 (by decide) (Or.inr rfl) (w_p1 (by decide) (Or.inr rfl) e419)), (w_p1 (by decide) (Or.inr rfl) (w_p1 (by decide) (Or.inr rfl) e420)), (w_p1 (by decide) (Or.inr rfl) (w_e1 _ _ _)), (w_p1 (by decide) (Or.inr rfl) (w_p1 (by decide) (Or.inr rfl) e422)), (w_e1 _ _ _), by omega⟩ ⟨by omega, by omega⟩
        · have c433_ : x411.toInt = v300.toInt := en_i_ne_f c433
          refine At.enter rfl ?_
          refine r_iload e423 ?_
          refine r_ireti ?_
          exact ⟨_, rfl, hI414, hF415, _, rfl, by omega⟩

def F_X1_layOut_204 : List (Nat × Nat) := []
def A_X1_layOut_204 : List Nat := [205, 206, 207, 208, 209]
set_option maxRecDepth 100000 in
set_option maxHeartbeats 4000000 in
theorem T_X1_layOut_204 (d : Nat) {N : Nat} {g0 : List en_E} (hI0 : HI g0) (a1 : Int32) : Ev (d + 4) 16 [.ref 204, .int a1] (g0, N) (fun w h' => ∃ g', h' = (g', N) ∧ HI g' ∧ Fr F_X1_layOut_204 A_X1_layOut_204 g0 g' ∧ w = none) := by
  have hF0 : Fr F_X1_layOut_204 A_X1_layOut_204 g0 g0 := Fr.rf
  refine Ev.mk rfl rfl ⟨Nat.le_of_ble_eq_true rfl, Or.inr (q_rc hI0.1 kx_204 rfl)⟩ ?_
  show At _ none _ _ (0, [(0, .ref 204), (1, .int a1)], [], (_, _)) _
  refine At.enter rfl ?_
  refine r_aload_n rfl ?_
  refine q_getR (Sh.ref hI0.1 kx_204 rfl) ?_
  refine q_getR (Sh.ref hI0.1 kx_1 rfl) ?_
  refine r_iconst 0 rfl ?_
  refine r_aload_n rfl ?_
  refine q_getR (Sh.ref hI0.1 kx_204 rfl) ?_
  refine r_iconst 0 rfl ?_
  refine r_bipush 12 rfl ?_
  have zv4243 : (0 : Int32).toInt = 0 := rfl
  have zv4244 : (0 : Int32).toInt = 0 := rfl
  have zv4245 : (12 : Int32).toInt = 12 := rfl
  refine q_cpy rfl (Nat.le_of_ble_eq_true rfl) (Sh.arr hI0.1 ka_3) (Sh.arr hI0.1 ka_205) ⟨by omega, by omega, by omega, by omega, by omega⟩ ?_
  have hI4246 := HI.cpy0 hI0 ka_3 ka_205 rfl rfl ((0 : Int32).toInt.toNat) ((0 : Int32).toInt.toNat) ((12 : Int32).toInt.toNat) (by omega) (by omega)
  have hF4247 := Fr.cpy (p0 := 3) (p1 := 205) hF0 rfl ((0 : Int32).toInt.toNat) ((0 : Int32).toInt.toNat) ((12 : Int32).toInt.toNat)
  refine r_aload_n rfl ?_
  refine q_getR (Sh.ref hI4246.1 kx_204 rfl) ?_
  refine q_getR (Sh.ref hI4246.1 kx_1 rfl) ?_
  refine r_iconst 0 rfl ?_
  refine r_aload_n rfl ?_
  refine q_getR (Sh.ref hI4246.1 kx_204 rfl) ?_
  refine r_iconst 0 rfl ?_
  refine r_bipush 12 rfl ?_
  have zv4248 : (0 : Int32).toInt = 0 := rfl
  have zv4249 : (0 : Int32).toInt = 0 := rfl
  have zv4250 : (12 : Int32).toInt = 12 := rfl
  refine q_cpy rfl (Nat.le_of_ble_eq_true rfl) (Sh.arr hI4246.1 ka_4) (Sh.arr hI4246.1 ka_206) ⟨by omega, by omega, by omega, by omega, by omega⟩ ?_
  have hI4251 := HI.cpy0 hI4246 ka_4 ka_206 rfl rfl ((0 : Int32).toInt.toNat) ((0 : Int32).toInt.toNat) ((12 : Int32).toInt.toNat) (by omega) (by omega)
  have hF4252 := Fr.cpy (p0 := 4) (p1 := 206) hF4247 rfl ((0 : Int32).toInt.toNat) ((0 : Int32).toInt.toNat) ((12 : Int32).toInt.toNat)
  refine r_iconst 0 rfl ?_
  refine r_istore_n ([(2, .int 0), (0, .ref 204), (1, .int a1)]) rfl ?_
  refine Ar.fall 38 rfl ?_
  have z_6154 : (0 : Int32).toInt = 0 := rfl
  refine w_loopI (fun n_ l_ g_ => ∃ x6143 : Int32, n_ = 12 - x6143.toInt ∧ HI g_ ∧ Fr F_X1_layOut_204 A_X1_layOut_204 g0 g_ ∧ en_get 0 l_ = some (.ref 204) ∧ en_get 1 l_ = some (.int a1) ∧ en_get 2 l_ = some (.int x6143) ∧ (0 ≤ x6143.toInt ∧ x6143.toInt ≤ 12)) ?_ (12 - 0) ⟨0, by first | rfl | omega, hI4251, hF4252, rfl, rfl, rfl, by decide⟩
  rintro n6148 l6147 g6144 ⟨x6143, hm6155, hI6145, hF6146, e6150, e6151, e6152, r6153⟩ ih6149
  refine At.enter rfl ?_
  refine r_iload_n e6152 ?_
  refine r_aload_n e6150 ?_
  refine q_getR (Sh.ref hI6145.1 kx_204 rfl) ?_
  obtain ⟨v6156, hv6156⟩ : ∃ v, gI g0 1 0 = v := ⟨_, rfl⟩
  have rv6156 := RgF.at hI0.2.1 (p := 1) (b := 0) rfl
  rw [hv6156] at rv6156
  dsimp only at rv6156
  refine q_getI (Sh.int hI6145.1 kx_1 rfl) v6156 ((hF6146.1 1 0 (by decide)).trans hv6156) ?_
  have bv6158 := q_bnd x6143
  have bv6159 := q_bnd v6156
  refine r_ics 49 rfl (fun c6157 => ?_) (fun c6157 => ?_)
  · have c6157_ : x6143.toInt ≥ v6156.toInt := en_i_ge_t c6157
    refine At.enter rfl ?_
    refine r_iconst 0 rfl ?_
    refine r_istore_n _ rfl ?_
    refine Ar.fall 72 rfl ?_
    have z_6332 : (0 : Int32).toInt = 0 := rfl
    refine w_loopI (fun n_ l_ g_ => ∃ x6321 : Int32, n_ = 8 - x6321.toInt ∧ HI g_ ∧ Fr F_X1_layOut_204 A_X1_layOut_204 g0 g_ ∧ en_get 0 l_ = some (.ref 204) ∧ en_get 1 l_ = some (.int a1) ∧ en_get 2 l_ = some (.int x6321) ∧ (0 ≤ x6321.toInt ∧ x6321.toInt ≤ 8)) ?_ (8 - 0) ⟨0, by first | rfl | omega, hI6145, hF6146, (w_p1 (by decide) (Or.inr rfl) e6150), (w_p1 (by decide) (Or.inr rfl) e6151), (w_e1 _ _ _), by decide⟩
    rintro n6326 l6325 g6322 ⟨x6321, hm6333, hI6323, hF6324, e6328, e6329, e6330, r6331⟩ ih6327
    refine At.enter rfl ?_
    refine r_iload_n e6330 ?_
    refine r_aload_n e6328 ?_
    refine q_getR (Sh.ref hI6323.1 kx_204 rfl) ?_
    obtain ⟨v6334, hv6334⟩ : ∃ v, gI g0 1 4 = v := ⟨_, rfl⟩
    have rv6334 := RgF.at hI0.2.1 (p := 1) (b := 4) rfl
    rw [hv6334] at rv6334
    dsimp only at rv6334
    refine q_getI (Sh.int hI6323.1 kx_1 rfl) v6334 ((hF6324.1 1 4 (by decide)).trans hv6334) ?_
    have bv6336 := q_bnd x6321
    have bv6337 := q_bnd v6334
    refine r_ics 83 rfl (fun c6335 => ?_) (fun c6335 => ?_)
    · have c6335_ : x6321.toInt ≥ v6334.toInt := en_i_ge_t c6335
      refine At.enter rfl ?_
      refine r_vret ?_
      exact ⟨_, rfl, hI6323, hF6324, rfl⟩
    · have c6335_ : x6321.toInt < v6334.toInt := en_i_ge_f c6335
      refine At.enter rfl ?_
      refine r_aload_n e6328 ?_
      refine q_getR (Sh.ref hI6323.1 kx_204 rfl) ?_
      refine r_iload_n e6330 ?_
      refine r_aload_n e6328 ?_
      refine q_getR (Sh.ref hI6323.1 kx_204 rfl) ?_
      refine r_iload_n e6330 ?_
      refine r_iconst 3 rfl ?_
      refine r_callV 97 rfl [.ref 1, .int x6321, .int 3] [.int x6321, .ref 207] (Nat.le_of_ble_eq_true rfl) rfl (T_X0_about_1 _ hI6323 x6321 3) ?_
      rintro _ _ ⟨g6338, rfl, hI6339, hF6340, v6341, rfl, hr6342⟩
      refine At.sti ?_
      have hF6343 := Fr.tr hF6324 hF6340 rfl rfl
      refine At.enter rfl ?_
      refine q_iast (Sh.arr hI6339.1 ka_207) (x6321.toInt) rfl (by omega) ?_
      have hI6344 := HI.wA0 hI6339 ka_207 (p := 207) rfl rfl (x6321.toInt) (v6341)
      have hF6345 := Fr.wA (p := 207) (j := x6321.toInt) (v := v6341) hF6343 rfl
      refine r_aload_n e6328 ?_
      refine q_getR (Sh.ref hI6344.1 kx_204 rfl) ?_
      refine r_iload_n e6330 ?_
      refine r_aload_n e6328 ?_
      refine r_iload_n e6330 ?_
      refine r_callV 108 rfl [.ref 204, .int x6321] [.int x6321, .ref 209] (Nat.le_of_ble_eq_true rfl) rfl (T_X1_handsToWant_204 _ hI6344 x6321) ?_
      rintro _ _ ⟨g6346, rfl, hI6347, hF6348, v6349, rfl, hr6350⟩
      refine At.sti ?_
      have hF6351 := Fr.tr hF6345 hF6348 rfl rfl
      refine At.enter rfl ?_
      refine q_iast (Sh.arr hI6347.1 ka_209) (x6321.toInt) rfl (by omega) ?_
      have hI6352 := HI.wA0 hI6347 ka_209 (p := 209) rfl rfl (x6321.toInt) (v6349)
      have hF6353 := Fr.wA (p := 209) (j := x6321.toInt) (v := v6349) hF6351 rfl
      refine q_iinc e6330 (x6321.toInt + 1) rfl (by omega) (fun v6354 hv6354 => ?_)
      refine r_goto ?_
      exact ih6327 (8 - v6354.toInt) _ _ ⟨v6354, by first | rfl | omega, hI6352, hF6353, (w_p1 (by decide) (Or.inr rfl) e6328), (w_p1 (by decide) (Or.inr rfl) e6329), (w_e1 _ _ _), by omega⟩ ⟨by omega, by omega⟩
  · have c6157_ : x6143.toInt < v6156.toInt := en_i_ge_f c6157
    refine At.enter rfl ?_
    refine r_aload_n e6150 ?_
    refine q_getR (Sh.ref hI6145.1 kx_204 rfl) ?_
    refine r_iload_n e6152 ?_
    refine r_aload_n e6150 ?_
    refine q_getR (Sh.ref hI6145.1 kx_204 rfl) ?_
    refine r_iload_n e6152 ?_
    refine r_iload_n e6151 ?_
    refine r_callV 63 rfl [.ref 1, .int x6143, .int a1] [.int x6143, .ref 208] (Nat.le_of_ble_eq_true rfl) rfl (T_X0_nextPast_1 _ hI6145 x6143 a1) ?_
    rintro _ _ ⟨g6355, rfl, hI6356, hF6357, v6358, rfl, hr6359⟩
    refine At.sti ?_
    have hF6360 := Fr.tr hF6146 hF6357 rfl rfl
    refine At.enter rfl ?_
    refine q_iast (Sh.arr hI6356.1 ka_208) (x6143.toInt) rfl (by omega) ?_
    have hI6361 := HI.wA0 hI6356 ka_208 (p := 208) rfl rfl (x6143.toInt) (v6358)
    have hF6362 := Fr.wA (p := 208) (j := x6143.toInt) (v := v6358) hF6360 rfl
    refine q_iinc e6152 (x6143.toInt + 1) rfl (by omega) (fun v6363 hv6363 => ?_)
    refine r_goto ?_
    exact ih6149 (12 - v6363.toInt) _ _ ⟨v6363, by first | rfl | omega, hI6361, hF6362, (w_p1 (by decide) (Or.inr rfl) e6150), (w_p1 (by decide) (Or.inr rfl) e6151), (w_e1 _ _ _), by omega⟩ ⟨by omega, by omega⟩
