def F_X1_comeByNoon_188 : List (Nat × Nat) := []
def A_X1_comeByNoon_188 : List Nat := []
set_option maxRecDepth 100000 in
set_option maxHeartbeats 4000000 in
theorem T_X1_comeByNoon_188 (d : Nat) {N : Nat} {g0 : List en_E} (hI0 : HI g0) : Ev (d + 1) 32 [.ref 188] (g0, N) (fun w h' => ∃ g', h' = (g', N) ∧ HI g' ∧ Fr F_X1_comeByNoon_188 A_X1_comeByNoon_188 g0 g' ∧ ∃ r : Int32, w = some (.int r) ∧ True) := by
  have hF0 : Fr F_X1_comeByNoon_188 A_X1_comeByNoon_188 g0 g0 := Fr.rf
  refine Ev.mk rfl rfl ⟨Nat.le_of_ble_eq_true rfl, Or.inr (q_rc hI0.1 kx_188 rfl)⟩ ?_
  show At _ none _ _ (0, [(0, .ref 188)], [], (_, _)) _
  refine At.enter rfl ?_
  refine r_iconst 0 rfl ?_
  refine r_istore_n ([(1, .int 0), (0, .ref 188)]) rfl ?_
  refine r_iconst 0 rfl ?_
  refine r_istore_n ([(2, .int 0), (1, .int 0), (0, .ref 188)]) rfl ?_
  refine Ar.fall 4 rfl ?_
  have z_1193 : (0 : Int32).toInt = 0 := rfl
  have z_1194 : (0 : Int32).toInt = 0 := rfl
  refine w_loopI (fun n_ l_ g_ => ∃ x1181 : Int32, ∃ x1182 : Int32, n_ = 8 - x1182.toInt ∧ HI g_ ∧ Fr F_X1_comeByNoon_188 A_X1_comeByNoon_188 g0 g_ ∧ en_get 0 l_ = some (.ref 188) ∧ en_get 1 l_ = some (.int x1181) ∧ en_get 2 l_ = some (.int x1182) ∧ (0 ≤ x1182.toInt ∧ x1182.toInt ≤ 8)) ?_ (8 - 0) ⟨0, 0, by first | rfl | omega, hI0, hF0, rfl, rfl, rfl, by decide⟩
  rintro n1187 l1186 g1183 ⟨x1181, x1182, hm1195, hI1184, hF1185, e1189, e1190, e1191, r1192⟩ ih1188
  refine At.enter rfl ?_
  refine r_iload_n e1191 ?_
  refine r_aload_n e1189 ?_
  refine q_getR (Sh.ref hI1184.1 kx_188 rfl) ?_
  obtain ⟨v1196, hv1196⟩ : ∃ v, gI g0 1 4 = v := ⟨_, rfl⟩
  have rv1196 := RgF.at hI0.2.1 (p := 1) (b := 4) rfl
  rw [hv1196] at rv1196
  dsimp only at rv1196
  refine q_getI (Sh.int hI1184.1 kx_1 rfl) v1196 ((hF1185.1 1 4 (by decide)).trans hv1196) ?_
  have bv1198 := q_bnd x1182
  have bv1199 := q_bnd v1196
  refine r_ics 15 rfl (fun c1197 => ?_) (fun c1197 => ?_)
  · have c1197_ : x1182.toInt ≥ v1196.toInt := en_i_ge_t c1197
    refine At.enter rfl ?_
    refine r_iload_n e1190 ?_
    refine r_ireti ?_
    exact ⟨_, rfl, hI1184, hF1185, _, rfl, trivial⟩
  · have c1197_ : x1182.toInt < v1196.toInt := en_i_ge_f c1197
    refine At.enter rfl ?_
    refine r_aload_n e1189 ?_
    refine q_getR (Sh.ref hI1184.1 kx_188 rfl) ?_
    refine r_iload_n e1191 ?_
    obtain ⟨v1200, hv1200⟩ : ∃ v, eA g0 196 x1182.toInt = v := ⟨_, rfl⟩
    refine q_iald (Sh.arr hI1184.1 ka_196) x1182.toInt rfl (by omega) v1200 ((eA_c (hF1185.2.1 196 (by decide))).trans hv1200) ?_
    refine r_iconst (-1) rfl ?_
    refine r_ics 25 rfl (fun c1201 => ?_) (fun c1201 => ?_)
    · have c1201_ : v1200.toInt = (-1) := en_i_eq_t c1201
      refine At.enter rfl ?_
      refine q_iinc e1191 (x1182.toInt + 1) rfl (by omega) (fun v1202 hv1202 => ?_)
      refine r_goto ?_
      have bv1203 := q_bnd x1181
      exact ih1188 (8 - v1202.toInt) _ _ ⟨x1181, v1202, by first | rfl | omega, hI1184, hF1185, (w_p1 (by decide) (Or.inr rfl) e1189), (w_p1 (by decide) (Or.inr rfl) e1190), (w_e1 _ _ _), by omega⟩ ⟨by omega, by omega⟩
    · have c1201_ : v1200.toInt ≠ (-1) := en_i_eq_f c1201
      refine At.enter rfl ?_
      refine r_aload_n e1189 ?_
      refine q_getR (Sh.ref hI1184.1 kx_188 rfl) ?_
      refine r_iload_n e1191 ?_
      refine q_iald (Sh.arr hI1184.1 ka_196) x1182.toInt rfl (by omega) v1200 ((eA_c (hF1185.2.1 196 (by decide))).trans hv1200) ?_
      refine r_aload_n e1189 ?_
      refine q_getR (Sh.ref hI1184.1 kx_188 rfl) ?_
      obtain ⟨v1204, hv1204⟩ : ∃ v, gI g0 1 10 = v := ⟨_, rfl⟩
      refine q_getI (Sh.int hI1184.1 kx_1 rfl) v1204 ((hF1185.1 1 10 (by decide)).trans hv1204) ?_
      have bv1206 := q_bnd v1200
      have bv1207 := q_bnd v1204
      refine r_ics 41 rfl (fun c1205 => ?_) (fun c1205 => ?_)
      · have c1205_ : v1200.toInt > v1204.toInt := en_i_gt_t c1205
        refine At.enter rfl ?_
        refine q_iinc e1191 (x1182.toInt + 1) rfl (by omega) (fun v1208 hv1208 => ?_)
        refine r_goto ?_
        have bv1209 := q_bnd x1181
        exact ih1188 (8 - v1208.toInt) _ _ ⟨x1181, v1208, by first | rfl | omega, hI1184, hF1185, (w_p1 (by decide) (Or.inr rfl) e1189), (w_p1 (by decide) (Or.inr rfl) e1190), (w_e1 _ _ _), by omega⟩ ⟨by omega, by omega⟩
      · have c1205_ : v1200.toInt ≤ v1204.toInt := en_i_gt_f c1205
        refine At.enter rfl ?_
        refine q_iincO e1190 (fun v1210 _ => ?_)
        refine Ar.fall 44 rfl ?_
        refine At.enter rfl ?_
        refine q_iinc (w_p1 (by decide) (Or.inr rfl) e1191) (x1182.toInt + 1) rfl (by omega) (fun v1211 hv1211 => ?_)
        refine r_goto ?_
        have bv1212 := q_bnd v1210
        exact ih1188 (8 - v1211.toInt) _ _ ⟨v1210, v1211, by first | rfl | omega, hI1184, hF1185, (w_p1 (by decide) (Or.inr rfl) (w_p1 (by decide) (Or.inr rfl) e1189)), (w_p1 (by decide) (Or.inr rfl) (w_e1 _ _ _)), (w_e1 _ _ _), by omega⟩ ⟨by omega, by omega⟩

def F_X1_failures_188 : List (Nat × Nat) := []
def A_X1_failures_188 : List Nat := []
set_option maxRecDepth 100000 in
set_option maxHeartbeats 4000000 in
theorem T_X1_failures_188 (d : Nat) {N : Nat} {g0 : List en_E} (hI0 : HI g0) : Ev (d + 1) 33 [.ref 188] (g0, N) (fun w h' => ∃ g', h' = (g', N) ∧ HI g' ∧ Fr F_X1_failures_188 A_X1_failures_188 g0 g' ∧ ∃ r : Int32, w = some (.int r) ∧ True) := by
  have hF0 : Fr F_X1_failures_188 A_X1_failures_188 g0 g0 := Fr.rf
  refine Ev.mk rfl rfl ⟨Nat.le_of_ble_eq_true rfl, Or.inr (q_rc hI0.1 kx_188 rfl)⟩ ?_
  show At _ none _ _ (0, [(0, .ref 188)], [], (_, _)) _
  refine At.enter rfl ?_
  refine r_iconst 0 rfl ?_
  refine r_istore_n ([(1, .int 0), (0, .ref 188)]) rfl ?_
  refine r_iconst 0 rfl ?_
  refine r_istore_n ([(2, .int 0), (1, .int 0), (0, .ref 188)]) rfl ?_
  refine Ar.fall 4 rfl ?_
  have z_853 : (0 : Int32).toInt = 0 := rfl
  have z_854 : (0 : Int32).toInt = 0 := rfl
  refine w_loopI (fun n_ l_ g_ => ∃ x841 : Int32, ∃ x842 : Int32, n_ = 8 - x842.toInt ∧ HI g_ ∧ Fr F_X1_failures_188 A_X1_failures_188 g0 g_ ∧ en_get 0 l_ = some (.ref 188) ∧ en_get 1 l_ = some (.int x841) ∧ en_get 2 l_ = some (.int x842) ∧ (0 ≤ x842.toInt ∧ x842.toInt ≤ 8)) ?_ (8 - 0) ⟨0, 0, by first | rfl | omega, hI0, hF0, rfl, rfl, rfl, by decide⟩
  rintro n847 l846 g843 ⟨x841, x842, hm855, hI844, hF845, e849, e850, e851, r852⟩ ih848
  refine At.enter rfl ?_
  refine r_iload_n e851 ?_
  refine r_aload_n e849 ?_
  refine q_getR (Sh.ref hI844.1 kx_188 rfl) ?_
  obtain ⟨v856, hv856⟩ : ∃ v, gI g0 1 4 = v := ⟨_, rfl⟩
  have rv856 := RgF.at hI0.2.1 (p := 1) (b := 4) rfl
  rw [hv856] at rv856
  dsimp only at rv856
  refine q_getI (Sh.int hI844.1 kx_1 rfl) v856 ((hF845.1 1 4 (by decide)).trans hv856) ?_
  have bv858 := q_bnd x842
  have bv859 := q_bnd v856
  refine r_ics 15 rfl (fun c857 => ?_) (fun c857 => ?_)
  · have c857_ : x842.toInt ≥ v856.toInt := en_i_ge_t c857
    refine At.enter rfl ?_
    refine r_iload_n e850 ?_
    refine r_ireti ?_
    exact ⟨_, rfl, hI844, hF845, _, rfl, trivial⟩
  · have c857_ : x842.toInt < v856.toInt := en_i_ge_f c857
    refine At.enter rfl ?_
    refine r_aload_n e849 ?_
    refine q_getR (Sh.ref hI844.1 kx_188 rfl) ?_
    refine r_iload_n e851 ?_
    obtain ⟨v860, hv860⟩ : ∃ v, eA g0 196 x842.toInt = v := ⟨_, rfl⟩
    refine q_iald (Sh.arr hI844.1 ka_196) x842.toInt rfl (by omega) v860 ((eA_c (hF845.2.1 196 (by decide))).trans hv860) ?_
    refine r_iconst (-1) rfl ?_
    refine r_ics 25 rfl (fun c861 => ?_) (fun c861 => ?_)
    · have c861_ : v860.toInt ≠ (-1) := en_i_ne_t c861
      refine At.enter rfl ?_
      refine q_iinc e851 (x842.toInt + 1) rfl (by omega) (fun v862 hv862 => ?_)
      refine r_goto ?_
      have bv863 := q_bnd x841
      exact ih848 (8 - v862.toInt) _ _ ⟨x841, v862, by first | rfl | omega, hI844, hF845, (w_p1 (by decide) (Or.inr rfl) e849), (w_p1 (by decide) (Or.inr rfl) e850), (w_e1 _ _ _), by omega⟩ ⟨by omega, by omega⟩
    · have c861_ : v860.toInt = (-1) := en_i_ne_f c861
      refine At.enter rfl ?_
      refine q_iincO e850 (fun v864 _ => ?_)
      refine Ar.fall 28 rfl ?_
      refine At.enter rfl ?_
      refine q_iinc (w_p1 (by decide) (Or.inr rfl) e851) (x842.toInt + 1) rfl (by omega) (fun v865 hv865 => ?_)
      refine r_goto ?_
      have bv866 := q_bnd v864
      exact ih848 (8 - v865.toInt) _ _ ⟨v864, v865, by first | rfl | omega, hI844, hF845, (w_p1 (by decide) (Or.inr rfl) (w_p1 (by decide) (Or.inr rfl) e849)), (w_p1 (by decide) (Or.inr rfl) (w_e1 _ _ _)), (w_e1 _ _ _), by omega⟩ ⟨by omega, by omega⟩

def F_X1_handsToWant_204 : List (Nat × Nat) := []
def A_X1_handsToWant_204 : List Nat := []
set_option maxRecDepth 100000 in
set_option maxHeartbeats 4000000 in
theorem T_X1_handsToWant_204 (d : Nat) {N : Nat} {g0 : List en_E} (hI0 : HI g0) (a1 : Int32) : Ev (d + 2) 17 [.ref 204, .int a1] (g0, N) (fun w h' => ∃ g', h' = (g', N) ∧ HI g' ∧ Fr F_X1_handsToWant_204 A_X1_handsToWant_204 g0 g' ∧ ∃ r : Int32, w = some (.int r) ∧ ((-1) ≤ r.toInt ∧ r.toInt ≤ 11)) := by
  have hF0 : Fr F_X1_handsToWant_204 A_X1_handsToWant_204 g0 g0 := Fr.rf
  refine Ev.mk rfl rfl ⟨Nat.le_of_ble_eq_true rfl, Or.inr (q_rc hI0.1 kx_204 rfl)⟩ ?_
  show At _ none _ _ (0, [(0, .ref 204), (1, .int a1)], [], (_, _)) _
  refine At.enter rfl ?_
  refine r_aload_n rfl ?_
  refine q_getR (Sh.ref hI0.1 kx_204 rfl) ?_
  refine r_iload_n rfl ?_
  refine r_iconst 1 rfl ?_
  refine r_callV 9 rfl [.ref 1, .int a1, .int 1] [] (Nat.le_of_ble_eq_true rfl) rfl (T_X0_about_1 _ hI0 a1 1) ?_
  rintro _ _ ⟨g303, rfl, hI304, hF305, v306, rfl, hr307⟩
  refine At.sti ?_
  have ks310 := hr307.2.2
  have hr309 : _ ∧ _ := ⟨hr307.1, hr307.2.1⟩
  have hF308 := Fr.tr hF0 hF305 rfl rfl
  have zv311 : (1 : Int32).toInt = 1 := rfl
  refine At.enter rfl ?_
  refine r_istore_n ([(2, .int v306), (0, .ref 204), (1, .int a1)]) rfl ?_
  refine r_aload_n rfl ?_
  refine q_getR (Sh.ref hI304.1 kx_204 rfl) ?_
  refine r_iload_n rfl ?_
  refine r_iconst 2 rfl ?_
  refine r_callV 19 rfl [.ref 1, .int a1, .int 2] [] (Nat.le_of_ble_eq_true rfl) rfl (T_X0_about_1 _ hI304 a1 2) ?_
  rintro _ _ ⟨g312, rfl, hI313, hF314, v315, rfl, hr316⟩
  refine At.sti ?_
  have ks319 := hr316.2.2
  have hr318 : _ ∧ _ := ⟨hr316.1, hr316.2.1⟩
  have hF317 := Fr.tr hF308 hF314 rfl rfl
  have zv320 : (2 : Int32).toInt = 2 := rfl
  refine At.enter rfl ?_
  refine r_istore_n ([(3, .int v315), (2, .int v306), (0, .ref 204), (1, .int a1)]) rfl ?_
  refine r_iconst 0 rfl ?_
  refine r_istore ([(4, .int 0), (3, .int v315), (2, .int v306), (0, .ref 204), (1, .int a1)]) rfl ?_
  refine Ar.fall 23 rfl ?_
  have z_443 : (0 : Int32).toInt = 0 := rfl
  refine w_loopI (fun n_ l_ g_ => ∃ x429 : Int32, ∃ x430 : Int32, n_ = 12 - x430.toInt ∧ HI g_ ∧ Fr F_X1_handsToWant_204 A_X1_handsToWant_204 g0 g_ ∧ en_get 0 l_ = some (.ref 204) ∧ en_get 1 l_ = some (.int a1) ∧ en_get 2 l_ = some (.int x429) ∧ en_get 3 l_ = some (.int v315) ∧ en_get 4 l_ = some (.int x430) ∧ (0 ≤ x430.toInt ∧ x430.toInt ≤ 12)) ?_ (12 - 0) ⟨v306, 0, by first | rfl | omega, hI313, hF317, rfl, rfl, rfl, rfl, rfl, by decide⟩
  rintro n435 l434 g431 ⟨x429, x430, hm444, hI432, hF433, e437, e438, e439, e440, e441, r442⟩ ih436
  refine At.enter rfl ?_
  refine r_iload e441 ?_
  refine r_bipush 12 rfl ?_
  refine r_ics 30 rfl (fun c445 => ?_) (fun c445 => ?_)
  · have c445_ : x430.toInt ≥ 12 := en_i_ge_t c445
    refine At.enter rfl ?_
    refine r_iconst (-1) rfl ?_
    refine r_ireti ?_
    exact ⟨_, rfl, hI432, hF433, _, rfl, by decide⟩
  · have c445_ : x430.toInt < 12 := en_i_ge_f c445
    refine At.enter rfl ?_
    refine r_aload_n e437 ?_
    refine q_getR (Sh.ref hI432.1 kx_204 rfl) ?_
    refine r_iload_n e439 ?_
    refine q_inlV 38 rfl [.ref 1, .int x429] [] (Nat.le_of_ble_eq_true rfl) rfl ?_
    refine Ev.mk rfl rfl ⟨Nat.le_of_ble_eq_true rfl, Or.inr (q_rc hI432.1 kx_1 rfl)⟩ ?_
    show At _ none _ _ (0, [(0, .ref 1), (1, .int x429)], [], (_, _)) _
    refine At.enter rfl ?_
    refine r_iload_n rfl ?_
    refine r_ifs 4 rfl (fun c446 => ?_) (fun c446 => ?_)
    · have c446_ : x429.toInt < 0 := en_k_lt_t c446
      refine At.enter rfl ?_
      refine r_iconst 0 rfl ?_
      refine Ar.fall 17 rfl ?_
      refine At.enter rfl ?_
      refine q_iretz (by decide) ?_
      refine At.enter rfl ?_
      refine r_ift (by decide) ?_
      refine At.enter rfl ?_
      refine r_iconst (-1) rfl ?_
      refine r_ireti ?_
      exact ⟨_, rfl, hI432, hF433, _, rfl, by decide⟩
    · have c446_ : x429.toInt ≥ 0 := en_k_lt_f c446
      refine At.enter rfl ?_
      refine r_iload_n rfl ?_
      refine r_aload_n rfl ?_
      obtain ⟨v447, hv447⟩ : ∃ v, gI g0 1 0 = v := ⟨_, rfl⟩
      have rv447 := RgF.at hI0.2.1 (p := 1) (b := 0) rfl
      rw [hv447] at rv447
      dsimp only at rv447
      refine q_getI (Sh.int hI432.1 kx_1 rfl) v447 ((hF433.1 1 0 (by decide)).trans hv447) ?_
      have bv449 := q_bnd x429
      have bv450 := q_bnd v447
      refine r_ics 12 rfl (fun c448 => ?_) (fun c448 => ?_)
      · have c448_ : x429.toInt ≥ v447.toInt := en_i_ge_t c448
        refine At.enter rfl ?_
        refine r_iconst 0 rfl ?_
        refine Ar.fall 17 rfl ?_
        refine At.enter rfl ?_
        refine q_iretz (by decide) ?_
        refine At.enter rfl ?_
        refine r_ift (by decide) ?_
        refine At.enter rfl ?_
        refine r_iconst (-1) rfl ?_
        refine r_ireti ?_
        exact ⟨_, rfl, hI432, hF433, _, rfl, by decide⟩
      · have c448_ : x429.toInt < v447.toInt := en_i_ge_f c448
        refine At.enter rfl ?_
        refine r_iconst 1 rfl ?_
        refine r_goto ?_
        refine At.enter rfl ?_
        refine q_iretz (by decide) ?_
        refine At.enter rfl ?_
        refine r_iff 41 rfl (by decide) ?_
        refine At.enter rfl ?_
        refine r_iload_n e439 ?_
        refine r_iload_n e440 ?_
        refine r_ics 46 rfl (fun c451 => ?_) (fun c451 => ?_)
        · have c451_ : x429.toInt ≠ v315.toInt := en_i_ne_t c451
          refine At.enter rfl ?_
          refine r_aload_n e437 ?_
          refine q_getR (Sh.ref hI432.1 kx_204 rfl) ?_
          refine r_iload_n e439 ?_
          obtain ⟨v452, hv452⟩ : ∃ v, eA g0 208 x429.toInt = v := ⟨_, rfl⟩
          refine q_iald (Sh.arr hI432.1 ka_208) x429.toInt rfl (by omega) v452 ((eA_c (hF433.2.1 208 (by decide))).trans hv452) ?_
          refine r_istore_n _ rfl ?_
          refine q_iinc (w_p1 (by decide) (Or.inr rfl) e441) (x430.toInt + 1) rfl (by omega) (fun v453 hv453 => ?_)
          refine r_goto ?_
          have bv454 := q_bnd v452
          exact ih436 (12 - v453.toInt) _ _ ⟨v452, v453, by first | rfl | omega, hI432, hF433, (w_p1 (by decide) (Or.inr rfl) (w_p1 (by decide) (Or.inr rfl) e437)), (w_p1 (by decide) (Or.inr rfl) (w_p1 (by decide) (Or.inr rfl) e438)), (w_p1 (by decide) (Or.inr rfl) (w_e1 _ _ _)), (w_p1 (by decide) (Or.inr rfl) (w_p1 (by decide) (Or.inr rfl) e440)), (w_e1 _ _ _), by omega⟩ ⟨by omega, by omega⟩
        · have c451_ : x429.toInt = v315.toInt := en_i_ne_f c451
          refine At.enter rfl ?_
          refine r_iload e441 ?_
          refine r_ireti ?_
          exact ⟨_, rfl, hI432, hF433, _, rfl, by omega⟩

def F_X1_layOut_204 : List (Nat × Nat) := []
def A_X1_layOut_204 : List Nat := [205, 206, 207, 208, 209]
set_option maxRecDepth 100000 in
set_option maxHeartbeats 4000000 in
theorem T_X1_layOut_204 (d : Nat) {N : Nat} {g0 : List en_E} (hI0 : HI g0) (a1 : Int32) : Ev (d + 4) 16 [.ref 204, .int a1] (g0, N) (fun w h' => ∃ g', h' = (g', N) ∧ HI g' ∧ Fr F_X1_layOut_204 A_X1_layOut_204 g0 g' ∧ w = none) := by
  have hF0 : Fr F_X1_layOut_204 A_X1_layOut_204 g0 g0 := Fr.rf
  refine Ev.mk rfl rfl ⟨Nat.le_of_ble_eq_true rfl, Or.inr (q_rc hI0.1 kx_204 rfl)⟩ ?_
  show At _ none _ _ (0, [(0, .ref 204), (1, .int a1)], [], (_, _)) _
  refine At.enter rfl ?_
  refine r_aload_n rfl ?_
  refine q_getR (Sh.ref hI0.1 kx_204 rfl) ?_
  refine q_getR (Sh.ref hI0.1 kx_1 rfl) ?_
  refine r_iconst 0 rfl ?_
  refine r_aload_n rfl ?_
  refine q_getR (Sh.ref hI0.1 kx_204 rfl) ?_
  refine r_iconst 0 rfl ?_
  refine r_bipush 12 rfl ?_
  have zv4723 : (0 : Int32).toInt = 0 := rfl
  have zv4724 : (0 : Int32).toInt = 0 := rfl
  have zv4725 : (12 : Int32).toInt = 12 := rfl
  refine q_cpy rfl (Nat.le_of_ble_eq_true rfl) (Sh.arr hI0.1 ka_3) (Sh.arr hI0.1 ka_205) ⟨by omega, by omega, by omega, by omega, by omega⟩ ?_
  have hI4726 := HI.cpy0 hI0 ka_3 ka_205 rfl rfl ((0 : Int32).toInt.toNat) ((0 : Int32).toInt.toNat) ((12 : Int32).toInt.toNat) (by omega) (by omega)
  have hF4727 := Fr.cpy (p0 := 3) (p1 := 205) hF0 rfl ((0 : Int32).toInt.toNat) ((0 : Int32).toInt.toNat) ((12 : Int32).toInt.toNat)
  refine r_aload_n rfl ?_
  refine q_getR (Sh.ref hI4726.1 kx_204 rfl) ?_
  refine q_getR (Sh.ref hI4726.1 kx_1 rfl) ?_
  refine r_iconst 0 rfl ?_
  refine r_aload_n rfl ?_
  refine q_getR (Sh.ref hI4726.1 kx_204 rfl) ?_
  refine r_iconst 0 rfl ?_
  refine r_bipush 12 rfl ?_
  have zv4728 : (0 : Int32).toInt = 0 := rfl
  have zv4729 : (0 : Int32).toInt = 0 := rfl
  have zv4730 : (12 : Int32).toInt = 12 := rfl
  refine q_cpy rfl (Nat.le_of_ble_eq_true rfl) (Sh.arr hI4726.1 ka_4) (Sh.arr hI4726.1 ka_206) ⟨by omega, by omega, by omega, by omega, by omega⟩ ?_
  have hI4731 := HI.cpy0 hI4726 ka_4 ka_206 rfl rfl ((0 : Int32).toInt.toNat) ((0 : Int32).toInt.toNat) ((12 : Int32).toInt.toNat) (by omega) (by omega)
  have hF4732 := Fr.cpy (p0 := 4) (p1 := 206) hF4727 rfl ((0 : Int32).toInt.toNat) ((0 : Int32).toInt.toNat) ((12 : Int32).toInt.toNat)
  refine r_iconst 0 rfl ?_
  refine r_istore_n ([(2, .int 0), (0, .ref 204), (1, .int a1)]) rfl ?_
  refine Ar.fall 38 rfl ?_
  have z_6850 : (0 : Int32).toInt = 0 := rfl
  refine w_loopI (fun n_ l_ g_ => ∃ x6839 : Int32, n_ = 12 - x6839.toInt ∧ HI g_ ∧ Fr F_X1_layOut_204 A_X1_layOut_204 g0 g_ ∧ en_get 0 l_ = some (.ref 204) ∧ en_get 1 l_ = some (.int a1) ∧ en_get 2 l_ = some (.int x6839) ∧ (0 ≤ x6839.toInt ∧ x6839.toInt ≤ 12)) ?_ (12 - 0) ⟨0, by first | rfl | omega, hI4731, hF4732, rfl, rfl, rfl, by decide⟩
  rintro n6844 l6843 g6840 ⟨x6839, hm6851, hI6841, hF6842, e6846, e6847, e6848, r6849⟩ ih6845
  refine At.enter rfl ?_
  refine r_iload_n e6848 ?_
  refine r_aload_n e6846 ?_
  refine q_getR (Sh.ref hI6841.1 kx_204 rfl) ?_
  obtain ⟨v6852, hv6852⟩ : ∃ v, gI g0 1 0 = v := ⟨_, rfl⟩
  have rv6852 := RgF.at hI0.2.1 (p := 1) (b := 0) rfl
  rw [hv6852] at rv6852
  dsimp only at rv6852
  refine q_getI (Sh.int hI6841.1 kx_1 rfl) v6852 ((hF6842.1 1 0 (by decide)).trans hv6852) ?_
  have bv6854 := q_bnd x6839
  have bv6855 := q_bnd v6852
  refine r_ics 49 rfl (fun c6853 => ?_) (fun c6853 => ?_)
  · have c6853_ : x6839.toInt ≥ v6852.toInt := en_i_ge_t c6853
    refine At.enter rfl ?_
    refine r_iconst 0 rfl ?_
    refine r_istore_n _ rfl ?_
    refine Ar.fall 72 rfl ?_
    have z_7049 : (0 : Int32).toInt = 0 := rfl
    refine w_loopI (fun n_ l_ g_ => ∃ x7038 : Int32, n_ = 8 - x7038.toInt ∧ HI g_ ∧ Fr F_X1_layOut_204 A_X1_layOut_204 g0 g_ ∧ en_get 0 l_ = some (.ref 204) ∧ en_get 1 l_ = some (.int a1) ∧ en_get 2 l_ = some (.int x7038) ∧ (0 ≤ x7038.toInt ∧ x7038.toInt ≤ 8)) ?_ (8 - 0) ⟨0, by first | rfl | omega, hI6841, hF6842, (w_p1 (by decide) (Or.inr rfl) e6846), (w_p1 (by decide) (Or.inr rfl) e6847), (w_e1 _ _ _), by decide⟩
    rintro n7043 l7042 g7039 ⟨x7038, hm7050, hI7040, hF7041, e7045, e7046, e7047, r7048⟩ ih7044
    refine At.enter rfl ?_
    refine r_iload_n e7047 ?_
    refine r_aload_n e7045 ?_
    refine q_getR (Sh.ref hI7040.1 kx_204 rfl) ?_
    obtain ⟨v7051, hv7051⟩ : ∃ v, gI g0 1 4 = v := ⟨_, rfl⟩
    have rv7051 := RgF.at hI0.2.1 (p := 1) (b := 4) rfl
    rw [hv7051] at rv7051
    dsimp only at rv7051
    refine q_getI (Sh.int hI7040.1 kx_1 rfl) v7051 ((hF7041.1 1 4 (by decide)).trans hv7051) ?_
    have bv7053 := q_bnd x7038
    have bv7054 := q_bnd v7051
    refine r_ics 83 rfl (fun c7052 => ?_) (fun c7052 => ?_)
    · have c7052_ : x7038.toInt ≥ v7051.toInt := en_i_ge_t c7052
      refine At.enter rfl ?_
      refine r_vret ?_
      exact ⟨_, rfl, hI7040, hF7041, rfl⟩
    · have c7052_ : x7038.toInt < v7051.toInt := en_i_ge_f c7052
      refine At.enter rfl ?_
      refine r_aload_n e7045 ?_
      refine q_getR (Sh.ref hI7040.1 kx_204 rfl) ?_
      refine r_iload_n e7047 ?_
      refine r_aload_n e7045 ?_
      refine q_getR (Sh.ref hI7040.1 kx_204 rfl) ?_
      refine r_iload_n e7047 ?_
      refine r_iconst 3 rfl ?_
      refine r_callV 97 rfl [.ref 1, .int x7038, .int 3] [.int x7038, .ref 207] (Nat.le_of_ble_eq_true rfl) rfl (T_X0_about_1 _ hI7040 x7038 3) ?_
      rintro _ _ ⟨g7055, rfl, hI7056, hF7057, v7058, rfl, hr7059⟩
      refine At.sti ?_
      have ks7062 := hr7059.2.2
      have hr7061 : _ ∧ _ := ⟨hr7059.1, hr7059.2.1⟩
      have hF7060 := Fr.tr hF7041 hF7057 rfl rfl
      have zv7063 : (3 : Int32).toInt = 3 := rfl
      refine At.enter rfl ?_
      refine q_iast (Sh.arr hI7056.1 ka_207) (x7038.toInt) rfl (by omega) ?_
      have hI7064 := HI.wA0 hI7056 ka_207 (p := 207) rfl rfl (x7038.toInt) (v7058)
      have hF7065 := Fr.wA (p := 207) (j := x7038.toInt) (v := v7058) hF7060 rfl
      refine r_aload_n e7045 ?_
      refine q_getR (Sh.ref hI7064.1 kx_204 rfl) ?_
      refine r_iload_n e7047 ?_
      refine r_aload_n e7045 ?_
      refine r_iload_n e7047 ?_
      refine r_callV 108 rfl [.ref 204, .int x7038] [.int x7038, .ref 209] (Nat.le_of_ble_eq_true rfl) rfl (T_X1_handsToWant_204 _ hI7064 x7038) ?_
      rintro _ _ ⟨g7066, rfl, hI7067, hF7068, v7069, rfl, hr7070⟩
      refine At.sti ?_
      have hF7071 := Fr.tr hF7065 hF7068 rfl rfl
      refine At.enter rfl ?_
      refine q_iast (Sh.arr hI7067.1 ka_209) (x7038.toInt) rfl (by omega) ?_
      have hI7072 := HI.wA0 hI7067 ka_209 (p := 209) rfl rfl (x7038.toInt) (v7069)
      have hF7073 := Fr.wA (p := 209) (j := x7038.toInt) (v := v7069) hF7071 rfl
      refine q_iinc e7047 (x7038.toInt + 1) rfl (by omega) (fun v7074 hv7074 => ?_)
      refine r_goto ?_
      exact ih7044 (8 - v7074.toInt) _ _ ⟨v7074, by first | rfl | omega, hI7072, hF7073, (w_p1 (by decide) (Or.inr rfl) e7045), (w_p1 (by decide) (Or.inr rfl) e7046), (w_e1 _ _ _), by omega⟩ ⟨by omega, by omega⟩
  · have c6853_ : x6839.toInt < v6852.toInt := en_i_ge_f c6853
    refine At.enter rfl ?_
    refine r_aload_n e6846 ?_
    refine q_getR (Sh.ref hI6841.1 kx_204 rfl) ?_
    refine r_iload_n e6848 ?_
    refine r_aload_n e6846 ?_
    refine q_getR (Sh.ref hI6841.1 kx_204 rfl) ?_
    refine r_iload_n e6848 ?_
    refine r_iload_n e6847 ?_
    refine r_callV 63 rfl [.ref 1, .int x6839, .int a1] [.int x6839, .ref 208] (Nat.le_of_ble_eq_true rfl) rfl (T_X0_nextPast_1 _ hI6841 x6839 a1) ?_
    rintro _ _ ⟨g7075, rfl, hI7076, hF7077, v7078, rfl, hr7079⟩
    refine At.sti ?_
    have hF7080 := Fr.tr hF6842 hF7077 rfl rfl
    refine At.enter rfl ?_
    refine q_iast (Sh.arr hI7076.1 ka_208) (x6839.toInt) rfl (by omega) ?_
    have hI7081 := HI.wA0 hI7076 ka_208 (p := 208) rfl rfl (x6839.toInt) (v7078)
    have hF7082 := Fr.wA (p := 208) (j := x6839.toInt) (v := v7078) hF7080 rfl
    refine q_iinc e6848 (x6839.toInt + 1) rfl (by omega) (fun v7083 hv7083 => ?_)
    refine r_goto ?_
    exact ih6845 (12 - v7083.toInt) _ _ ⟨v7083, by first | rfl | omega, hI7081, hF7082, (w_p1 (by decide) (Or.inr rfl) e6846), (w_p1 (by decide) (Or.inr rfl) e6847), (w_e1 _ _ _), by omega⟩ ⟨by omega, by omega⟩
