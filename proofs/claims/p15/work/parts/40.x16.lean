def F_X1_comeByNoon_204 : List (Nat × Nat) := []
def A_X1_comeByNoon_204 : List Nat := []
set_option maxRecDepth 100000 in
set_option maxHeartbeats 4000000 in
theorem T_X1_comeByNoon_204 (d : Nat) {N : Nat} {g0 : List en_E} (hI0 : HI g0) : Ev (d + 1) 32 [.ref 204] (g0, N) (fun w h' => ∃ g', h' = (g', N) ∧ HI g' ∧ Fr F_X1_comeByNoon_204 A_X1_comeByNoon_204 g0 g' ∧ ∃ r : Int32, w = some (.int r) ∧ True) := by
  have hF0 : Fr F_X1_comeByNoon_204 A_X1_comeByNoon_204 g0 g0 := Fr.rf
  refine Ev.mk rfl rfl ⟨Nat.le_of_ble_eq_true rfl, Or.inr (q_rc hI0.1 kx_204 rfl)⟩ ?_
  show At _ none _ _ (0, [(0, .ref 204)], [], (_, _)) _
  refine At.enter rfl ?_
  refine r_iconst 0 rfl ?_
  refine r_istore_n ([(1, .int 0), (0, .ref 204)]) rfl ?_
  refine r_iconst 0 rfl ?_
  refine r_istore_n ([(2, .int 0), (1, .int 0), (0, .ref 204)]) rfl ?_
  refine Ar.fall 4 rfl ?_
  have z_1193 : (0 : Int32).toInt = 0 := rfl
  have z_1194 : (0 : Int32).toInt = 0 := rfl
  refine w_loopI (fun n_ l_ g_ => ∃ x1181 : Int32, ∃ x1182 : Int32, n_ = 8 - x1182.toInt ∧ HI g_ ∧ Fr F_X1_comeByNoon_204 A_X1_comeByNoon_204 g0 g_ ∧ en_get 0 l_ = some (.ref 204) ∧ en_get 1 l_ = some (.int x1181) ∧ en_get 2 l_ = some (.int x1182) ∧ (0 ≤ x1182.toInt ∧ x1182.toInt ≤ 8)) ?_ (8 - 0) ⟨0, 0, by first | rfl | omega, hI0, hF0, rfl, rfl, rfl, by decide⟩
  rintro n1187 l1186 g1183 ⟨x1181, x1182, hm1195, hI1184, hF1185, e1189, e1190, e1191, r1192⟩ ih1188
  refine At.enter rfl ?_
  refine r_iload_n e1191 ?_
  refine r_aload_n e1189 ?_
  refine q_getR (Sh.ref hI1184.1 kx_204 rfl) ?_
  obtain ⟨v1196, hv1196⟩ : ∃ v, gI g0 1 4 = v := ⟨_, rfl⟩
  have rv1196 := RgF.at hI0.2.1 (p := 1) (b := 4) rfl
  rw [hv1196] at rv1196
  dsimp only at rv1196
  refine q_getI (Sh.int hI1184.1 kx_1 rfl) v1196 ((hF1185.1 1 4 (by decide)).trans hv1196) ?_
  have bv1198 := q_bnd x1182
  have bv1199 := q_bnd v1196
  refine r_ics 15 rfl (fun c1197 => ?_) (fun c1197 => ?_)
  · have c1197_ : x1182.toInt ≥ v1196.toInt := en_i_ge_t c1197
    refine At.enter rfl ?_
    refine r_iload_n e1190 ?_
    refine r_ireti ?_
    exact ⟨_, rfl, hI1184, hF1185, _, rfl, trivial⟩
  · have c1197_ : x1182.toInt < v1196.toInt := en_i_ge_f c1197
    refine At.enter rfl ?_
    refine r_aload_n e1189 ?_
    refine q_getR (Sh.ref hI1184.1 kx_204 rfl) ?_
    refine r_iload_n e1191 ?_
    obtain ⟨v1200, hv1200⟩ : ∃ v, eA g0 212 x1182.toInt = v := ⟨_, rfl⟩
    refine q_iald (Sh.arr hI1184.1 ka_212) x1182.toInt rfl (by omega) v1200 ((eA_c (hF1185.2.1 212 (by decide))).trans hv1200) ?_
    refine r_iconst (-1) rfl ?_
    refine r_ics 25 rfl (fun c1201 => ?_) (fun c1201 => ?_)
    · have c1201_ : v1200.toInt = (-1) := en_i_eq_t c1201
      refine At.enter rfl ?_
      refine q_iinc e1191 (x1182.toInt + 1) rfl (by omega) (fun v1202 hv1202 => ?_)
      refine r_goto ?_
      have bv1203 := q_bnd x1181
      exact ih1188 (8 - v1202.toInt) _ _ ⟨x1181, v1202, by first | rfl | omega, hI1184, hF1185, (w_p1 (by decide) (Or.inr rfl) e1189), (w_p1 (by decide) (Or.inr rfl) e1190), (w_e1 _ _ _), by omega⟩ ⟨by omega, by omega⟩
    · have c1201_ : v1200.toInt ≠ (-1) := en_i_eq_f c1201
      refine At.enter rfl ?_
      refine r_aload_n e1189 ?_
      refine q_getR (Sh.ref hI1184.1 kx_204 rfl) ?_
      refine r_iload_n e1191 ?_
      refine q_iald (Sh.arr hI1184.1 ka_212) x1182.toInt rfl (by omega) v1200 ((eA_c (hF1185.2.1 212 (by decide))).trans hv1200) ?_
      refine r_aload_n e1189 ?_
      refine q_getR (Sh.ref hI1184.1 kx_204 rfl) ?_
      obtain ⟨v1204, hv1204⟩ : ∃ v, gI g0 1 10 = v := ⟨_, rfl⟩
      refine q_getI (Sh.int hI1184.1 kx_1 rfl) v1204 ((hF1185.1 1 10 (by decide)).trans hv1204) ?_
      have bv1206 := q_bnd v1200
      have bv1207 := q_bnd v1204
      refine r_ics 41 rfl (fun c1205 => ?_) (fun c1205 => ?_)
      · have c1205_ : v1200.toInt > v1204.toInt := en_i_gt_t c1205
        refine At.enter rfl ?_
        refine q_iinc e1191 (x1182.toInt + 1) rfl (by omega) (fun v1208 hv1208 => ?_)
        refine r_goto ?_
        have bv1209 := q_bnd x1181
        exact ih1188 (8 - v1208.toInt) _ _ ⟨x1181, v1208, by first | rfl | omega, hI1184, hF1185, (w_p1 (by decide) (Or.inr rfl) e1189), (w_p1 (by decide) (Or.inr rfl) e1190), (w_e1 _ _ _), by omega⟩ ⟨by omega, by omega⟩
      · have c1205_ : v1200.toInt ≤ v1204.toInt := en_i_gt_f c1205
        refine At.enter rfl ?_
        refine q_iincO e1190 (fun v1210 _ => ?_)
        refine Ar.fall 44 rfl ?_
        refine At.enter rfl ?_
        refine q_iinc (w_p1 (by decide) (Or.inr rfl) e1191) (x1182.toInt + 1) rfl (by omega) (fun v1211 hv1211 => ?_)
        refine r_goto ?_
        have bv1212 := q_bnd v1210
        exact ih1188 (8 - v1211.toInt) _ _ ⟨v1210, v1211, by first | rfl | omega, hI1184, hF1185, (w_p1 (by decide) (Or.inr rfl) (w_p1 (by decide) (Or.inr rfl) e1189)), (w_p1 (by decide) (Or.inr rfl) (w_e1 _ _ _)), (w_e1 _ _ _), by omega⟩ ⟨by omega, by omega⟩

def F_X1_failures_204 : List (Nat × Nat) := []
def A_X1_failures_204 : List Nat := []
set_option maxRecDepth 100000 in
set_option maxHeartbeats 4000000 in
theorem T_X1_failures_204 (d : Nat) {N : Nat} {g0 : List en_E} (hI0 : HI g0) : Ev (d + 1) 33 [.ref 204] (g0, N) (fun w h' => ∃ g', h' = (g', N) ∧ HI g' ∧ Fr F_X1_failures_204 A_X1_failures_204 g0 g' ∧ ∃ r : Int32, w = some (.int r) ∧ True) := by
  have hF0 : Fr F_X1_failures_204 A_X1_failures_204 g0 g0 := Fr.rf
  refine Ev.mk rfl rfl ⟨Nat.le_of_ble_eq_true rfl, Or.inr (q_rc hI0.1 kx_204 rfl)⟩ ?_
  show At _ none _ _ (0, [(0, .ref 204)], [], (_, _)) _
  refine At.enter rfl ?_
  refine r_iconst 0 rfl ?_
  refine r_istore_n ([(1, .int 0), (0, .ref 204)]) rfl ?_
  refine r_iconst 0 rfl ?_
  refine r_istore_n ([(2, .int 0), (1, .int 0), (0, .ref 204)]) rfl ?_
  refine Ar.fall 4 rfl ?_
  have z_853 : (0 : Int32).toInt = 0 := rfl
  have z_854 : (0 : Int32).toInt = 0 := rfl
  refine w_loopI (fun n_ l_ g_ => ∃ x841 : Int32, ∃ x842 : Int32, n_ = 8 - x842.toInt ∧ HI g_ ∧ Fr F_X1_failures_204 A_X1_failures_204 g0 g_ ∧ en_get 0 l_ = some (.ref 204) ∧ en_get 1 l_ = some (.int x841) ∧ en_get 2 l_ = some (.int x842) ∧ (0 ≤ x842.toInt ∧ x842.toInt ≤ 8)) ?_ (8 - 0) ⟨0, 0, by first | rfl | omega, hI0, hF0, rfl, rfl, rfl, by decide⟩
  rintro n847 l846 g843 ⟨x841, x842, hm855, hI844, hF845, e849, e850, e851, r852⟩ ih848
  refine At.enter rfl ?_
  refine r_iload_n e851 ?_
  refine r_aload_n e849 ?_
  refine q_getR (Sh.ref hI844.1 kx_204 rfl) ?_
  obtain ⟨v856, hv856⟩ : ∃ v, gI g0 1 4 = v := ⟨_, rfl⟩
  have rv856 := RgF.at hI0.2.1 (p := 1) (b := 4) rfl
  rw [hv856] at rv856
  dsimp only at rv856
  refine q_getI (Sh.int hI844.1 kx_1 rfl) v856 ((hF845.1 1 4 (by decide)).trans hv856) ?_
  have bv858 := q_bnd x842
  have bv859 := q_bnd v856
  refine r_ics 15 rfl (fun c857 => ?_) (fun c857 => ?_)
  · have c857_ : x842.toInt ≥ v856.toInt := en_i_ge_t c857
    refine At.enter rfl ?_
    refine r_iload_n e850 ?_
    refine r_ireti ?_
    exact ⟨_, rfl, hI844, hF845, _, rfl, trivial⟩
  · have c857_ : x842.toInt < v856.toInt := en_i_ge_f c857
    refine At.enter rfl ?_
    refine r_aload_n e849 ?_
    refine q_getR (Sh.ref hI844.1 kx_204 rfl) ?_
    refine r_iload_n e851 ?_
    obtain ⟨v860, hv860⟩ : ∃ v, eA g0 212 x842.toInt = v := ⟨_, rfl⟩
    refine q_iald (Sh.arr hI844.1 ka_212) x842.toInt rfl (by omega) v860 ((eA_c (hF845.2.1 212 (by decide))).trans hv860) ?_
    refine r_iconst (-1) rfl ?_
    refine r_ics 25 rfl (fun c861 => ?_) (fun c861 => ?_)
    · have c861_ : v860.toInt ≠ (-1) := en_i_ne_t c861
      refine At.enter rfl ?_
      refine q_iinc e851 (x842.toInt + 1) rfl (by omega) (fun v862 hv862 => ?_)
      refine r_goto ?_
      have bv863 := q_bnd x841
      exact ih848 (8 - v862.toInt) _ _ ⟨x841, v862, by first | rfl | omega, hI844, hF845, (w_p1 (by decide) (Or.inr rfl) e849), (w_p1 (by decide) (Or.inr rfl) e850), (w_e1 _ _ _), by omega⟩ ⟨by omega, by omega⟩
    · have c861_ : v860.toInt = (-1) := en_i_ne_f c861
      refine At.enter rfl ?_
      refine q_iincO e850 (fun v864 _ => ?_)
      refine Ar.fall 28 rfl ?_
      refine At.enter rfl ?_
      refine q_iinc (w_p1 (by decide) (Or.inr rfl) e851) (x842.toInt + 1) rfl (by omega) (fun v865 hv865 => ?_)
      refine r_goto ?_
      have bv866 := q_bnd v864
      exact ih848 (8 - v865.toInt) _ _ ⟨v864, v865, by first | rfl | omega, hI844, hF845, (w_p1 (by decide) (Or.inr rfl) (w_p1 (by decide) (Or.inr rfl) e849)), (w_p1 (by decide) (Or.inr rfl) (w_e1 _ _ _)), (w_e1 _ _ _), by omega⟩ ⟨by omega, by omega⟩

def F_X1_isStuck_188 : List (Nat × Nat) := [(185, 3)]
def A_X1_isStuck_188 : List Nat := []
set_option maxRecDepth 100000 in
set_option maxHeartbeats 4000000 in
theorem T_X1_isStuck_188 (d : Nat) {N : Nat} {g0 : List en_E} (hI0 : HI g0) (a1 : Int32) (h_a1 : 0 ≤ a1.toInt ∧ a1.toInt ≤ 7) : Ev (d + 4) 35 [.ref 188, .int a1] (g0, N) (fun w h' => ∃ g', h' = (g', N) ∧ HI g' ∧ Fr F_X1_isStuck_188 A_X1_isStuck_188 g0 g' ∧ ∃ r : Int32, w = some (.int r) ∧ (0 ≤ r.toInt ∧ r.toInt ≤ 1)) := by
  have hF0 : Fr F_X1_isStuck_188 A_X1_isStuck_188 g0 g0 := Fr.rf
  refine Ev.mk rfl rfl ⟨Nat.le_of_ble_eq_true rfl, Or.inr (q_rc hI0.1 kx_188 rfl)⟩ ?_
  show At _ none _ _ (0, [(0, .ref 188), (1, .int a1)], [], (_, _)) _
  refine At.enter rfl ?_
  refine r_aload_n rfl ?_
  refine q_getR (Sh.ref hI0.1 kx_188 rfl) ?_
  refine r_iload_n rfl ?_
  obtain ⟨v71, hv71⟩ : ∃ v, eA g0 195 a1.toInt = v := ⟨_, rfl⟩
  refine q_iald (Sh.arr hI0.1 ka_195) a1.toInt rfl (by omega) v71 hv71 ?_
  refine r_istore_n ([(2, .int v71), (0, .ref 188), (1, .int a1)]) rfl ?_
  refine r_aload_n rfl ?_
  refine q_getR (Sh.ref hI0.1 kx_188 rfl) ?_
  refine r_iload_n rfl ?_
  refine q_inlV 15 rfl [.ref 1, .int v71] [] (Nat.le_of_ble_eq_true rfl) rfl ?_
  refine Ev.mk rfl rfl ⟨Nat.le_of_ble_eq_true rfl, Or.inr (q_rc hI0.1 kx_1 rfl)⟩ ?_
  show At _ none _ _ (0, [(0, .ref 1), (1, .int v71)], [], (_, _)) _
  refine At.enter rfl ?_
  refine r_iload_n rfl ?_
  refine r_ifs 4 rfl (fun c72 => ?_) (fun c72 => ?_)
  · have c72_ : v71.toInt < 0 := en_k_lt_t c72
    refine At.enter rfl ?_
    refine r_iconst 0 rfl ?_
    refine Ar.fall 17 rfl ?_
    refine At.enter rfl ?_
    refine q_iretz (by decide) ?_
    refine At.enter rfl ?_
    refine r_iff 18 rfl (by decide) ?_
    refine At.enter rfl ?_
    refine r_iconst 0 rfl ?_
    refine r_iretz (by decide) ?_
    exact ⟨_, rfl, hI0, hF0, _, rfl, by decide⟩
  · have c72_ : v71.toInt ≥ 0 := en_k_lt_f c72
    refine At.enter rfl ?_
    refine r_iload_n rfl ?_
    refine r_aload_n rfl ?_
    obtain ⟨v73, hv73⟩ : ∃ v, gI g0 1 0 = v := ⟨_, rfl⟩
    have rv73 := RgF.at hI0.2.1 (p := 1) (b := 0) rfl
    rw [hv73] at rv73
    dsimp only at rv73
    refine q_getI (Sh.int hI0.1 kx_1 rfl) v73 hv73 ?_
    have bv75 := q_bnd v71
    have bv76 := q_bnd v73
    refine r_ics 12 rfl (fun c74 => ?_) (fun c74 => ?_)
    · have c74_ : v71.toInt ≥ v73.toInt := en_i_ge_t c74
      refine At.enter rfl ?_
      refine r_iconst 0 rfl ?_
      refine Ar.fall 17 rfl ?_
      refine At.enter rfl ?_
      refine q_iretz (by decide) ?_
      refine At.enter rfl ?_
      refine r_iff 18 rfl (by decide) ?_
      refine At.enter rfl ?_
      refine r_iconst 0 rfl ?_
      refine r_iretz (by decide) ?_
      exact ⟨_, rfl, hI0, hF0, _, rfl, by decide⟩
    · have c74_ : v71.toInt < v73.toInt := en_i_ge_f c74
      refine At.enter rfl ?_
      refine r_iconst 1 rfl ?_
      refine r_goto ?_
      refine At.enter rfl ?_
      refine q_iretz (by decide) ?_
      refine At.enter rfl ?_
      refine r_ift (by decide) ?_
      refine At.enter rfl ?_
      refine r_aload_n rfl ?_
      refine q_getR (Sh.ref hI0.1 kx_188 rfl) ?_
      refine r_iload_n rfl ?_
      obtain ⟨v77, hv77⟩ : ∃ v, eA g0 192 v71.toInt = v := ⟨_, rfl⟩
      refine q_iald (Sh.arr hI0.1 ka_192) v71.toInt rfl (by omega) v77 hv77 ?_
      refine r_istore_n ([(3, .int v77), (2, .int v71), (0, .ref 188), (1, .int a1)]) rfl ?_
      refine r_iload_n rfl ?_
      refine r_iconst (-1) rfl ?_
      refine r_ics 32 rfl (fun c78 => ?_) (fun c78 => ?_)
      · have c78_ : v77.toInt = (-1) := en_i_eq_t c78
        refine At.enter rfl ?_
        refine r_iconst 0 rfl ?_
        refine r_iretz (by decide) ?_
        exact ⟨_, rfl, hI0, hF0, _, rfl, by decide⟩
      · have c78_ : v77.toInt ≠ (-1) := en_i_eq_f c78
        refine At.enter rfl ?_
        refine r_iload_n rfl ?_
        refine r_aload_n rfl ?_
        refine q_getR (Sh.ref hI0.1 kx_188 rfl) ?_
        refine r_iload_n rfl ?_
        refine r_iconst 2 rfl ?_
        refine r_callV 42 rfl [.ref 1, .int a1, .int 2] [.int v77] (Nat.le_of_ble_eq_true rfl) rfl (T_X0_about_1 _ hI0 a1 2) ?_
        rintro _ _ ⟨g79, rfl, hI80, hF81, v82, rfl, hr83⟩
        refine At.sti ?_
        have hF84 := Fr.tr hF0 hF81 rfl rfl
        refine At.enter rfl ?_
        refine r_ics 45 rfl (fun c85 => ?_) (fun c85 => ?_)
        · have c85_ : v77.toInt = v82.toInt := en_i_eq_t c85
          refine At.enter rfl ?_
          refine r_iconst 0 rfl ?_
          refine r_iretz (by decide) ?_
          exact ⟨_, rfl, hI80, hF84, _, rfl, by decide⟩
        · have c85_ : v77.toInt ≠ v82.toInt := en_i_eq_f c85
          refine At.enter rfl ?_
          refine r_aload_n rfl ?_
          refine r_iload_n rfl ?_
          refine r_iload_n rfl ?_
          refine r_callV 51 rfl [.ref 188, .int v77, .int a1] [] (Nat.le_of_ble_eq_true rfl) rfl (T_X1_canHold_188 _ hI80 v77 a1) ?_
          rintro _ _ ⟨g86, rfl, hI87, hF88, v89, rfl, hr90⟩
          refine At.sti ?_
          have hF91 := Fr.tr hF84 hF88 rfl rfl
          refine At.enter rfl ?_
          refine r_ifs 54 rfl (fun c92 => ?_) (fun c92 => ?_)
          · have c92_ : v89.toInt = 0 := en_k_eq_t c92
            refine At.enter rfl ?_
            refine r_iconst 0 rfl ?_
            refine r_aload_n rfl ?_
            refine q_getR (Sh.ref hI87.1 kx_188 rfl) ?_
            refine r_iload_n rfl ?_
            obtain ⟨v93, hv93⟩ : ∃ v, eA g0 198 a1.toInt = v := ⟨_, rfl⟩
            refine q_iald (Sh.arr hI87.1 ka_198) a1.toInt rfl (by omega) v93 ((eA_c ((hF88.2.1 198 ma_X1_canHold_188_198).trans (hF81.2.1 198 ma_X0_about_1_198))).trans hv93) ?_
            refine r_iconst 1 rfl ?_
            refine q_isubO (fun v94 _ => ?_)
            refine q_mmax rfl (Nat.le_of_ble_eq_true rfl) (fun v95 hv95 => ?_)
            have zv96 : (0 : Int32).toInt = 0 := rfl
            refine r_istore ([(4, .int v95), (3, .int v77), (2, .int v71), (0, .ref 188), (1, .int a1)]) rfl ?_
            refine r_aload_n rfl ?_
            refine q_getR (Sh.ref hI87.1 kx_188 rfl) ?_
            refine r_iconst 2 rfl ?_
            refine r_iload_n rfl ?_
            refine r_iload_n rfl ?_
            refine r_bipush 99 rfl ?_
            refine r_iload rfl ?_
            refine r_aload_n rfl ?_
            refine q_getR (Sh.ref hI87.1 kx_188 rfl) ?_
            refine r_iload_n rfl ?_
            obtain ⟨v97, hv97⟩ : ∃ v, eA g0 189 v71.toInt = v := ⟨_, rfl⟩
            refine q_iald (Sh.arr hI87.1 ka_189) v71.toInt rfl (by omega) v97 ((eA_c ((hF88.2.1 189 ma_X1_canHold_188_189).trans (hF81.2.1 189 ma_X0_about_1_189))).trans hv97) ?_
            refine r_aload_n rfl ?_
            refine q_getR (Sh.ref hI87.1 kx_188 rfl) ?_
            refine r_iload_n rfl ?_
            obtain ⟨v98, hv98⟩ : ∃ v, eA g0 190 v71.toInt = v := ⟨_, rfl⟩
            refine q_iald (Sh.arr hI87.1 ka_190) v71.toInt rfl (by omega) v98 ((eA_c ((hF88.2.1 190 ma_X1_canHold_188_190).trans (hF81.2.1 190 ma_X0_about_1_190))).trans hv98) ?_
            refine r_callV 96 rfl [.ref 185, .int 2, .int a1, .int v71, .int 99, .int v95, .int v97, .int v98] [] (Nat.le_of_ble_eq_true rfl) rfl (T_X3_tells_185 _ hI87 2 a1 v71 99 v95 v97 v98) ?_
            rintro _ _ ⟨g99, rfl, hI100, hF101, v102, rfl, hr103⟩
            refine At.stl ?_
            have hF104 := Fr.tr hF91 hF101 rfl rfl
            refine At.enter rfl ?_
            refine r_lconst 0 rfl ?_
            refine r_lcmp _ rfl ?_
            refine r_ifs 101 rfl (fun c105 => ?_) (fun c105 => ?_)
            · have c105_ : v102.toInt ≠ 0 := en_j_ne_t c105
              refine At.enter rfl ?_
              refine r_iconst 0 rfl ?_
              refine Ar.fall 106 rfl ?_
              refine At.enter rfl ?_
              refine r_iretz (by decide) ?_
              exact ⟨_, rfl, hI100, hF104, _, rfl, by decide⟩
            · have c105_ : v102.toInt = 0 := en_j_ne_f c105
              refine At.enter rfl ?_
              refine r_iconst 1 rfl ?_
              refine r_goto ?_
              refine At.enter rfl ?_
              refine r_iretz (by decide) ?_
              exact ⟨_, rfl, hI100, hF104, _, rfl, by decide⟩
          · have c92_ : v89.toInt ≠ 0 := en_k_eq_f c92
            refine At.enter rfl ?_
            refine r_iconst 0 rfl ?_
            refine r_iretz (by decide) ?_
            exact ⟨_, rfl, hI87, hF91, _, rfl, by decide⟩
