def F_X1_comeByNoon_204 : List (Nat × Nat) := []
def A_X1_comeByNoon_204 : List Nat := []
set_option maxRecDepth 100000 in
set_option maxHeartbeats 4000000 in
theorem T_X1_comeByNoon_204 (d : Nat) {N : Nat} {g0 : List en_E} (hI0 : HI g0) : Ev (d + 1) 32 [.ref 204] (g0, N) (fun w h' => ∃ g', h' = (g', N) ∧ HI g' ∧ Fr F_X1_comeByNoon_204 A_X1_comeByNoon_204 g0 g' ∧ ∃ r : Int32, w = some (.int r) ∧ True) := by
  have hF0 : Fr F_X1_comeByNoon_204 A_X1_comeByNoon_204 g0 g0 := Fr.rf
  refine Ev.mk rfl rfl ⟨Nat.le_of_ble_eq_true rfl, Or.inr (q_rc hI0.1 kx_204 rfl)⟩ ?_
  show At _ none _ _ (0, [(0, .ref 204)], [], (_, _)) _
  refine At.enter rfl ?_
  refine r_iconst 0 rfl ?_
  refine r_istore_n ([(1, .int 0), (0, .ref 204)]) rfl ?_
  refine r_iconst 0 rfl ?_
  refine r_istore_n ([(2, .int 0), (1, .int 0), (0, .ref 204)]) rfl ?_
  refine Ar.fall 4 rfl ?_
  have z_1193 : (0 : Int32).toInt = 0 := rfl
  have z_1194 : (0 : Int32).toInt = 0 := rfl
  refine w_loopI (fun n_ l_ g_ => ∃ x1181 : Int32, ∃ x1182 : Int32, n_ = 8 - x1182.toInt ∧ HI g_ ∧ Fr F_X1_comeByNoon_204 A_X1_comeByNoon_204 g0 g_ ∧ en_get 0 l_ = some (.ref 204) ∧ en_get 1 l_ = some (.int x1181) ∧ en_get 2 l_ = some (.int x1182) ∧ (0 ≤ x1182.toInt ∧ x1182.toInt ≤ 8)) ?_ (8 - 0) ⟨0, 0, by first | rfl | omega, hI0, hF0, rfl, rfl, rfl, by decide⟩
  rintro n1187 l1186 g1183 ⟨x1181, x1182, hm1195, hI1184, hF1185, e1189, e1190, e1191, r1192⟩ ih1188
  refine At.enter rfl ?_
  refine r_iload_n e1191 ?_
  refine r_aload_n e1189 ?_
  refine q_getR (Sh.ref hI1184.1 kx_204 rfl) ?_
  obtain ⟨v1196, hv1196⟩ : ∃ v, gI g0 1 4 = v := ⟨_, rfl⟩
  have rv1196 := RgF.at hI0.2.1 (p := 1) (b := 4) rfl
  rw [hv1196] at rv1196
  dsimp only at rv1196
  refine q_getI (Sh.int hI1184.1 kx_1 rfl) v1196 ((hF1185.1 1 4 (by decide)).trans hv1196) ?_
  have bv1198 := q_bnd x1182
  have bv1199 := q_bnd v1196
  refine r_ics 15 rfl (fun c1197 => ?_) (fun c1197 => ?_)
  · have c1197_ : x1182.toInt ≥ v1196.toInt := en_i_ge_t c1197
    refine At.enter rfl ?_
    refine r_iload_n e1190 ?_
    refine r_ireti ?_
    exact ⟨_, rfl, hI1184, hF1185, _, rfl, trivial⟩
  · have c1197_ : x1182.toInt < v1196.toInt := en_i_ge_f c1197
    refine At.enter rfl ?_
    refine r_aload_n e1189 ?_
    refine q_getR (Sh.ref hI1184.1 kx_204 rfl) ?_
    refine r_iload_n e1191 ?_
    obtain ⟨v1200, hv1200⟩ : ∃ v, eA g0 212 x1182.toInt = v := ⟨_, rfl⟩
    refine q_iald (Sh.arr hI1184.1 ka_212) x1182.toInt rfl (by omega) v1200 ((eA_c (hF1185.2.1 212 (by decide))).trans hv1200) ?_
    refine r_iconst (-1) rfl ?_
    refine r_ics 25 rfl (fun c1201 => ?_) (fun c1201 => ?_)
    · have c1201_ : v1200.toInt = (-1) := en_i_eq_t c1201
      refine At.enter rfl ?_
      refine q_iinc e1191 (x1182.toInt + 1) rfl (by omega) (fun v1202 hv1202 => ?_)
      refine r_goto ?_
      have bv1203 := q_bnd x1181
      exact ih1188 (8 - v1202.toInt) _ _ ⟨x1181, v1202, by first | rfl | omega, hI1184, hF1185, (w_p1 (by decide) (Or.inr rfl) e1189), (w_p1 (by decide) (Or.inr rfl) e1190), (w_e1 _ _ _), by omega⟩ ⟨by omega, by omega⟩
    · have c1201_ : v1200.toInt ≠ (-1) := en_i_eq_f c1201
      refine At.enter rfl ?_
      refine r_aload_n e1189 ?_
      refine q_getR (Sh.ref hI1184.1 kx_204 rfl) ?_
      refine r_iload_n e1191 ?_
      refine q_iald (Sh.arr hI1184.1 ka_212) x1182.toInt rfl (by omega) v1200 ((eA_c (hF1185.2.1 212 (by decide))).trans hv1200) ?_
      refine r_aload_n e1189 ?_
      refine q_getR (Sh.ref hI1184.1 kx_204 rfl) ?_
      obtain ⟨v1204, hv1204⟩ : ∃ v, gI g0 1 10 = v := ⟨_, rfl⟩
      refine q_getI (Sh.int hI1184.1 kx_1 rfl) v1204 ((hF1185.1 1 10 (by decide)).trans hv1204) ?_
      have bv1206 := q_bnd v1200
      have bv1207 := q_bnd v1204
      refine r_ics 41 rfl (fun c1205 => ?_) (fun c1205 => ?_)
      · have c1205_ : v1200.toInt > v1204.toInt := en_i_gt_t c1205
        refine At.enter rfl ?_
        refine q_iinc e1191 (x1182.toInt + 1) rfl (by omega) (fun v1208 hv1208 => ?_)
        refine r_goto ?_
        have bv1209 := q_bnd x1181
        exact ih1188 (8 - v1208.toInt) _ _ ⟨x1181, v1208, by first | rfl | omega, hI1184, hF1185, (w_p1 (by decide) (Or.inr rfl) e1189), (w_p1 (by decide) (Or.inr rfl) e1190), (w_e1 _ _ _), by omega⟩ ⟨by omega, by omega⟩
      · have c1205_ : v1200.toInt ≤ v1204.toInt := en_i_gt_f c1205
        refine At.enter rfl ?_
        refine q_iincO e1190 (fun v1210 _ => ?_)
        refine Ar.fall 44 rfl ?_
        refine At.enter rfl ?_
        refine q_iinc (w_p1 (by decide) (Or.inr rfl) e1191) (x1182.toInt + 1) rfl (by omega) (fun v1211 hv1211 => ?_)
        refine r_goto ?_
        have bv1212 := q_bnd v1210
        exact ih1188 (8 - v1211.toInt) _ _ ⟨v1210, v1211, by first | rfl | omega, hI1184, hF1185, (w_p1 (by decide) (Or.inr rfl) (w_p1 (by decide) (Or.inr rfl) e1189)), (w_p1 (by decide) (Or.inr rfl) (w_e1 _ _ _)), (w_e1 _ _ _), by omega⟩ ⟨by omega, by omega⟩

def F_X1_failures_204 : List (Nat × Nat) := []
def A_X1_failures_204 : List Nat := []
set_option maxRecDepth 100000 in
set_option maxHeartbeats 4000000 in
theorem T_X1_failures_204 (d : Nat) {N : Nat} {g0 : List en_E} (hI0 : HI g0) : Ev (d + 1) 33 [.ref 204] (g0, N) (fun w h' => ∃ g', h' = (g', N) ∧ HI g' ∧ Fr F_X1_failures_204 A_X1_failures_204 g0 g' ∧ ∃ r : Int32, w = some (.int r) ∧ True) := by
  have hF0 : Fr F_X1_failures_204 A_X1_failures_204 g0 g0 := Fr.rf
  refine Ev.mk rfl rfl ⟨Nat.le_of_ble_eq_true rfl, Or.inr (q_rc hI0.1 kx_204 rfl)⟩ ?_
  show At _ none _ _ (0, [(0, .ref 204)], [], (_, _)) _
  refine At.enter rfl ?_
  refine r_iconst 0 rfl ?_
  refine r_istore_n ([(1, .int 0), (0, .ref 204)]) rfl ?_
  refine r_iconst 0 rfl ?_
  refine r_istore_n ([(2, .int 0), (1, .int 0), (0, .ref 204)]) rfl ?_
  refine Ar.fall 4 rfl ?_
  have z_853 : (0 : Int32).toInt = 0 := rfl
  have z_854 : (0 : Int32).toInt = 0 := rfl
  refine w_loopI (fun n_ l_ g_ => ∃ x841 : Int32, ∃ x842 : Int32, n_ = 8 - x842.toInt ∧ HI g_ ∧ Fr F_X1_failures_204 A_X1_failures_204 g0 g_ ∧ en_get 0 l_ = some (.ref 204) ∧ en_get 1 l_ = some (.int x841) ∧ en_get 2 l_ = some (.int x842) ∧ (0 ≤ x842.toInt ∧ x842.toInt ≤ 8)) ?_ (8 - 0) ⟨0, 0, by first | rfl | omega, hI0, hF0, rfl, rfl, rfl, by decide⟩
  rintro n847 l846 g843 ⟨x841, x842, hm855, hI844, hF845, e849, e850, e851, r852⟩ ih848
  refine At.enter rfl ?_
  refine r_iload_n e851 ?_
  refine r_aload_n e849 ?_
  refine q_getR (Sh.ref hI844.1 kx_204 rfl) ?_
  obtain ⟨v856, hv856⟩ : ∃ v, gI g0 1 4 = v := ⟨_, rfl⟩
  have rv856 := RgF.at hI0.2.1 (p := 1) (b := 4) rfl
  rw [hv856] at rv856
  dsimp only at rv856
  refine q_getI (Sh.int hI844.1 kx_1 rfl) v856 ((hF845.1 1 4 (by decide)).trans hv856) ?_
  have bv858 := q_bnd x842
  have bv859 := q_bnd v856
  refine r_ics 15 rfl (fun c857 => ?_) (fun c857 => ?_)
  · have c857_ : x842.toInt ≥ v856.toInt := en_i_ge_t c857
    refine At.enter rfl ?_
    refine r_iload_n e850 ?_
    refine r_ireti ?_
    exact ⟨_, rfl, hI844, hF845, _, rfl, trivial⟩
  · have c857_ : x842.toInt < v856.toInt := en_i_ge_f c857
    refine At.enter rfl ?_
    refine r_aload_n e849 ?_
    refine q_getR (Sh.ref hI844.1 kx_204 rfl) ?_
    refine r_iload_n e851 ?_
    obtain ⟨v860, hv860⟩ : ∃ v, eA g0 212 x842.toInt = v := ⟨_, rfl⟩
    refine q_iald (Sh.arr hI844.1 ka_212) x842.toInt rfl (by omega) v860 ((eA_c (hF845.2.1 212 (by decide))).trans hv860) ?_
    refine r_iconst (-1) rfl ?_
    refine r_ics 25 rfl (fun c861 => ?_) (fun c861 => ?_)
    · have c861_ : v860.toInt ≠ (-1) := en_i_ne_t c861
      refine At.enter rfl ?_
      refine q_iinc e851 (x842.toInt + 1) rfl (by omega) (fun v862 hv862 => ?_)
      refine r_goto ?_
      have bv863 := q_bnd x841
      exact ih848 (8 - v862.toInt) _ _ ⟨x841, v862, by first | rfl | omega, hI844, hF845, (w_p1 (by decide) (Or.inr rfl) e849), (w_p1 (by decide) (Or.inr rfl) e850), (w_e1 _ _ _), by omega⟩ ⟨by omega, by omega⟩
    · have c861_ : v860.toInt = (-1) := en_i_ne_f c861
      refine At.enter rfl ?_
      refine q_iincO e850 (fun v864 _ => ?_)
      refine Ar.fall 28 rfl ?_
      refine At.enter rfl ?_
      refine q_iinc (w_p1 (by decide) (Or.inr rfl) e851) (x842.toInt + 1) rfl (by omega) (fun v865 hv865 => ?_)
      refine r_goto ?_
      have bv866 := q_bnd v864
      exact ih848 (8 - v865.toInt) _ _ ⟨v864, v865, by first | rfl | omega, hI844, hF845, (w_p1 (by decide) (Or.inr rfl) (w_p1 (by decide) (Or.inr rfl) e849)), (w_p1 (by decide) (Or.inr rfl) (w_e1 _ _ _)), (w_e1 _ _ _), by omega⟩ ⟨by omega, by omega⟩

def F_X1_isStuck_188 : List (Nat × Nat) := [(185, 3)]
def A_X1_isStuck_188 : List Nat := []
set_option maxRecDepth 100000 in
set_option maxHeartbeats 4000000 in
theorem T_X1_isStuck_188 (d : Nat) {N : Nat} {g0 : List en_E} (hI0 : HI g0) (a1 : Int32) (h_a1 : 0 ≤ a1.toInt ∧ a1.toInt ≤ 7) : Ev (d + 4) 35 [.ref 188, .int a1] (g0, N) (fun w h' => ∃ g', h' = (g', N) ∧ HI g' ∧ Fr F_X1_isStuck_188 A_X1_isStuck_188 g0 g' ∧ ∃ r : Int32, w = some (.int r) ∧ (0 ≤ r.toInt ∧ r.toInt ≤ 1)) := by
  have hF0 : Fr F_X1_isStuck_188 A_X1_isStuck_188 g0 g0 := Fr.rf
  refine Ev.mk rfl rfl ⟨Nat.le_of_ble_eq_true rfl, Or.inr (q_rc hI0.1 kx_188 rfl)⟩ ?_
  show At _ none _ _ (0, [(0, .ref 188), (1, .int a1)], [], (_, _)) _
  refine At.enter rfl ?_
  refine r_aload_n rfl ?_
  refine q_getR (Sh.ref hI0.1 kx_188 rfl) ?_
  refine r_iload_n rfl ?_
  obtain ⟨v81, hv81⟩ : ∃ v, eA g0 195 a1.toInt = v := ⟨_, rfl⟩
  refine q_iald (Sh.arr hI0.1 ka_195) a1.toInt rfl (by omega) v81 hv81 ?_
  refine r_istore_n ([(2, .int v81), (0, .ref 188), (1, .int a1)]) rfl ?_
  refine r_aload_n rfl ?_
  refine q_getR (Sh.ref hI0.1 kx_188 rfl) ?_
  refine r_iload_n rfl ?_
  refine q_inlV 15 rfl [.ref 1, .int v81] [] (Nat.le_of_ble_eq_true rfl) rfl ?_
  refine Ev.mk rfl rfl ⟨Nat.le_of_ble_eq_true rfl, Or.inr (q_rc hI0.1 kx_1 rfl)⟩ ?_
  show At _ none _ _ (0, [(0, .ref 1), (1, .int v81)], [], (_, _)) _
  refine At.enter rfl ?_
  refine r_iload_n rfl ?_
  refine r_ifs 4 rfl (fun c82 => ?_) (fun c82 => ?_)
  · have c82_ : v81.toInt < 0 := en_k_lt_t c82
    refine At.enter rfl ?_
    refine r_iconst 0 rfl ?_
    refine Ar.fall 17 rfl ?_
    refine At.enter rfl ?_
    refine q_iretz (by decide) ?_
    refine At.enter rfl ?_
    refine r_iff 18 rfl (by decide) ?_
    refine At.enter rfl ?_
    refine r_iconst 0 rfl ?_
    refine r_iretz (by decide) ?_
    exact ⟨_, rfl, hI0, hF0, _, rfl, by decide⟩
  · have c82_ : v81.toInt ≥ 0 := en_k_lt_f c82
    refine At.enter rfl ?_
    refine r_iload_n rfl ?_
    refine r_aload_n rfl ?_
    obtain ⟨v83, hv83⟩ : ∃ v, gI g0 1 0 = v := ⟨_, rfl⟩
    have rv83 := RgF.at hI0.2.1 (p := 1) (b := 0) rfl
    rw [hv83] at rv83
    dsimp only at rv83
    refine q_getI (Sh.int hI0.1 kx_1 rfl) v83 hv83 ?_
    have bv85 := q_bnd v81
    have bv86 := q_bnd v83
    refine r_ics 12 rfl (fun c84 => ?_) (fun c84 => ?_)
    · have c84_ : v81.toInt ≥ v83.toInt := en_i_ge_t c84
      refine At.enter rfl ?_
      refine r_iconst 0 rfl ?_
      refine Ar.fall 17 rfl ?_
      refine At.enter rfl ?_
      refine q_iretz (by decide) ?_
      refine At.enter rfl ?_
      refine r_iff 18 rfl (by decide) ?_
      refine At.enter rfl ?_
      refine r_iconst 0 rfl ?_
      refine r_iretz (by decide) ?_
      exact ⟨_, rfl, hI0, hF0, _, rfl, by decide⟩
    · have c84_ : v81.toInt < v83.toInt := en_i_ge_f c84
      refine At.enter rfl ?_
      refine r_iconst 1 rfl ?_
      refine r_goto ?_
      refine At.enter rfl ?_
      refine q_iretz (by decide) ?_
      refine At.enter rfl ?_
      refine r_ift (by decide) ?_
      refine At.enter rfl ?_
      refine r_aload_n rfl ?_
      refine q_getR (Sh.ref hI0.1 kx_188 rfl) ?_
      refine r_iload_n rfl ?_
      obtain ⟨v87, hv87⟩ : ∃ v, eA g0 192 v81.toInt = v := ⟨_, rfl⟩
      refine q_iald (Sh.arr hI0.1 ka_192) v81.toInt rfl (by omega) v87 hv87 ?_
      refine r_istore_n ([(3, .int v87), (2, .int v81), (0, .ref 188), (1, .int a1)]) rfl ?_
      refine r_iload_n rfl ?_
      refine r_iconst (-1) rfl ?_
      refine r_ics 32 rfl (fun c88 => ?_) (fun c88 => ?_)
      · have c88_ : v87.toInt = (-1) := en_i_eq_t c88
        refine At.enter rfl ?_
        refine r_iconst 0 rfl ?_
        refine r_iretz (by decide) ?_
        exact ⟨_, rfl, hI0, hF0, _, rfl, by decide⟩
      · have c88_ : v87.toInt ≠ (-1) := en_i_eq_f c88
        refine At.enter rfl ?_
        refine r_iload_n rfl ?_
        refine r_aload_n rfl ?_
        refine q_getR (Sh.ref hI0.1 kx_188 rfl) ?_
        refine r_iload_n rfl ?_
        refine r_iconst 2 rfl ?_
        refine r_callV 42 rfl [.ref 1, .int a1, .int 2] [.int v87] (Nat.le_of_ble_eq_true rfl) rfl (T_X0_about_1 _ hI0 a1 2) ?_
        rintro _ _ ⟨g89, rfl, hI90, hF91, v92, rfl, hr93⟩
        refine At.sti ?_
        have ks96 := hr93.2.2
        have hr95 : _ ∧ _ := ⟨hr93.1, hr93.2.1⟩
        have hF94 := Fr.tr hF0 hF91 rfl rfl
        have zv97 : (2 : Int32).toInt = 2 := rfl
        refine At.enter rfl ?_
        refine r_ics 45 rfl (fun c98 => ?_) (fun c98 => ?_)
        · have c98_ : v87.toInt = v92.toInt := en_i_eq_t c98
          refine At.enter rfl ?_
          refine r_iconst 0 rfl ?_
          refine r_iretz (by decide) ?_
          exact ⟨_, rfl, hI90, hF94, _, rfl, by decide⟩
        · have c98_ : v87.toInt ≠ v92.toInt := en_i_eq_f c98
          refine At.enter rfl ?_
          refine r_aload_n rfl ?_
          refine r_iload_n rfl ?_
          refine r_iload_n rfl ?_
          refine r_callV 51 rfl [.ref 188, .int v87, .int a1] [] (Nat.le_of_ble_eq_true rfl) rfl (T_X1_canHold_188 _ hI90 v87 a1) ?_
          rintro _ _ ⟨g99, rfl, hI100, hF101, v102, rfl, hr103⟩
          refine At.sti ?_
          have hF104 := Fr.tr hF94 hF101 rfl rfl
          refine At.enter rfl ?_
          refine r_ifs 54 rfl (fun c105 => ?_) (fun c105 => ?_)
          · have c105_ : v102.toInt = 0 := en_k_eq_t c105
            refine At.enter rfl ?_
            refine r_iconst 0 rfl ?_
            refine r_aload_n rfl ?_
            refine q_getR (Sh.ref hI100.1 kx_188 rfl) ?_
            refine r_iload_n rfl ?_
            obtain ⟨v106, hv106⟩ : ∃ v, eA g0 198 a1.toInt = v := ⟨_, rfl⟩
            refine q_iald (Sh.arr hI100.1 ka_198) a1.toInt rfl (by omega) v106 ((eA_c ((hF101.2.1 198 ma_X1_canHold_188_198).trans (hF91.2.1 198 ma_X0_about_1_198))).trans hv106) ?_
            refine r_iconst 1 rfl ?_
            refine q_isubO (fun v107 _ => ?_)
            refine q_mmax rfl (Nat.le_of_ble_eq_true rfl) (fun v108 hv108 => ?_)
            have zv109 : (0 : Int32).toInt = 0 := rfl
            refine r_istore ([(4, .int v108), (3, .int v87), (2, .int v81), (0, .ref 188), (1, .int a1)]) rfl ?_
            refine r_aload_n rfl ?_
            refine q_getR (Sh.ref hI100.1 kx_188 rfl) ?_
            refine r_iconst 2 rfl ?_
            refine r_iload_n rfl ?_
            refine r_iload_n rfl ?_
            refine r_bipush 99 rfl ?_
            refine r_iload rfl ?_
            refine r_aload_n rfl ?_
            refine q_getR (Sh.ref hI100.1 kx_188 rfl) ?_
            refine r_iload_n rfl ?_
            obtain ⟨v110, hv110⟩ : ∃ v, eA g0 189 v81.toInt = v := ⟨_, rfl⟩
            refine q_iald (Sh.arr hI100.1 ka_189) v81.toInt rfl (by omega) v110 ((eA_c ((hF101.2.1 189 ma_X1_canHold_188_189).trans (hF91.2.1 189 ma_X0_about_1_189))).trans hv110) ?_
            refine r_aload_n rfl ?_
            refine q_getR (Sh.ref hI100.1 kx_188 rfl) ?_
            refine r_iload_n rfl ?_
            obtain ⟨v111, hv111⟩ : ∃ v, eA g0 190 v81.toInt = v := ⟨_, rfl⟩
            refine q_iald (Sh.arr hI100.1 ka_190) v81.toInt rfl (by omega) v111 ((eA_c ((hF101.2.1 190 ma_X1_canHold_188_190).trans (hF91.2.1 190 ma_X0_about_1_190))).trans hv111) ?_
            refine r_callV 96 rfl [.ref 185, .int 2, .int a1, .int v81, .int 99, .int v108, .int v110, .int v111] [] (Nat.le_of_ble_eq_true rfl) rfl (T_X3_tells_185 _ hI100 2 a1 v81 99 v108 v110 v111) ?_
            rintro _ _ ⟨g112, rfl, hI113, hF114, v115, rfl, hr116⟩
            refine At.stl ?_
            have hF117 := Fr.tr hF104 hF114 rfl rfl
            have zv118 : (2 : Int32).toInt = 2 := rfl
            have zv119 : (99 : Int32).toInt = 99 := rfl
            refine At.enter rfl ?_
            refine r_lconst 0 rfl ?_
            refine r_lcmp _ rfl ?_
            refine r_ifs 101 rfl (fun c120 => ?_) (fun c120 => ?_)
            · have c120_ : v115.toInt ≠ 0 := en_j_ne_t c120
              refine At.enter rfl ?_
              refine r_iconst 0 rfl ?_
              refine Ar.fall 106 rfl ?_
              refine At.enter rfl ?_
              refine r_iretz (by decide) ?_
              exact ⟨_, rfl, hI113, hF117, _, rfl, by decide⟩
            · have c120_ : v115.toInt = 0 := en_j_ne_f c120
              refine At.enter rfl ?_
              refine r_iconst 1 rfl ?_
              refine r_goto ?_
              refine At.enter rfl ?_
              refine r_iretz (by decide) ?_
              exact ⟨_, rfl, hI113, hF117, _, rfl, by decide⟩
          · have c105_ : v102.toInt ≠ 0 := en_k_eq_f c105
            refine At.enter rfl ?_
            refine r_iconst 0 rfl ?_
            refine r_iretz (by decide) ?_
            exact ⟨_, rfl, hI100, hF104, _, rfl, by decide⟩
