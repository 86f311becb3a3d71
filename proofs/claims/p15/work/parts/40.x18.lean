def F_X1_isCarried_204 : List (Nat × Nat) := []
def A_X1_isCarried_204 : List Nat := []
set_option maxRecDepth 100000 in
set_option maxHeartbeats 4000000 in
theorem T_X1_isCarried_204 (d : Nat) {N : Nat} {g0 : List en_E} (hI0 : HI g0) (a1 : Int32) (h_a1 : 0 ≤ a1.toInt ∧ a1.toInt ≤ 7) : Ev (d + 2) 22 [.ref 204, .int a1] (g0, N) (fun w h' => ∃ g', h' = (g', N) ∧ HI g' ∧ Fr F_X1_isCarried_204 A_X1_isCarried_204 g0 g' ∧ ∃ r : Int32, w = some (.int r) ∧ (0 ≤ r.toInt ∧ r.toInt ≤ 1)) := by
  have hF0 : Fr F_X1_isCarried_204 A_X1_isCarried_204 g0 g0 := Fr.rf
  refine Ev.mk rfl rfl ⟨Nat.le_of_ble_eq_true rfl, Or.inr (q_rc hI0.1 kx_204 rfl)⟩ ?_
  show At _ none _ _ (0, [(0, .ref 204), (1, .int a1)], [], (_, _)) _
  refine At.enter rfl ?_
  refine r_aload_n rfl ?_
  refine q_getR (Sh.ref hI0.1 kx_204 rfl) ?_
  refine r_iload_n rfl ?_
  refine r_iconst 1 rfl ?_
  refine r_callV 9 rfl [.ref 1, .int a1, .int 1] [] (Nat.le_of_ble_eq_true rfl) rfl (T_X0_about_1 _ hI0 a1 1) ?_
  rintro _ _ ⟨g843, rfl, hI844, hF845, v846, rfl, hr847⟩
  refine At.sti ?_
  have hF848 := Fr.tr hF0 hF845 rfl rfl
  refine At.enter rfl ?_
  refine r_istore_n ([(2, .int v846), (0, .ref 204), (1, .int a1)]) rfl ?_
  refine r_aload_n rfl ?_
  refine q_getR (Sh.ref hI844.1 kx_204 rfl) ?_
  refine r_iload_n rfl ?_
  refine r_iconst 0 rfl ?_
  refine r_callV 19 rfl [.ref 1, .int a1, .int 0] [] (Nat.le_of_ble_eq_true rfl) rfl (T_X0_about_1 _ hI844 a1 0) ?_
  rintro _ _ ⟨g849, rfl, hI850, hF851, v852, rfl, hr853⟩
  refine At.sti ?_
  have hF854 := Fr.tr hF848 hF851 rfl rfl
  refine At.enter rfl ?_
  refine r_istore_n ([(3, .int v852), (2, .int v846), (0, .ref 204), (1, .int a1)]) rfl ?_
  refine r_iconst 0 rfl ?_
  refine r_istore ([(4, .int 0), (3, .int v852), (2, .int v846), (0, .ref 204), (1, .int a1)]) rfl ?_
  refine Ar.fall 23 rfl ?_
  have z_1247 : (0 : Int32).toInt = 0 := rfl
  refine w_loopI (fun n_ l_ g_ => ∃ x1233 : Int32, ∃ x1234 : Int32, n_ = 2147483647 - x1234.toInt ∧ HI g_ ∧ Fr F_X1_isCarried_204 A_X1_isCarried_204 g0 g_ ∧ en_get 0 l_ = some (.ref 204) ∧ en_get 1 l_ = some (.int a1) ∧ en_get 2 l_ = some (.int x1233) ∧ en_get 3 l_ = some (.int v852) ∧ en_get 4 l_ = some (.int x1234) ∧ 0 ≤ x1234.toInt) ?_ (2147483647 - 0) ⟨v846, 0, by first | rfl | omega, hI850, hF854, rfl, rfl, rfl, rfl, rfl, by decide⟩
  rintro n1239 l1238 g1235 ⟨x1233, x1234, hm1248, hI1236, hF1237, e1241, e1242, e1243, e1244, e1245, r1246⟩ ih1240
  refine At.enter rfl ?_
  refine r_iload e1245 ?_
  refine r_aload_n e1241 ?_
  refine q_getR (Sh.ref hI1236.1 kx_204 rfl) ?_
  refine r_iload_n e1242 ?_
  obtain ⟨v1249, hv1249⟩ : ∃ v, eA g0 209 a1.toInt = v := ⟨_, rfl⟩
  refine q_iald (Sh.arr hI1236.1 ka_209) a1.toInt rfl (by omega) v1249 ((eA_c (hF1237.2.1 209 (by decide))).trans hv1249) ?_
  have bv1251 := q_bnd x1234
  have bv1252 := q_bnd v1249
  refine r_ics 34 rfl (fun c1250 => ?_) (fun c1250 => ?_)
  · have c1250_ : x1234.toInt ≥ v1249.toInt := en_i_ge_t c1250
    refine At.enter rfl ?_
    refine r_iconst 1 rfl ?_
    refine r_iretz (by decide) ?_
    exact ⟨_, rfl, hI1236, hF1237, _, rfl, by decide⟩
  · have c1250_ : x1234.toInt < v1249.toInt := en_i_ge_f c1250
    refine At.enter rfl ?_
    refine r_aload_n e1241 ?_
    refine q_getR (Sh.ref hI1236.1 kx_204 rfl) ?_
    refine r_iload_n e1243 ?_
    refine q_inlV 42 rfl [.ref 1, .int x1233] [] (Nat.le_of_ble_eq_true rfl) rfl ?_
    refine Ev.mk rfl rfl ⟨Nat.le_of_ble_eq_true rfl, Or.inr (q_rc hI1236.1 kx_1 rfl)⟩ ?_
    show At _ none _ _ (0, [(0, .ref 1), (1, .int x1233)], [], (_, _)) _
    refine At.enter rfl ?_
    refine r_iload_n rfl ?_
    refine r_ifs 4 rfl (fun c1253 => ?_) (fun c1253 => ?_)
    · have c1253_ : x1233.toInt < 0 := en_k_lt_t c1253
      refine At.enter rfl ?_
      refine r_iconst 0 rfl ?_
      refine Ar.fall 17 rfl ?_
      refine At.enter rfl ?_
      refine q_iretz (by decide) ?_
      refine At.enter rfl ?_
      refine r_ift (by decide) ?_
      refine At.enter rfl ?_
      refine r_iconst 1 rfl ?_
      refine r_iretz (by decide) ?_
      exact ⟨_, rfl, hI1236, hF1237, _, rfl, by decide⟩
    · have c1253_ : x1233.toInt ≥ 0 := en_k_lt_f c1253
      refine At.enter rfl ?_
      refine r_iload_n rfl ?_
      refine r_aload_n rfl ?_
      obtain ⟨v1254, hv1254⟩ : ∃ v, gI g0 1 0 = v := ⟨_, rfl⟩
      have rv1254 := RgF.at hI0.2.1 (p := 1) (b := 0) rfl
      rw [hv1254] at rv1254
      dsimp only at rv1254
      refine q_getI (Sh.int hI1236.1 kx_1 rfl) v1254 ((hF1237.1 1 0 (by decide)).trans hv1254) ?_
      have bv1256 := q_bnd x1233
      have bv1257 := q_bnd v1254
      refine r_ics 12 rfl (fun c1255 => ?_) (fun c1255 => ?_)
      · have c1255_ : x1233.toInt ≥ v1254.toInt := en_i_ge_t c1255
        refine At.enter rfl ?_
        refine r_iconst 0 rfl ?_
        refine Ar.fall 17 rfl ?_
        refine At.enter rfl ?_
        refine q_iretz (by decide) ?_
        refine At.enter rfl ?_
        refine r_ift (by decide) ?_
        refine At.enter rfl ?_
        refine r_iconst 1 rfl ?_
        refine r_iretz (by decide) ?_
        exact ⟨_, rfl, hI1236, hF1237, _, rfl, by decide⟩
      · have c1255_ : x1233.toInt < v1254.toInt := en_i_ge_f c1255
        refine At.enter rfl ?_
        refine r_iconst 1 rfl ?_
        refine r_goto ?_
        refine At.enter rfl ?_
        refine q_iretz (by decide) ?_
        refine At.enter rfl ?_
        refine r_iff 45 rfl (by decide) ?_
        refine At.enter rfl ?_
        refine r_aload_n e1241 ?_
        refine q_getR (Sh.ref hI1236.1 kx_204 rfl) ?_
        refine r_iload_n e1243 ?_
        obtain ⟨v1258, hv1258⟩ : ∃ v, eA g0 205 x1233.toInt = v := ⟨_, rfl⟩
        refine q_iald (Sh.arr hI1236.1 ka_205) x1233.toInt rfl (by omega) v1258 ((eA_c (hF1237.2.1 205 (by decide))).trans hv1258) ?_
        refine r_iload_n e1244 ?_
        have bv1260 := q_bnd v1258
        have bv1261 := q_bnd v852
        refine r_ics 55 rfl (fun c1259 => ?_) (fun c1259 => ?_)
        · have c1259_ : v1258.toInt ≥ v852.toInt := en_i_ge_t c1259
          refine At.enter rfl ?_
          refine r_aload_n e1241 ?_
          refine q_getR (Sh.ref hI1236.1 kx_204 rfl) ?_
          refine r_iload_n e1243 ?_
          obtain ⟨v1262, hv1262⟩ : ∃ v, eA g0 208 x1233.toInt = v := ⟨_, rfl⟩
          refine q_iald (Sh.arr hI1236.1 ka_208) x1233.toInt rfl (by omega) v1262 ((eA_c (hF1237.2.1 208 (by decide))).trans hv1262) ?_
          refine r_istore_n _ rfl ?_
          refine q_iinc (w_p1 (by decide) (Or.inr rfl) e1245) (x1234.toInt + 1) rfl (by omega) (fun v1263 hv1263 => ?_)
          refine r_goto ?_
          have bv1264 := q_bnd v1262
          have bv1265 := q_bnd v1263
          exact ih1240 (2147483647 - v1263.toInt) _ _ ⟨v1262, v1263, by first | rfl | omega, hI1236, hF1237, (w_p1 (by decide) (Or.inr rfl) (w_p1 (by decide) (Or.inr rfl) e1241)), (w_p1 (by decide) (Or.inr rfl) (w_p1 (by decide) (Or.inr rfl) e1242)), (w_p1 (by decide) (Or.inr rfl) (w_e1 _ _ _)), (w_p1 (by decide) (Or.inr rfl) (w_p1 (by decide) (Or.inr rfl) e1244)), (w_e1 _ _ _), by omega⟩ ⟨by omega, by omega⟩
        · have c1259_ : v1258.toInt < v852.toInt := en_i_ge_f c1259
          refine At.enter rfl ?_
          refine r_iconst 0 rfl ?_
          refine r_iretz (by decide) ?_
          exact ⟨_, rfl, hI1236, hF1237, _, rfl, by decide⟩

def F_X1_canComeBy_204 : List (Nat × Nat) := []
def A_X1_canComeBy_204 : List Nat := []
set_option maxRecDepth 100000 in
set_option maxHeartbeats 4000000 in
theorem T_X1_canComeBy_204 (d : Nat) {N : Nat} {g0 : List en_E} (hI0 : HI g0) (a1 : Int32) (a2 : Int32) : Ev (d + 3) 21 [.ref 204, .int a1, .int a2] (g0, N) (fun w h' => ∃ g', h' = (g', N) ∧ HI g' ∧ Fr F_X1_canComeBy_204 A_X1_canComeBy_204 g0 g' ∧ ∃ r : Int32, w = some (.int r) ∧ (0 ≤ r.toInt ∧ r.toInt ≤ 1)) := by
  have hF0 : Fr F_X1_canComeBy_204 A_X1_canComeBy_204 g0 g0 := Fr.rf
  refine Ev.mk rfl rfl ⟨Nat.le_of_ble_eq_true rfl, Or.inr (q_rc hI0.1 kx_204 rfl)⟩ ?_
  show At _ none _ _ (0, [(0, .ref 204), (1, .int a1), (2, .int a2)], [], (_, _)) _
  refine At.enter rfl ?_
  refine r_iconst 0 rfl ?_
  refine r_istore_n ([(3, .int 0), (0, .ref 204), (1, .int a1), (2, .int a2)]) rfl ?_
  refine Ar.fall 2 rfl ?_
  have z_681 : (0 : Int32).toInt = 0 := rfl
  refine w_loopI (fun n_ l_ g_ => ∃ x669 : Int32, n_ = 8 - x669.toInt ∧ HI g_ ∧ Fr F_X1_canComeBy_204 A_X1_canComeBy_204 g0 g_ ∧ en_get 0 l_ = some (.ref 204) ∧ en_get 1 l_ = some (.int a1) ∧ en_get 2 l_ = some (.int a2) ∧ en_get 3 l_ = some (.int x669) ∧ (0 ≤ x669.toInt ∧ x669.toInt ≤ 8)) ?_ (8 - 0) ⟨0, by first | rfl | omega, hI0, hF0, rfl, rfl, rfl, rfl, by decide⟩
  rintro n674 l673 g670 ⟨x669, hm682, hI671, hF672, e676, e677, e678, e679, r680⟩ ih675
  refine At.enter rfl ?_
  refine r_iload_n e679 ?_
  refine r_aload_n e676 ?_
  refine q_getR (Sh.ref hI671.1 kx_204 rfl) ?_
  obtain ⟨v683, hv683⟩ : ∃ v, gI g0 1 4 = v := ⟨_, rfl⟩
  have rv683 := RgF.at hI0.2.1 (p := 1) (b := 4) rfl
  rw [hv683] at rv683
  dsimp only at rv683
  refine q_getI (Sh.int hI671.1 kx_1 rfl) v683 ((hF672.1 1 4 (by decide)).trans hv683) ?_
  have bv685 := q_bnd x669
  have bv686 := q_bnd v683
  refine r_ics 13 rfl (fun c684 => ?_) (fun c684 => ?_)
  · have c684_ : x669.toInt ≥ v683.toInt := en_i_ge_t c684
    refine At.enter rfl ?_
    refine r_iconst 1 rfl ?_
    refine r_iretz (by decide) ?_
    exact ⟨_, rfl, hI671, hF672, _, rfl, by decide⟩
  · have c684_ : x669.toInt < v683.toInt := en_i_ge_f c684
    refine At.enter rfl ?_
    refine r_iload_n e677 ?_
    refine r_iload_n e679 ?_
    refine q_inlS 18 rfl [.int a1, .int x669] [] (Nat.le_of_ble_eq_true rfl) rfl ?_
    refine Ev.mk rfl rfl ⟨Nat.le_of_ble_eq_true rfl, Or.inl rfl⟩ ?_
    show At _ none _ _ (0, [(0, .int a1), (1, .int x669)], [], (_, _)) _
    refine At.enter rfl ?_
    refine r_iload_n rfl ?_
    refine r_iload_n rfl ?_
    refine q_ishrO (fun v687 hv687 => ?_)
    refine r_iconst 1 rfl ?_
    refine q_iandO (fun v688 hv688 => ?_)
    refine r_ifs 8 rfl (fun c689 => ?_) (fun c689 => ?_)
    · have c689_ : v688.toInt = 0 := en_k_eq_t c689
      refine At.enter rfl ?_
      refine r_iconst 0 rfl ?_
      refine Ar.fall 13 rfl ?_
      refine At.enter rfl ?_
      refine q_iretz (by decide) ?_
      refine At.enter rfl ?_
      refine r_ift (by decide) ?_
      refine At.enter rfl ?_
      refine q_iinc e679 (x669.toInt + 1) rfl (by omega) (fun v690 hv690 => ?_)
      refine r_goto ?_
      exact ih675 (8 - v690.toInt) _ _ ⟨v690, by first | rfl | omega, hI671, hF672, (w_p1 (by decide) (Or.inr rfl) e676), (w_p1 (by decide) (Or.inr rfl) e677), (w_p1 (by decide) (Or.inr rfl) e678), (w_e1 _ _ _), by omega⟩ ⟨by omega, by omega⟩
    · have c689_ : v688.toInt ≠ 0 := en_k_eq_f c689
      refine At.enter rfl ?_
      refine r_iconst 1 rfl ?_
      refine r_goto ?_
      refine At.enter rfl ?_
      refine q_iretz (by decide) ?_
      refine At.enter rfl ?_
      refine r_iff 21 rfl (by decide) ?_
      refine At.enter rfl ?_
      refine r_aload_n e676 ?_
      refine q_getR (Sh.ref hI671.1 kx_204 rfl) ?_
      refine r_iload_n e679 ?_
      obtain ⟨v691, hv691⟩ : ∃ v, eA g0 209 x669.toInt = v := ⟨_, rfl⟩
      refine q_iald (Sh.arr hI671.1 ka_209) x669.toInt rfl (by omega) v691 ((eA_c (hF672.2.1 209 (by decide))).trans hv691) ?_
      refine r_iconst (-1) rfl ?_
      refine r_ics 31 rfl (fun c692 => ?_) (fun c692 => ?_)
      · have c692_ : v691.toInt = (-1) := en_i_eq_t c692
        refine At.enter rfl ?_
        refine r_iconst 0 rfl ?_
        refine r_iretz (by decide) ?_
        exact ⟨_, rfl, hI671, hF672, _, rfl, by decide⟩
      · have c692_ : v691.toInt ≠ (-1) := en_i_eq_f c692
        refine At.enter rfl ?_
        refine r_aload_n e676 ?_
        refine q_getR (Sh.ref hI671.1 kx_204 rfl) ?_
        refine r_iload_n e679 ?_
        obtain ⟨v693, hv693⟩ : ∃ v, eA g0 207 x669.toInt = v := ⟨_, rfl⟩
        refine q_iald (Sh.arr hI671.1 ka_207) x669.toInt rfl (by omega) v693 ((eA_c (hF672.2.1 207 (by decide))).trans hv693) ?_
        refine r_iconst 0 rfl ?_
        refine r_aload_n e676 ?_
        refine q_getR (Sh.ref hI671.1 kx_204 rfl) ?_
        refine r_iload_n e679 ?_
        refine q_iald (Sh.arr hI671.1 ka_209) x669.toInt rfl (by omega) v691 ((eA_c (hF672.2.1 209 (by decide))).trans hv691) ?_
        refine r_iconst 1 rfl ?_
        refine q_isubO (fun v694 _ => ?_)
        refine q_mmax rfl (Nat.le_of_ble_eq_true rfl) (fun v695 hv695 => ?_)
        have zv696 : (0 : Int32).toInt = 0 := rfl
        refine q_iaddO (fun v697 _ => ?_)
        refine r_iload_n e678 ?_
        have bv699 := q_bnd v697
        have bv700 := q_bnd a2
        refine r_ics 54 rfl (fun c698 => ?_) (fun c698 => ?_)
        · have c698_ : v697.toInt > a2.toInt := en_i_gt_t c698
          refine At.enter rfl ?_
          refine r_iconst 0 rfl ?_
          refine r_iretz (by decide) ?_
          exact ⟨_, rfl, hI671, hF672, _, rfl, by decide⟩
        · have c698_ : v697.toInt ≤ a2.toInt := en_i_gt_f c698
          refine At.enter rfl ?_
          refine r_aload_n e676 ?_
          refine r_iload_n e679 ?_
          refine r_callV 59 rfl [.ref 204, .int x669] [] (Nat.le_of_ble_eq_true rfl) rfl (T_X1_isCarried_204 _ hI671 x669 (by omega)) ?_
          rintro _ _ ⟨g701, rfl, hI702, hF703, v704, rfl, hr705⟩
          refine At.sti ?_
          have hF706 := Fr.tr hF672 hF703 rfl rfl
          refine At.enter rfl ?_
          refine r_ifs 62 rfl (fun c707 => ?_) (fun c707 => ?_)
          · have c707_ : v704.toInt ≠ 0 := en_k_ne_t c707
            refine At.enter rfl ?_
            refine q_iinc e679 (x669.toInt + 1) rfl (by omega) (fun v708 hv708 => ?_)
            refine r_goto ?_
            exact ih675 (8 - v708.toInt) _ _ ⟨v708, by first | rfl | omega, hI702, hF706, (w_p1 (by decide) (Or.inr rfl) e676), (w_p1 (by decide) (Or.inr rfl) e677), (w_p1 (by decide) (Or.inr rfl) e678), (w_e1 _ _ _), by omega⟩ ⟨by omega, by omega⟩
          · have c707_ : v704.toInt = 0 := en_k_ne_f c707
            refine At.enter rfl ?_
            refine r_iconst 0 rfl ?_
            refine r_iretz (by decide) ?_
            exact ⟨_, rfl, hI702, hF706, _, rfl, by decide⟩

def F_X1_comesBy_204 : List (Nat × Nat) := [(185, 3), (204, 16), (204, 18)]
def A_X1_comesBy_204 : List Nat := [210, 211, 212, 213, 214, 215, 216, 218]
theorem mf_X1_lastStart_204_1_9 : memF F_X1_lastStart_204 1 9 = false := by decide
theorem mf_X1_begin_204_1_9 : memF F_X1_begin_204 1 9 = false := by decide
theorem mf_X1_canComeBy_204_1_9 : memF F_X1_canComeBy_204 1 9 = false := by decide
set_option maxRecDepth 100000 in
set_option maxHeartbeats 4000000 in
theorem T_X1_comesBy_204 (d : Nat) {N : Nat} {g0 : List en_E} (hI0 : HI g0) (a1 : Int32) (a2 : Int32) : Ev (d + 5) 19 [.ref 204, .int a1, .int a2] (g0, N) (fun w h' => ∃ g', h' = (g', N) ∧ HI g' ∧ Fr F_X1_comesBy_204 A_X1_comesBy_204 g0 g' ∧ ∃ r : Int32, w = some (.int r) ∧ (0 ≤ r.toInt ∧ r.toInt ≤ 1)) := by
  have hF0 : Fr F_X1_comesBy_204 A_X1_comesBy_204 g0 g0 := Fr.rf
  refine Ev.mk rfl rfl ⟨Nat.le_of_ble_eq_true rfl, Or.inr (q_rc hI0.1 kx_204 rfl)⟩ ?_
  show At _ none _ _ (0, [(0, .ref 204), (1, .int a1), (2, .int a2)], [], (_, _)) _
  refine At.enter rfl ?_
  refine r_aload_n rfl ?_
  refine r_iload_n rfl ?_
  refine r_iload_n rfl ?_
  refine r_callV 6 rfl [.ref 204, .int a1, .int a2] [] (Nat.le_of_ble_eq_true rfl) rfl (T_X1_canComeBy_204 _ hI0 a1 a2) ?_
  rintro _ _ ⟨g23119, rfl, hI23120, hF23121, v23122, rfl, hr23123⟩
  refine At.sti ?_
  have hF23124 := Fr.tr hF0 hF23121 rfl rfl
  refine At.enter rfl ?_
  refine r_ifs 9 rfl (fun c23125 => ?_) (fun c23125 => ?_)
  · have c23125_ : v23122.toInt ≠ 0 := en_k_ne_t c23125
    refine At.enter rfl ?_
    refine r_aload_n rfl ?_
    refine r_callV 15 rfl [.ref 204] [] (Nat.le_of_ble_eq_true rfl) rfl (T_X1_begin_204 _ hI23120) ?_
    rintro _ _ ⟨g23126, rfl, hI23127, hF23128, rfl⟩
    refine At.stn ?_
    have hF23131 := Fr.tr hF23124 hF23128 rfl rfl
    refine At.enter rfl ?_
    refine r_iload_n rfl ?_
    refine r_istore_n ([(3, .int a1), (0, .ref 204), (1, .int a1), (2, .int a2)]) rfl ?_
    refine r_aload_n rfl ?_
    refine r_callV 21 rfl [.ref 204] [] (Nat.le_of_ble_eq_true rfl) rfl (T_X1_lastStart_204 _ hI23127) ?_
    rintro _ _ ⟨g23132, rfl, hI23133, hF23134, v23135, rfl, hr23136⟩
    refine At.sti ?_
    have hF23137 := Fr.tr hF23131 hF23134 rfl rfl
    refine At.enter rfl ?_
    refine r_istore ([(4, .int v23135), (3, .int a1), (0, .ref 204), (1, .int a1), (2, .int a2)]) rfl ?_
    refine r_aload_n rfl ?_
    refine q_getR (Sh.ref hI23133.1 kx_204 rfl) ?_
    refine q_inlV 30 rfl [.ref 1] [] (Nat.le_of_ble_eq_true rfl) rfl ?_
    refine Ev.mk rfl rfl ⟨Nat.le_of_ble_eq_true rfl, Or.inr (q_rc hI23133.1 kx_1 rfl)⟩ ?_
    show At _ none _ _ (0, [(0, .ref 1)], [], (_, _)) _
    refine At.enter rfl ?_
    refine r_aload_n rfl ?_
    refine r_aload_n rfl ?_
    obtain ⟨v23138, hv23138⟩ : ∃ v, gI g0 1 9 = v := ⟨_, rfl⟩
    refine q_getI (Sh.int hI23133.1 kx_1 rfl) v23138 (((hF23134.1 1 9 mf_X1_lastStart_204_1_9).trans ((hF23128.1 1 9 mf_X1_begin_204_1_9).trans (hF23121.1 1 9 mf_X1_canComeBy_204_1_9))).trans hv23138) ?_
    refine r_callV 8 rfl [.ref 1, .int v23138] [] (Nat.le_of_ble_eq_true rfl) rfl (T_X0_lawAt_1 _ hI23133 v23138) ?_
    rintro _ _ ⟨g23139, rfl, hI23140, hF23141, v23142, rfl, hr23143⟩
    refine At.str ?_
    have hF23144 := Fr.tr hF23137 hF23141 rfl rfl
    refine At.enter rfl ?_
    refine q_aret ?_
    refine At.enter rfl ?_
    refine r_callV 33 rfl [.ref (v23142)] [] (Nat.le_of_ble_eq_true rfl) rfl (T_X4_asksOfTime_law _ hI23140 (v23142) hr23143) ?_
    rintro _ _ ⟨g23145, rfl, hI23146, hF23147, v23148, rfl, hr23149⟩
    refine At.sti ?_
    have hF23150 := Fr.tr hF23144 hF23147 rfl rfl
    refine At.enter rfl ?_
    refine r_ifs 36 rfl (fun c23151 => ?_) (fun c23151 => ?_)
    · have c23151_ : v23148.toInt ≠ 0 := en_k_ne_t c23151
      refine At.enter rfl ?_
      refine r_iconst 0 rfl ?_
      refine Ar.fall 41 rfl ?_
      refine At.enter rfl ?_
      refine r_istore ([(5, .int 0), (4, .int v23135), (3, .int a1), (0, .ref 204), (1, .int a1), (2, .int a2)]) rfl ?_
      refine r_iconst 0 rfl ?_
      refine r_istore ([(6, .int 0), (5, .int 0), (4, .int v23135), (3, .int a1), (0, .ref 204), (1, .int a1), (2, .int a2)]) rfl ?_
      refine Ar.fall 46 rfl ?_
      have z_28365 : (0 : Int32).toInt = 0 := rfl
      refine w_loopI (fun n_ l_ g_ => ∃ x28349 : Int32, ∃ x28350 : Int32, n_ = 100 - x28350.toInt ∧ HI g_ ∧ Fr F_X1_comesBy_204 A_X1_comesBy_204 g0 g_ ∧ en_get 0 l_ = some (.ref 204) ∧ en_get 1 l_ = some (.int a1) ∧ en_get 2 l_ = some (.int a2) ∧ en_get 3 l_ = some (.int x28349) ∧ en_get 4 l_ = some (.int v23135) ∧ en_get 5 l_ = some (.int 0) ∧ en_get 6 l_ = some (.int x28350) ∧ (0 ≤ x28350.toInt ∧ x28350.toInt ≤ 100)) ?_ (100 - 0) ⟨a1, 0, by first | rfl | omega, hI23146, hF23150, rfl, rfl, rfl, rfl, rfl, rfl, rfl, by decide⟩
      rintro n28355 l28354 g28351 ⟨x28349, x28350, hm28366, hI28352, hF28353, e28357, e28358, e28359, e28360, e28361, e28362, e28363, r28364⟩ ih28356
      refine At.enter rfl ?_
      refine r_iload e28363 ?_
      refine r_bipush 100 rfl ?_
      refine r_ics 53 rfl (fun c28367 => ?_) (fun c28367 => ?_)
      · have c28367_ : x28350.toInt ≥ 100 := en_i_ge_t c28367
        refine At.enter rfl ?_
        refine r_iload_n e28360 ?_
        refine r_ifs 191 rfl (fun c28368 => ?_) (fun c28368 => ?_)
        · have c28368_ : x28349.toInt ≠ 0 := en_k_ne_t c28368
          refine At.enter rfl ?_
          refine r_iconst 0 rfl ?_
          refine Ar.fall 196 rfl ?_
          refine At.enter rfl ?_
          refine r_iretz (by decide) ?_
          exact ⟨_, rfl, hI28352, hF28353, _, rfl, by decide⟩
        · have c28368_ : x28349.toInt = 0 := en_k_ne_f c28368
          refine At.enter rfl ?_
          refine r_iconst 1 rfl ?_
          refine r_goto ?_
          refine At.enter rfl ?_
          refine r_iretz (by decide) ?_
          exact ⟨_, rfl, hI28352, hF28353, _, rfl, by decide⟩
      · have c28367_ : x28350.toInt < 100 := en_i_ge_f c28367
        refine At.enter rfl ?_
        refine r_iload_n e28360 ?_
        refine r_ifs 57 rfl (fun c28369 => ?_) (fun c28369 => ?_)
        · have c28369_ : x28349.toInt = 0 := en_k_eq_t c28369
          refine At.enter rfl ?_
          refine r_iload_n e28360 ?_
          refine r_ifs 191 rfl (fun c28370 => ?_) (fun c28370 => ?_)
          · have c28370_ : x28349.toInt ≠ 0 := en_k_ne_t c28370
            exfalso; omega
          · have c28370_ : x28349.toInt = 0 := en_k_ne_f c28370
            refine At.enter rfl ?_
            refine r_iconst 1 rfl ?_
            refine r_goto ?_
            refine At.enter rfl ?_
            refine r_iretz (by decide) ?_
            exact ⟨_, rfl, hI28352, hF28353, _, rfl, by decide⟩
        · have c28369_ : x28349.toInt ≠ 0 := en_k_eq_f c28369
          refine At.enter rfl ?_
          refine r_aload_n e28357 ?_
          refine r_iconst 0 rfl ?_
          refine q_putI (Sh.int hI28352.1 kx_204 rfl) rfl ?_
          have hI28371 := HI.wI0 hI28352 kx_204 rfl (p := 204) (b := 18) (v := 0) rfl
          have hF28372 := Fr.wI (p := 204) (b := 18) (v := 0) hF28353 rfl
          refine r_aload_n e28357 ?_
          refine r_iload e28363 ?_
          refine r_callV 68 rfl [.ref 204, .int x28350] [] (Nat.le_of_ble_eq_true rfl) rfl (T_X1_arrive_204 _ hI28371 x28350) ?_
          rintro _ _ ⟨g28373, rfl, hI28374, hF28375, rfl⟩
          refine At.stn ?_
          have hF28378 := Fr.tr hF28372 hF28375 rfl rfl
          refine At.enter rfl ?_
          refine r_aload_n e28357 ?_
          refine r_iload e28363 ?_
          refine r_callV 74 rfl [.ref 204, .int x28350] [] (Nat.le_of_ble_eq_true rfl) rfl (T_X1_lineUp_204 _ hI28374 x28350) ?_
          rintro _ _ ⟨g28379, rfl, hI28380, hF28381, rfl⟩
          refine At.stn ?_
          have hF28384 := Fr.tr hF28378 hF28381 rfl rfl
          refine At.enter rfl ?_
          refine r_aload_n e28357 ?_
          refine r_iload e28363 ?_
          refine r_callV 80 rfl [.ref 204, .int x28350] [] (Nat.le_of_ble_eq_true rfl) rfl (T_X1_goOn_204 _ hI28380 x28350) ?_
          rintro _ _ ⟨g28385, rfl, hI28386, hF28387, rfl⟩
          refine At.stn ?_
          have hF28390 := Fr.tr hF28384 hF28387 rfl rfl
          refine At.enter rfl ?_
          refine r_iconst 0 rfl ?_
          refine r_istore _ rfl ?_
          refine Ar.fall 83 rfl ?_
          have z_28695 : (0 : Int32).toInt = 0 := rfl
          refine w_loopI (fun n_ l_ g_ => ∃ x28678 : Int32, ∃ x28679 : Int32, n_ = 8 - x28679.toInt ∧ HI g_ ∧ Fr F_X1_comesBy_204 A_X1_comesBy_204 g0 g_ ∧ en_get 0 l_ = some (.ref 204) ∧ en_get 1 l_ = some (.int a1) ∧ en_get 2 l_ = some (.int a2) ∧ en_get 3 l_ = some (.int x28678) ∧ en_get 4 l_ = some (.int v23135) ∧ en_get 5 l_ = some (.int 0) ∧ en_get 6 l_ = some (.int x28350) ∧ en_get 7 l_ = some (.int x28679) ∧ (0 ≤ x28679.toInt ∧ x28679.toInt ≤ 8)) ?_ (8 - 0) ⟨x28349, 0, by first | rfl | omega, hI28386, hF28390, (w_p1 (by decide) (Or.inr rfl) e28357), (w_p1 (by decide) (Or.inr rfl) e28358), (w_p1 (by decide) (Or.inr rfl) e28359), (w_p1 (by decide) (Or.inr rfl) e28360), (w_p1 (by decide) (Or.inr rfl) e28361), (w_p1 (by decide) (Or.inr rfl) e28362), (w_p1 (by decide) (Or.inr rfl) e28363), (w_e1 _ _ _), by decide⟩
          rintro n28684 l28683 g28680 ⟨x28678, x28679, hm28696, hI28681, hF28682, e28686, e28687, e28688, e28689, e28690, e28691, e28692, e28693, r28694⟩ ih28685
          refine At.enter rfl ?_
          refine r_iload e28693 ?_
          refine r_aload_n e28686 ?_
          refine q_getR (Sh.ref hI28681.1 kx_204 rfl) ?_
          obtain ⟨v28697, hv28697⟩ : ∃ v, gI g0 1 4 = v := ⟨_, rfl⟩
          have rv28697 := RgF.at hI0.2.1 (p := 1) (b := 4) rfl
          rw [hv28697] at rv28697
          dsimp only at rv28697
          refine q_getI (Sh.int hI28681.1 kx_1 rfl) v28697 ((hF28682.1 1 4 (by decide)).trans hv28697) ?_
          have bv28699 := q_bnd x28679
          have bv28700 := q_bnd v28697
          refine r_ics 95 rfl (fun c28698 => ?_) (fun c28698 => ?_)
          · have c28698_ : x28679.toInt ≥ v28697.toInt := en_i_ge_t c28698
            refine At.enter rfl ?_
            refine r_iload_n e28689 ?_
            refine r_ifs 160 rfl (fun c28701 => ?_) (fun c28701 => ?_)
            · have c28701_ : x28678.toInt = 0 := en_k_eq_t c28701
              refine At.enter rfl ?_
              refine q_iinc e28692 (x28350.toInt + 1) rfl (by omega) (fun v28702 hv28702 => ?_)
              refine r_goto ?_
              have bv28703 := q_bnd x28678
              exact ih28356 (100 - v28702.toInt) _ _ ⟨x28678, v28702, by first | rfl | omega, hI28681, hF28682, (w_p1 (by decide) (Or.inr rfl) e28686), (w_p1 (by decide) (Or.inr rfl) e28687), (w_p1 (by decide) (Or.inr rfl) e28688), (w_p1 (by decide) (Or.inr rfl) e28689), (w_p1 (by decide) (Or.inr rfl) e28690), (w_p1 (by decide) (Or.inr rfl) e28691), (w_e1 _ _ _), by omega⟩ ⟨by omega, by omega⟩
            · have c28701_ : x28678.toInt ≠ 0 := en_k_eq_f c28701
              refine At.enter rfl ?_
              refine r_aload_n e28686 ?_
              obtain ⟨v28704, hv28704⟩ : ∃ v, gI g28680 204 18 = v := ⟨_, rfl⟩
              refine q_getI (Sh.int hI28681.1 kx_204 rfl) v28704 hv28704 ?_
              refine r_ifs 167 rfl (fun c28705 => ?_) (fun c28705 => ?_)
              · have c28705_ : v28704.toInt ≠ 0 := en_k_ne_t c28705
                refine At.enter rfl ?_
                refine q_iinc e28692 (x28350.toInt + 1) rfl (by omega) (fun v28706 hv28706 => ?_)
                refine r_goto ?_
                have bv28707 := q_bnd x28678
                exact ih28356 (100 - v28706.toInt) _ _ ⟨x28678, v28706, by first | rfl | omega, hI28681, hF28682, (w_p1 (by decide) (Or.inr rfl) e28686), (w_p1 (by decide) (Or.inr rfl) e28687), (w_p1 (by decide) (Or.inr rfl) e28688), (w_p1 (by decide) (Or.inr rfl) e28689), (w_p1 (by decide) (Or.inr rfl) e28690), (w_p1 (by decide) (Or.inr rfl) e28691), (w_e1 _ _ _), by omega⟩ ⟨by omega, by omega⟩
              · have c28705_ : v28704.toInt = 0 := en_k_ne_f c28705
                refine At.enter rfl ?_
                refine r_iload e28691 ?_
                refine r_ift (by decide) ?_
                refine At.enter rfl ?_
                refine q_iinc e28692 (x28350.toInt + 1) rfl (by omega) (fun v28708 hv28708 => ?_)
                refine r_goto ?_
                have bv28709 := q_bnd x28678
                exact ih28356 (100 - v28708.toInt) _ _ ⟨x28678, v28708, by first | rfl | omega, hI28681, hF28682, (w_p1 (by decide) (Or.inr rfl) e28686), (w_p1 (by decide) (Or.inr rfl) e28687), (w_p1 (by decide) (Or.inr rfl) e28688), (w_p1 (by decide) (Or.inr rfl) e28689), (w_p1 (by decide) (Or.inr rfl) e28690), (w_p1 (by decide) (Or.inr rfl) e28691), (w_e1 _ _ _), by omega⟩ ⟨by omega, by omega⟩
          · have c28698_ : x28679.toInt < v28697.toInt := en_i_ge_f c28698
            refine At.enter rfl ?_
            refine r_iload_n e28689 ?_
            refine r_iload e28693 ?_
            refine q_inlS 101 rfl [.int x28678, .int x28679] [] (Nat.le_of_ble_eq_true rfl) rfl ?_
            refine Ev.mk rfl rfl ⟨Nat.le_of_ble_eq_true rfl, Or.inl rfl⟩ ?_
            show At _ none _ _ (0, [(0, .int x28678), (1, .int x28679)], [], (_, _)) _
            refine At.enter rfl ?_
            refine r_iload_n rfl ?_
            refine r_iload_n rfl ?_
            refine q_ishrO (fun v28710 hv28710 => ?_)
            refine r_iconst 1 rfl ?_
            refine q_iandO (fun v28711 hv28711 => ?_)
            refine r_ifs 8 rfl (fun c28712 => ?_) (fun c28712 => ?_)
            · have c28712_ : v28711.toInt = 0 := en_k_eq_t c28712
              refine At.enter rfl ?_
              refine r_iconst 0 rfl ?_
              refine Ar.fall 13 rfl ?_
              refine At.enter rfl ?_
              refine q_iretz (by decide) ?_
              refine At.enter rfl ?_
              refine r_ift (by decide) ?_
              refine At.enter rfl ?_
              refine r_iload_n e28689 ?_
              refine r_iload e28693 ?_
              refine q_inlS 131 rfl [.int x28678, .int x28679] [] (Nat.le_of_ble_eq_true rfl) rfl ?_
              refine Ev.mk rfl rfl ⟨Nat.le_of_ble_eq_true rfl, Or.inl rfl⟩ ?_
              show At _ none _ _ (0, [(0, .int x28678), (1, .int x28679)], [], (_, _)) _
              refine At.enter rfl ?_
              refine r_iload_n rfl ?_
              refine r_iload_n rfl ?_
              refine q_ishrO (fun v28713 hv28713 => ?_)
              refine r_iconst 1 rfl ?_
              refine q_iandO (fun v28714 hv28714 => ?_)
              refine r_ifs 8 rfl (fun c28715 => ?_) (fun c28715 => ?_)
              · have c28715_ : v28714.toInt = 0 := en_k_eq_t c28715
                refine At.enter rfl ?_
                refine r_iconst 0 rfl ?_
                refine Ar.fall 13 rfl ?_
                refine At.enter rfl ?_
                refine q_iretz (by decide) ?_
                refine At.enter rfl ?_
                refine r_ift (by decide) ?_
                refine At.enter rfl ?_
                refine q_iinc e28693 (x28679.toInt + 1) rfl (by omega) (fun v28716 hv28716 => ?_)
                refine r_goto ?_
                have bv28717 := q_bnd x28678
                exact ih28685 (8 - v28716.toInt) _ _ ⟨x28678, v28716, by first | rfl | omega, hI28681, hF28682, (w_p1 (by decide) (Or.inr rfl) e28686), (w_p1 (by decide) (Or.inr rfl) e28687), (w_p1 (by decide) (Or.inr rfl) e28688), (w_p1 (by decide) (Or.inr rfl) e28689), (w_p1 (by decide) (Or.inr rfl) e28690), (w_p1 (by decide) (Or.inr rfl) e28691), (w_p1 (by decide) (Or.inr rfl) e28692), (w_e1 _ _ _), by omega⟩ ⟨by omega, by omega⟩
              · have c28715_ : v28714.toInt ≠ 0 := en_k_eq_f c28715
                refine At.enter rfl ?_
                refine r_iconst 1 rfl ?_
                refine r_goto ?_
                refine At.enter rfl ?_
                refine q_iretz (by decide) ?_
                refine At.enter rfl ?_
                refine r_iff 134 rfl (by decide) ?_
                refine At.enter rfl ?_
                refine r_iload e28692 ?_
                refine r_aload_n e28686 ?_
                refine q_getR (Sh.ref hI28681.1 kx_204 rfl) ?_
                refine r_iload e28693 ?_
                obtain ⟨v28718, hv28718⟩ : ∃ v, eA g28680 210 x28679.toInt = v := ⟨_, rfl⟩
                refine q_iald (Sh.arr hI28681.1 ka_210) x28679.toInt rfl (by omega) v28718 hv28718 ?_
                refine q_iaddO (fun v28719 _ => ?_)
                refine r_iload_n e28688 ?_
                have bv28721 := q_bnd v28719
                have bv28722 := q_bnd a2
                refine r_ics 148 rfl (fun c28720 => ?_) (fun c28720 => ?_)
                · have c28720_ : v28719.toInt ≤ a2.toInt := en_i_le_t c28720
                  refine At.enter rfl ?_
                  refine q_iinc e28693 (x28679.toInt + 1) rfl (by omega) (fun v28723 hv28723 => ?_)
                  refine r_goto ?_
                  have bv28724 := q_bnd x28678
                  exact ih28685 (8 - v28723.toInt) _ _ ⟨x28678, v28723, by first | rfl | omega, hI28681, hF28682, (w_p1 (by decide) (Or.inr rfl) e28686), (w_p1 (by decide) (Or.inr rfl) e28687), (w_p1 (by decide) (Or.inr rfl) e28688), (w_p1 (by decide) (Or.inr rfl) e28689), (w_p1 (by decide) (Or.inr rfl) e28690), (w_p1 (by decide) (Or.inr rfl) e28691), (w_p1 (by decide) (Or.inr rfl) e28692), (w_e1 _ _ _), by omega⟩ ⟨by omega, by omega⟩
                · have c28720_ : v28719.toInt > a2.toInt := en_i_le_f c28720
                  refine At.enter rfl ?_
                  refine r_iconst 0 rfl ?_
                  refine r_iretz (by decide) ?_
                  exact ⟨_, rfl, hI28681, hF28682, _, rfl, by decide⟩
            · have c28712_ : v28711.toInt ≠ 0 := en_k_eq_f c28712
              refine At.enter rfl ?_
              refine r_iconst 1 rfl ?_
              refine r_goto ?_
              refine At.enter rfl ?_
              refine q_iretz (by decide) ?_
              refine At.enter rfl ?_
              refine r_iff 104 rfl (by decide) ?_
              refine At.enter rfl ?_
              refine r_aload_n e28686 ?_
              refine q_getR (Sh.ref hI28681.1 kx_204 rfl) ?_
              refine r_iload e28693 ?_
              obtain ⟨v28725, hv28725⟩ : ∃ v, eA g28680 212 x28679.toInt = v := ⟨_, rfl⟩
              refine q_iald (Sh.arr hI28681.1 ka_212) x28679.toInt rfl (by omega) v28725 hv28725 ?_
              refine r_iconst (-1) rfl ?_
              refine r_ics 115 rfl (fun c28726 => ?_) (fun c28726 => ?_)
              · have c28726_ : v28725.toInt = (-1) := en_i_eq_t c28726
                refine At.enter rfl ?_
                refine r_iload_n e28689 ?_
                refine r_iload e28693 ?_
                refine q_inlS 131 rfl [.int x28678, .int x28679] [] (Nat.le_of_ble_eq_true rfl) rfl ?_
                refine Ev.mk rfl rfl ⟨Nat.le_of_ble_eq_true rfl, Or.inl rfl⟩ ?_
                show At _ none _ _ (0, [(0, .int x28678), (1, .int x28679)], [], (_, _)) _
                refine At.enter rfl ?_
                refine r_iload_n rfl ?_
                refine r_iload_n rfl ?_
                refine q_ishrO (fun v28727 hv28727 => ?_)
                refine r_iconst 1 rfl ?_
                refine q_iandO (fun v28728 hv28728 => ?_)
                refine r_ifs 8 rfl (fun c28729 => ?_) (fun c28729 => ?_)
                · have c28729_ : v28728.toInt = 0 := en_k_eq_t c28729
                  refine At.enter rfl ?_
                  refine r_iconst 0 rfl ?_
                  refine Ar.fall 13 rfl ?_
                  refine At.enter rfl ?_
                  refine q_iretz (by decide) ?_
                  refine At.enter rfl ?_
                  refine r_ift (by decide) ?_
                  refine At.enter rfl ?_
                  refine q_iinc e28693 (x28679.toInt + 1) rfl (by omega) (fun v28730 hv28730 => ?_)
                  refine r_goto ?_
                  have bv28731 := q_bnd x28678
                  exact ih28685 (8 - v28730.toInt) _ _ ⟨x28678, v28730, by first | rfl | omega, hI28681, hF28682, (w_p1 (by decide) (Or.inr rfl) e28686), (w_p1 (by decide) (Or.inr rfl) e28687), (w_p1 (by decide) (Or.inr rfl) e28688), (w_p1 (by decide) (Or.inr rfl) e28689), (w_p1 (by decide) (Or.inr rfl) e28690), (w_p1 (by decide) (Or.inr rfl) e28691), (w_p1 (by decide) (Or.inr rfl) e28692), (w_e1 _ _ _), by omega⟩ ⟨by omega, by omega⟩
                · have c28729_ : v28728.toInt ≠ 0 := en_k_eq_f c28729
                  refine At.enter rfl ?_
                  refine r_iconst 1 rfl ?_
                  refine r_goto ?_
                  refine At.enter rfl ?_
                  refine q_iretz (by decide) ?_
                  refine At.enter rfl ?_
                  refine r_iff 134 rfl (by decide) ?_
                  refine At.enter rfl ?_
                  refine r_iload e28692 ?_
                  refine r_aload_n e28686 ?_
                  refine q_getR (Sh.ref hI28681.1 kx_204 rfl) ?_
                  refine r_iload e28693 ?_
                  obtain ⟨v28732, hv28732⟩ : ∃ v, eA g28680 210 x28679.toInt = v := ⟨_, rfl⟩
                  refine q_iald (Sh.arr hI28681.1 ka_210) x28679.toInt rfl (by omega) v28732 hv28732 ?_
                  refine q_iaddO (fun v28733 _ => ?_)
                  refine r_iload_n e28688 ?_
                  have bv28735 := q_bnd v28733
                  have bv28736 := q_bnd a2
                  refine r_ics 148 rfl (fun c28734 => ?_) (fun c28734 => ?_)
                  · have c28734_ : v28733.toInt ≤ a2.toInt := en_i_le_t c28734
                    refine At.enter rfl ?_
                    refine q_iinc e28693 (x28679.toInt + 1) rfl (by omega) (fun v28737 hv28737 => ?_)
                    refine r_goto ?_
                    have bv28738 := q_bnd x28678
                    exact ih28685 (8 - v28737.toInt) _ _ ⟨x28678, v28737, by first | rfl | omega, hI28681, hF28682, (w_p1 (by decide) (Or.inr rfl) e28686), (w_p1 (by decide) (Or.inr rfl) e28687), (w_p1 (by decide) (Or.inr rfl) e28688), (w_p1 (by decide) (Or.inr rfl) e28689), (w_p1 (by decide) (Or.inr rfl) e28690), (w_p1 (by decide) (Or.inr rfl) e28691), (w_p1 (by decide) (Or.inr rfl) e28692), (w_e1 _ _ _), by omega⟩ ⟨by omega, by omega⟩
                  · have c28734_ : v28733.toInt > a2.toInt := en_i_le_f c28734
                    refine At.enter rfl ?_
                    refine r_iconst 0 rfl ?_
                    refine r_iretz (by decide) ?_
                    exact ⟨_, rfl, hI28681, hF28682, _, rfl, by decide⟩
              · have c28726_ : v28725.toInt ≠ (-1) := en_i_eq_f c28726
                refine At.enter rfl ?_
                refine r_iload_n e28689 ?_
                refine r_iconst 1 rfl ?_
                refine r_iload e28693 ?_
                refine q_ishlO (fun v28739 hv28739 => ?_)
                refine q_isubO (fun v28740 _ => ?_)
                refine r_istore_n _ rfl ?_
                refine r_goto ?_
                refine At.enter rfl ?_
                refine q_iinc (w_p1 (by decide) (Or.inr rfl) e28693) (x28679.toInt + 1) rfl (by omega) (fun v28741 hv28741 => ?_)
                refine r_goto ?_
                have bv28742 := q_bnd v28740
                exact ih28685 (8 - v28741.toInt) _ _ ⟨v28740, v28741, by first | rfl | omega, hI28681, hF28682, (w_p1 (by decide) (Or.inr rfl) (w_p1 (by decide) (Or.inr rfl) e28686)), (w_p1 (by decide) (Or.inr rfl) (w_p1 (by decide) (Or.inr rfl) e28687)), (w_p1 (by decide) (Or.inr rfl) (w_p1 (by decide) (Or.inr rfl) e28688)), (w_p1 (by decide) (Or.inr rfl) (w_e1 _ _ _)), (w_p1 (by decide) (Or.inr rfl) (w_p1 (by decide) (Or.inr rfl) e28690)), (w_p1 (by decide) (Or.inr rfl) (w_p1 (by decide) (Or.inr rfl) e28691)), (w_p1 (by decide) (Or.inr rfl) (w_p1 (by decide) (Or.inr rfl) e28692)), (w_e1 _ _ _), by omega⟩ ⟨by omega, by omega⟩
    · have c23151_ : v23148.toInt = 0 := en_k_ne_f c23151
      refine At.enter rfl ?_
      refine r_iconst 1 rfl ?_
      refine r_goto ?_
      refine At.enter rfl ?_
      refine r_istore ([(5, .int 1), (4, .int v23135), (3, .int a1), (0, .ref 204), (1, .int a1), (2, .int a2)]) rfl ?_
      refine r_iconst 0 rfl ?_
      refine r_istore ([(6, .int 0), (5, .int 1), (4, .int v23135), (3, .int a1), (0, .ref 204), (1, .int a1), (2, .int a2)]) rfl ?_
      refine Ar.fall 46 rfl ?_
      have z_34292 : (0 : Int32).toInt = 0 := rfl
      refine w_loopI (fun n_ l_ g_ => ∃ x34276 : Int32, ∃ x34277 : Int32, n_ = 100 - x34277.toInt ∧ HI g_ ∧ Fr F_X1_comesBy_204 A_X1_comesBy_204 g0 g_ ∧ en_get 0 l_ = some (.ref 204) ∧ en_get 1 l_ = some (.int a1) ∧ en_get 2 l_ = some (.int a2) ∧ en_get 3 l_ = some (.int x34276) ∧ en_get 4 l_ = some (.int v23135) ∧ en_get 5 l_ = some (.int 1) ∧ en_get 6 l_ = some (.int x34277) ∧ (0 ≤ x34277.toInt ∧ x34277.toInt ≤ 100)) ?_ (100 - 0) ⟨a1, 0, by first | rfl | omega, hI23146, hF23150, rfl, rfl, rfl, rfl, rfl, rfl, rfl, by decide⟩
      rintro n34282 l34281 g34278 ⟨x34276, x34277, hm34293, hI34279, hF34280, e34284, e34285, e34286, e34287, e34288, e34289, e34290, r34291⟩ ih34283
      refine At.enter rfl ?_
      refine r_iload e34290 ?_
      refine r_bipush 100 rfl ?_
      refine r_ics 53 rfl (fun c34294 => ?_) (fun c34294 => ?_)
      · have c34294_ : x34277.toInt ≥ 100 := en_i_ge_t c34294
        refine At.enter rfl ?_
        refine r_iload_n e34287 ?_
        refine r_ifs 191 rfl (fun c34295 => ?_) (fun c34295 => ?_)
        · have c34295_ : x34276.toInt ≠ 0 := en_k_ne_t c34295
          refine At.enter rfl ?_
          refine r_iconst 0 rfl ?_
          refine Ar.fall 196 rfl ?_
          refine At.enter rfl ?_
          refine r_iretz (by decide) ?_
          exact ⟨_, rfl, hI34279, hF34280, _, rfl, by decide⟩
        · have c34295_ : x34276.toInt = 0 := en_k_ne_f c34295
          refine At.enter rfl ?_
          refine r_iconst 1 rfl ?_
          refine r_goto ?_
          refine At.enter rfl ?_
          refine r_iretz (by decide) ?_
          exact ⟨_, rfl, hI34279, hF34280, _, rfl, by decide⟩
      · have c34294_ : x34277.toInt < 100 := en_i_ge_f c34294
        refine At.enter rfl ?_
        refine r_iload_n e34287 ?_
        refine r_ifs 57 rfl (fun c34296 => ?_) (fun c34296 => ?_)
        · have c34296_ : x34276.toInt = 0 := en_k_eq_t c34296
          refine At.enter rfl ?_
          refine r_iload_n e34287 ?_
          refine r_ifs 191 rfl (fun c34297 => ?_) (fun c34297 => ?_)
          · have c34297_ : x34276.toInt ≠ 0 := en_k_ne_t c34297
            exfalso; omega
          · have c34297_ : x34276.toInt = 0 := en_k_ne_f c34297
            refine At.enter rfl ?_
            refine r_iconst 1 rfl ?_
            refine r_goto ?_
            refine At.enter rfl ?_
            refine r_iretz (by decide) ?_
            exact ⟨_, rfl, hI34279, hF34280, _, rfl, by decide⟩
        · have c34296_ : x34276.toInt ≠ 0 := en_k_eq_f c34296
          refine At.enter rfl ?_
          refine r_aload_n e34284 ?_
          refine r_iconst 0 rfl ?_
          refine q_putI (Sh.int hI34279.1 kx_204 rfl) rfl ?_
          have hI34298 := HI.wI0 hI34279 kx_204 rfl (p := 204) (b := 18) (v := 0) rfl
          have hF34299 := Fr.wI (p := 204) (b := 18) (v := 0) hF34280 rfl
          refine r_aload_n e34284 ?_
          refine r_iload e34290 ?_
          refine r_callV 68 rfl [.ref 204, .int x34277] [] (Nat.le_of_ble_eq_true rfl) rfl (T_X1_arrive_204 _ hI34298 x34277) ?_
          rintro _ _ ⟨g34300, rfl, hI34301, hF34302, rfl⟩
          refine At.stn ?_
          have hF34305 := Fr.tr hF34299 hF34302 rfl rfl
          refine At.enter rfl ?_
          refine r_aload_n e34284 ?_
          refine r_iload e34290 ?_
          refine r_callV 74 rfl [.ref 204, .int x34277] [] (Nat.le_of_ble_eq_true rfl) rfl (T_X1_lineUp_204 _ hI34301 x34277) ?_
          rintro _ _ ⟨g34306, rfl, hI34307, hF34308, rfl⟩
          refine At.stn ?_
          have hF34311 := Fr.tr hF34305 hF34308 rfl rfl
          refine At.enter rfl ?_
          refine r_aload_n e34284 ?_
          refine r_iload e34290 ?_
          refine r_callV 80 rfl [.ref 204, .int x34277] [] (Nat.le_of_ble_eq_true rfl) rfl (T_X1_goOn_204 _ hI34307 x34277) ?_
          rintro _ _ ⟨g34312, rfl, hI34313, hF34314, rfl⟩
          refine At.stn ?_
          have hF34317 := Fr.tr hF34311 hF34314 rfl rfl
          refine At.enter rfl ?_
          refine r_iconst 0 rfl ?_
          refine r_istore _ rfl ?_
          refine Ar.fall 83 rfl ?_
          have z_34643 : (0 : Int32).toInt = 0 := rfl
          refine w_loopI (fun n_ l_ g_ => ∃ x34626 : Int32, ∃ x34627 : Int32, n_ = 8 - x34627.toInt ∧ HI g_ ∧ Fr F_X1_comesBy_204 A_X1_comesBy_204 g0 g_ ∧ en_get 0 l_ = some (.ref 204) ∧ en_get 1 l_ = some (.int a1) ∧ en_get 2 l_ = some (.int a2) ∧ en_get 3 l_ = some (.int x34626) ∧ en_get 4 l_ = some (.int v23135) ∧ en_get 5 l_ = some (.int 1) ∧ en_get 6 l_ = some (.int x34277) ∧ en_get 7 l_ = some (.int x34627) ∧ (0 ≤ x34627.toInt ∧ x34627.toInt ≤ 8)) ?_ (8 - 0) ⟨x34276, 0, by first | rfl | omega, hI34313, hF34317, (w_p1 (by decide) (Or.inr rfl) e34284), (w_p1 (by decide) (Or.inr rfl) e34285), (w_p1 (by decide) (Or.inr rfl) e34286), (w_p1 (by decide) (Or.inr rfl) e34287), (w_p1 (by decide) (Or.inr rfl) e34288), (w_p1 (by decide) (Or.inr rfl) e34289), (w_p1 (by decide) (Or.inr rfl) e34290), (w_e1 _ _ _), by decide⟩
          rintro n34632 l34631 g34628 ⟨x34626, x34627, hm34644, hI34629, hF34630, e34634, e34635, e34636, e34637, e34638, e34639, e34640, e34641, r34642⟩ ih34633
          refine At.enter rfl ?_
          refine r_iload e34641 ?_
          refine r_aload_n e34634 ?_
          refine q_getR (Sh.ref hI34629.1 kx_204 rfl) ?_
          obtain ⟨v34645, hv34645⟩ : ∃ v, gI g0 1 4 = v := ⟨_, rfl⟩
          have rv34645 := RgF.at hI0.2.1 (p := 1) (b := 4) rfl
          rw [hv34645] at rv34645
          dsimp only at rv34645
          refine q_getI (Sh.int hI34629.1 kx_1 rfl) v34645 ((hF34630.1 1 4 (by decide)).trans hv34645) ?_
          have bv34647 := q_bnd x34627
          have bv34648 := q_bnd v34645
          refine r_ics 95 rfl (fun c34646 => ?_) (fun c34646 => ?_)
          · have c34646_ : x34627.toInt ≥ v34645.toInt := en_i_ge_t c34646
            refine At.enter rfl ?_
            refine r_iload_n e34637 ?_
            refine r_ifs 160 rfl (fun c34649 => ?_) (fun c34649 => ?_)
            · have c34649_ : x34626.toInt = 0 := en_k_eq_t c34649
              refine At.enter rfl ?_
              refine q_iinc e34640 (x34277.toInt + 1) rfl (by omega) (fun v34650 hv34650 => ?_)
              refine r_goto ?_
              have bv34651 := q_bnd x34626
              exact ih34283 (100 - v34650.toInt) _ _ ⟨x34626, v34650, by first | rfl | omega, hI34629, hF34630, (w_p1 (by decide) (Or.inr rfl) e34634), (w_p1 (by decide) (Or.inr rfl) e34635), (w_p1 (by decide) (Or.inr rfl) e34636), (w_p1 (by decide) (Or.inr rfl) e34637), (w_p1 (by decide) (Or.inr rfl) e34638), (w_p1 (by decide) (Or.inr rfl) e34639), (w_e1 _ _ _), by omega⟩ ⟨by omega, by omega⟩
            · have c34649_ : x34626.toInt ≠ 0 := en_k_eq_f c34649
              refine At.enter rfl ?_
              refine r_aload_n e34634 ?_
              obtain ⟨v34652, hv34652⟩ : ∃ v, gI g34628 204 18 = v := ⟨_, rfl⟩
              refine q_getI (Sh.int hI34629.1 kx_204 rfl) v34652 hv34652 ?_
              refine r_ifs 167 rfl (fun c34653 => ?_) (fun c34653 => ?_)
              · have c34653_ : v34652.toInt ≠ 0 := en_k_ne_t c34653
                refine At.enter rfl ?_
                refine q_iinc e34640 (x34277.toInt + 1) rfl (by omega) (fun v34654 hv34654 => ?_)
                refine r_goto ?_
                have bv34655 := q_bnd x34626
                exact ih34283 (100 - v34654.toInt) _ _ ⟨x34626, v34654, by first | rfl | omega, hI34629, hF34630, (w_p1 (by decide) (Or.inr rfl) e34634), (w_p1 (by decide) (Or.inr rfl) e34635), (w_p1 (by decide) (Or.inr rfl) e34636), (w_p1 (by decide) (Or.inr rfl) e34637), (w_p1 (by decide) (Or.inr rfl) e34638), (w_p1 (by decide) (Or.inr rfl) e34639), (w_e1 _ _ _), by omega⟩ ⟨by omega, by omega⟩
              · have c34653_ : v34652.toInt = 0 := en_k_ne_f c34653
                refine At.enter rfl ?_
                refine r_iload e34639 ?_
                refine r_iff 172 rfl (by decide) ?_
                refine At.enter rfl ?_
                refine r_iload e34640 ?_
                refine r_iload e34638 ?_
                have bv34657 := q_bnd x34277
                have bv34658 := q_bnd v23135
                refine r_ics 179 rfl (fun c34656 => ?_) (fun c34656 => ?_)
                · have c34656_ : x34277.toInt < v23135.toInt := en_i_lt_t c34656
                  refine At.enter rfl ?_
                  refine q_iinc e34640 (x34277.toInt + 1) rfl (by omega) (fun v34659 hv34659 => ?_)
                  refine r_goto ?_
                  have bv34660 := q_bnd x34626
                  exact ih34283 (100 - v34659.toInt) _ _ ⟨x34626, v34659, by first | rfl | omega, hI34629, hF34630, (w_p1 (by decide) (Or.inr rfl) e34634), (w_p1 (by decide) (Or.inr rfl) e34635), (w_p1 (by decide) (Or.inr rfl) e34636), (w_p1 (by decide) (Or.inr rfl) e34637), (w_p1 (by decide) (Or.inr rfl) e34638), (w_p1 (by decide) (Or.inr rfl) e34639), (w_e1 _ _ _), by omega⟩ ⟨by omega, by omega⟩
                · have c34656_ : x34277.toInt ≥ v23135.toInt := en_i_lt_f c34656
                  refine At.enter rfl ?_
                  refine r_iconst 0 rfl ?_
                  refine r_iretz (by decide) ?_
                  exact ⟨_, rfl, hI34629, hF34630, _, rfl, by decide⟩
          · have c34646_ : x34627.toInt < v34645.toInt := en_i_ge_f c34646
            refine At.enter rfl ?_
            refine r_iload_n e34637 ?_
            refine r_iload e34641 ?_
            refine q_inlS 101 rfl [.int x34626, .int x34627] [] (Nat.le_of_ble_eq_true rfl) rfl ?_
            refine Ev.mk rfl rfl ⟨Nat.le_of_ble_eq_true rfl, Or.inl rfl⟩ ?_
            show At _ none _ _ (0, [(0, .int x34626), (1, .int x34627)], [], (_, _)) _
            refine At.enter rfl ?_
            refine r_iload_n rfl ?_
            refine r_iload_n rfl ?_
            refine q_ishrO (fun v34661 hv34661 => ?_)
            refine r_iconst 1 rfl ?_
            refine q_iandO (fun v34662 hv34662 => ?_)
            refine r_ifs 8 rfl (fun c34663 => ?_) (fun c34663 => ?_)
            · have c34663_ : v34662.toInt = 0 := en_k_eq_t c34663
              refine At.enter rfl ?_
              refine r_iconst 0 rfl ?_
              refine Ar.fall 13 rfl ?_
              refine At.enter rfl ?_
              refine q_iretz (by decide) ?_
              refine At.enter rfl ?_
              refine r_ift (by decide) ?_
              refine At.enter rfl ?_
              refine r_iload_n e34637 ?_
              refine r_iload e34641 ?_
              refine q_inlS 131 rfl [.int x34626, .int x34627] [] (Nat.le_of_ble_eq_true rfl) rfl ?_
              refine Ev.mk rfl rfl ⟨Nat.le_of_ble_eq_true rfl, Or.inl rfl⟩ ?_
              show At _ none _ _ (0, [(0, .int x34626), (1, .int x34627)], [], (_, _)) _
              refine At.enter rfl ?_
              refine r_iload_n rfl ?_
              refine r_iload_n rfl ?_
              refine q_ishrO (fun v34664 hv34664 => ?_)
              refine r_iconst 1 rfl ?_
              refine q_iandO (fun v34665 hv34665 => ?_)
              refine r_ifs 8 rfl (fun c34666 => ?_) (fun c34666 => ?_)
              · have c34666_ : v34665.toInt = 0 := en_k_eq_t c34666
                refine At.enter rfl ?_
                refine r_iconst 0 rfl ?_
                refine Ar.fall 13 rfl ?_
                refine At.enter rfl ?_
                refine q_iretz (by decide) ?_
                refine At.enter rfl ?_
                refine r_ift (by decide) ?_
                refine At.enter rfl ?_
                refine q_iinc e34641 (x34627.toInt + 1) rfl (by omega) (fun v34667 hv34667 => ?_)
                refine r_goto ?_
                have bv34668 := q_bnd x34626
                exact ih34633 (8 - v34667.toInt) _ _ ⟨x34626, v34667, by first | rfl | omega, hI34629, hF34630, (w_p1 (by decide) (Or.inr rfl) e34634), (w_p1 (by decide) (Or.inr rfl) e34635), (w_p1 (by decide) (Or.inr rfl) e34636), (w_p1 (by decide) (Or.inr rfl) e34637), (w_p1 (by decide) (Or.inr rfl) e34638), (w_p1 (by decide) (Or.inr rfl) e34639), (w_p1 (by decide) (Or.inr rfl) e34640), (w_e1 _ _ _), by omega⟩ ⟨by omega, by omega⟩
              · have c34666_ : v34665.toInt ≠ 0 := en_k_eq_f c34666
                refine At.enter rfl ?_
                refine r_iconst 1 rfl ?_
                refine r_goto ?_
                refine At.enter rfl ?_
                refine q_iretz (by decide) ?_
                refine At.enter rfl ?_
                refine r_iff 134 rfl (by decide) ?_
                refine At.enter rfl ?_
                refine r_iload e34640 ?_
                refine r_aload_n e34634 ?_
                refine q_getR (Sh.ref hI34629.1 kx_204 rfl) ?_
                refine r_iload e34641 ?_
                obtain ⟨v34669, hv34669⟩ : ∃ v, eA g34628 210 x34627.toInt = v := ⟨_, rfl⟩
                refine q_iald (Sh.arr hI34629.1 ka_210) x34627.toInt rfl (by omega) v34669 hv34669 ?_
                refine q_iaddO (fun v34670 _ => ?_)
                refine r_iload_n e34636 ?_
                have bv34672 := q_bnd v34670
                have bv34673 := q_bnd a2
                refine r_ics 148 rfl (fun c34671 => ?_) (fun c34671 => ?_)
                · have c34671_ : v34670.toInt ≤ a2.toInt := en_i_le_t c34671
                  refine At.enter rfl ?_
                  refine q_iinc e34641 (x34627.toInt + 1) rfl (by omega) (fun v34674 hv34674 => ?_)
                  refine r_goto ?_
                  have bv34675 := q_bnd x34626
                  exact ih34633 (8 - v34674.toInt) _ _ ⟨x34626, v34674, by first | rfl | omega, hI34629, hF34630, (w_p1 (by decide) (Or.inr rfl) e34634), (w_p1 (by decide) (Or.inr rfl) e34635), (w_p1 (by decide) (Or.inr rfl) e34636), (w_p1 (by decide) (Or.inr rfl) e34637), (w_p1 (by decide) (Or.inr rfl) e34638), (w_p1 (by decide) (Or.inr rfl) e34639), (w_p1 (by decide) (Or.inr rfl) e34640), (w_e1 _ _ _), by omega⟩ ⟨by omega, by omega⟩
                · have c34671_ : v34670.toInt > a2.toInt := en_i_le_f c34671
                  refine At.enter rfl ?_
                  refine r_iconst 0 rfl ?_
                  refine r_iretz (by decide) ?_
                  exact ⟨_, rfl, hI34629, hF34630, _, rfl, by decide⟩
            · have c34663_ : v34662.toInt ≠ 0 := en_k_eq_f c34663
              refine At.enter rfl ?_
              refine r_iconst 1 rfl ?_
              refine r_goto ?_
              refine At.enter rfl ?_
              refine q_iretz (by decide) ?_
              refine At.enter rfl ?_
              refine r_iff 104 rfl (by decide) ?_
              refine At.enter rfl ?_
              refine r_aload_n e34634 ?_
              refine q_getR (Sh.ref hI34629.1 kx_204 rfl) ?_
              refine r_iload e34641 ?_
              obtain ⟨v34676, hv34676⟩ : ∃ v, eA g34628 212 x34627.toInt = v := ⟨_, rfl⟩
              refine q_iald (Sh.arr hI34629.1 ka_212) x34627.toInt rfl (by omega) v34676 hv34676 ?_
              refine r_iconst (-1) rfl ?_
              refine r_ics 115 rfl (fun c34677 => ?_) (fun c34677 => ?_)
              · have c34677_ : v34676.toInt = (-1) := en_i_eq_t c34677
                refine At.enter rfl ?_
                refine r_iload_n e34637 ?_
                refine r_iload e34641 ?_
                refine q_inlS 131 rfl [.int x34626, .int x34627] [] (Nat.le_of_ble_eq_true rfl) rfl ?_
                refine Ev.mk rfl rfl ⟨Nat.le_of_ble_eq_true rfl, Or.inl rfl⟩ ?_
                show At _ none _ _ (0, [(0, .int x34626), (1, .int x34627)], [], (_, _)) _
                refine At.enter rfl ?_
                refine r_iload_n rfl ?_
                refine r_iload_n rfl ?_
                refine q_ishrO (fun v34678 hv34678 => ?_)
                refine r_iconst 1 rfl ?_
                refine q_iandO (fun v34679 hv34679 => ?_)
                refine r_ifs 8 rfl (fun c34680 => ?_) (fun c34680 => ?_)
                · have c34680_ : v34679.toInt = 0 := en_k_eq_t c34680
                  refine At.enter rfl ?_
                  refine r_iconst 0 rfl ?_
                  refine Ar.fall 13 rfl ?_
                  refine At.enter rfl ?_
                  refine q_iretz (by decide) ?_
                  refine At.enter rfl ?_
                  refine r_ift (by decide) ?_
                  refine At.enter rfl ?_
                  refine q_iinc e34641 (x34627.toInt + 1) rfl (by omega) (fun v34681 hv34681 => ?_)
                  refine r_goto ?_
                  have bv34682 := q_bnd x34626
                  exact ih34633 (8 - v34681.toInt) _ _ ⟨x34626, v34681, by first | rfl | omega, hI34629, hF34630, (w_p1 (by decide) (Or.inr rfl) e34634), (w_p1 (by decide) (Or.inr rfl) e34635), (w_p1 (by decide) (Or.inr rfl) e34636), (w_p1 (by decide) (Or.inr rfl) e34637), (w_p1 (by decide) (Or.inr rfl) e34638), (w_p1 (by decide) (Or.inr rfl) e34639), (w_p1 (by decide) (Or.inr rfl) e34640), (w_e1 _ _ _), by omega⟩ ⟨by omega, by omega⟩
                · have c34680_ : v34679.toInt ≠ 0 := en_k_eq_f c34680
                  refine At.enter rfl ?_
                  refine r_iconst 1 rfl ?_
                  refine r_goto ?_
                  refine At.enter rfl ?_
                  refine q_iretz (by decide) ?_
                  refine At.enter rfl ?_
                  refine r_iff 134 rfl (by decide) ?_
                  refine At.enter rfl ?_
                  refine r_iload e34640 ?_
                  refine r_aload_n e34634 ?_
                  refine q_getR (Sh.ref hI34629.1 kx_204 rfl) ?_
                  refine r_iload e34641 ?_
                  obtain ⟨v34683, hv34683⟩ : ∃ v, eA g34628 210 x34627.toInt = v := ⟨_, rfl⟩
                  refine q_iald (Sh.arr hI34629.1 ka_210) x34627.toInt rfl (by omega) v34683 hv34683 ?_
                  refine q_iaddO (fun v34684 _ => ?_)
                  refine r_iload_n e34636 ?_
                  have bv34686 := q_bnd v34684
                  have bv34687 := q_bnd a2
                  refine r_ics 148 rfl (fun c34685 => ?_) (fun c34685 => ?_)
                  · have c34685_ : v34684.toInt ≤ a2.toInt := en_i_le_t c34685
                    refine At.enter rfl ?_
                    refine q_iinc e34641 (x34627.toInt + 1) rfl (by omega) (fun v34688 hv34688 => ?_)
                    refine r_goto ?_
                    have bv34689 := q_bnd x34626
                    exact ih34633 (8 - v34688.toInt) _ _ ⟨x34626, v34688, by first | rfl | omega, hI34629, hF34630, (w_p1 (by decide) (Or.inr rfl) e34634), (w_p1 (by decide) (Or.inr rfl) e34635), (w_p1 (by decide) (Or.inr rfl) e34636), (w_p1 (by decide) (Or.inr rfl) e34637), (w_p1 (by decide) (Or.inr rfl) e34638), (w_p1 (by decide) (Or.inr rfl) e34639), (w_p1 (by decide) (Or.inr rfl) e34640), (w_e1 _ _ _), by omega⟩ ⟨by omega, by omega⟩
                  · have c34685_ : v34684.toInt > a2.toInt := en_i_le_f c34685
                    refine At.enter rfl ?_
                    refine r_iconst 0 rfl ?_
                    refine r_iretz (by decide) ?_
                    exact ⟨_, rfl, hI34629, hF34630, _, rfl, by decide⟩
              · have c34677_ : v34676.toInt ≠ (-1) := en_i_eq_f c34677
                refine At.enter rfl ?_
                refine r_iload_n e34637 ?_
                refine r_iconst 1 rfl ?_
                refine r_iload e34641 ?_
                refine q_ishlO (fun v34690 hv34690 => ?_)
                refine q_isubO (fun v34691 _ => ?_)
                refine r_istore_n _ rfl ?_
                refine r_goto ?_
                refine At.enter rfl ?_
                refine q_iinc (w_p1 (by decide) (Or.inr rfl) e34641) (x34627.toInt + 1) rfl (by omega) (fun v34692 hv34692 => ?_)
                refine r_goto ?_
                have bv34693 := q_bnd v34691
                exact ih34633 (8 - v34692.toInt) _ _ ⟨v34691, v34692, by first | rfl | omega, hI34629, hF34630, (w_p1 (by decide) (Or.inr rfl) (w_p1 (by decide) (Or.inr rfl) e34634)), (w_p1 (by decide) (Or.inr rfl) (w_p1 (by decide) (Or.inr rfl) e34635)), (w_p1 (by decide) (Or.inr rfl) (w_p1 (by decide) (Or.inr rfl) e34636)), (w_p1 (by decide) (Or.inr rfl) (w_e1 _ _ _)), (w_p1 (by decide) (Or.inr rfl) (w_p1 (by decide) (Or.inr rfl) e34638)), (w_p1 (by decide) (Or.inr rfl) (w_p1 (by decide) (Or.inr rfl) e34639)), (w_p1 (by decide) (Or.inr rfl) (w_p1 (by decide) (Or.inr rfl) e34640)), (w_e1 _ _ _), by omega⟩ ⟨by omega, by omega⟩
  · have c23125_ : v23122.toInt = 0 := en_k_ne_f c23125
    refine At.enter rfl ?_
    refine r_iconst 0 rfl ?_
    refine r_iretz (by decide) ?_
    exact ⟨_, rfl, hI23120, hF23124, _, rfl, by decide⟩
