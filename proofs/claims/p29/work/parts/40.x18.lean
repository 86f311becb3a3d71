def F_X1_isCarried_204 : List (Nat × Nat) := []
def A_X1_isCarried_204 : List Nat := []
set_option maxRecDepth 100000 in
set_option maxHeartbeats 4000000 in
theorem T_X1_isCarried_204 (d : Nat) {N : Nat} {g0 : List en_E} (hI0 : HI g0) (a1 : Int32) (h_a1 : 0 ≤ a1.toInt ∧ a1.toInt ≤ 7) : Ev (d + 2) 22 [.ref 204, .int a1] (g0, N) (fun w h' => ∃ g', h' = (g', N) ∧ HI g' ∧ Fr F_X1_isCarried_204 A_X1_isCarried_204 g0 g' ∧ ∃ r : Int32, w = some (.int r) ∧ (0 ≤ r.toInt ∧ r.toInt ≤ 1)) := by
  have hF0 : Fr F_X1_isCarried_204 A_X1_isCarried_204 g0 g0 := Fr.rf
  refine Ev.mk rfl rfl ⟨Nat.le_of_ble_eq_true rfl, Or.inr (q_rc hI0.1 kx_204 rfl)⟩ ?_
  show At _ none _ _ (0, [(0, .ref 204), (1, .int a1)], [], (_, _)) _
  refine At.enter rfl ?_
  refine r_aload_n rfl ?_
  refine q_getR (Sh.ref hI0.1 kx_204 rfl) ?_
  refine r_iload_n rfl ?_
  refine r_iconst 1 rfl ?_
  refine r_callV 9 rfl [.ref 1, .int a1, .int 1] [] (Nat.le_of_ble_eq_true rfl) rfl (T_X0_about_1 _ hI0 a1 1) ?_
  rintro _ _ ⟨g855, rfl, hI856, hF857, v858, rfl, hr859⟩
  refine At.sti ?_
  have ks862 := hr859.2.2
  have hr861 : _ ∧ _ := ⟨hr859.1, hr859.2.1⟩
  have hF860 := Fr.tr hF0 hF857 rfl rfl
  have zv863 : (1 : Int32).toInt = 1 := rfl
  refine At.enter rfl ?_
  refine r_istore_n ([(2, .int v858), (0, .ref 204), (1, .int a1)]) rfl ?_
  refine r_aload_n rfl ?_
  refine q_getR (Sh.ref hI856.1 kx_204 rfl) ?_
  refine r_iload_n rfl ?_
  refine r_iconst 0 rfl ?_
  refine r_callV 19 rfl [.ref 1, .int a1, .int 0] [] (Nat.le_of_ble_eq_true rfl) rfl (T_X0_about_1 _ hI856 a1 0) ?_
  rintro _ _ ⟨g864, rfl, hI865, hF866, v867, rfl, hr868⟩
  refine At.sti ?_
  have ks871 := hr868.2.2
  have hr870 : _ ∧ _ := ⟨hr868.1, hr868.2.1⟩
  have hF869 := Fr.tr hF860 hF866 rfl rfl
  have zv872 : (0 : Int32).toInt = 0 := rfl
  refine At.enter rfl ?_
  refine r_istore_n ([(3, .int v867), (2, .int v858), (0, .ref 204), (1, .int a1)]) rfl ?_
  refine r_iconst 0 rfl ?_
  refine r_istore ([(4, .int 0), (3, .int v867), (2, .int v858), (0, .ref 204), (1, .int a1)]) rfl ?_
  refine Ar.fall 23 rfl ?_
  have z_1265 : (0 : Int32).toInt = 0 := rfl
  refine w_loopI (fun n_ l_ g_ => ∃ x1251 : Int32, ∃ x1252 : Int32, n_ = 2147483647 - x1252.toInt ∧ HI g_ ∧ Fr F_X1_isCarried_204 A_X1_isCarried_204 g0 g_ ∧ en_get 0 l_ = some (.ref 204) ∧ en_get 1 l_ = some (.int a1) ∧ en_get 2 l_ = some (.int x1251) ∧ en_get 3 l_ = some (.int v867) ∧ en_get 4 l_ = some (.int x1252) ∧ 0 ≤ x1252.toInt) ?_ (2147483647 - 0) ⟨v858, 0, by first | rfl | omega, hI865, hF869, rfl, rfl, rfl, rfl, rfl, by decide⟩
  rintro n1257 l1256 g1253 ⟨x1251, x1252, hm1266, hI1254, hF1255, e1259, e1260, e1261, e1262, e1263, r1264⟩ ih1258
  refine At.enter rfl ?_
  refine r_iload e1263 ?_
  refine r_aload_n e1259 ?_
  refine q_getR (Sh.ref hI1254.1 kx_204 rfl) ?_
  refine r_iload_n e1260 ?_
  obtain ⟨v1267, hv1267⟩ : ∃ v, eA g0 209 a1.toInt = v := ⟨_, rfl⟩
  refine q_iald (Sh.arr hI1254.1 ka_209) a1.toInt rfl (by omega) v1267 ((eA_c (hF1255.2.1 209 (by decide))).trans hv1267) ?_
  have bv1269 := q_bnd x1252
  have bv1270 := q_bnd v1267
  refine r_ics 34 rfl (fun c1268 => ?_) (fun c1268 => ?_)
  · have c1268_ : x1252.toInt ≥ v1267.toInt := en_i_ge_t c1268
    refine At.enter rfl ?_
    refine r_iconst 1 rfl ?_
    refine r_iretz (by decide) ?_
    exact ⟨_, rfl, hI1254, hF1255, _, rfl, by decide⟩
  · have c1268_ : x1252.toInt < v1267.toInt := en_i_ge_f c1268
    refine At.enter rfl ?_
    refine r_aload_n e1259 ?_
    refine q_getR (Sh.ref hI1254.1 kx_204 rfl) ?_
    refine r_iload_n e1261 ?_
    refine q_inlV 42 rfl [.ref 1, .int x1251] [] (Nat.le_of_ble_eq_true rfl) rfl ?_
    refine Ev.mk rfl rfl ⟨Nat.le_of_ble_eq_true rfl, Or.inr (q_rc hI1254.1 kx_1 rfl)⟩ ?_
    show At _ none _ _ (0, [(0, .ref 1), (1, .int x1251)], [], (_, _)) _
    refine At.enter rfl ?_
    refine r_iload_n rfl ?_
    refine r_ifs 4 rfl (fun c1271 => ?_) (fun c1271 => ?_)
    · have c1271_ : x1251.toInt < 0 := en_k_lt_t c1271
      refine At.enter rfl ?_
      refine r_iconst 0 rfl ?_
      refine Ar.fall 17 rfl ?_
      refine At.enter rfl ?_
      refine q_iretz (by decide) ?_
      refine At.enter rfl ?_
      refine r_ift (by decide) ?_
      refine At.enter rfl ?_
      refine r_iconst 1 rfl ?_
      refine r_iretz (by decide) ?_
      exact ⟨_, rfl, hI1254, hF1255, _, rfl, by decide⟩
    · have c1271_ : x1251.toInt ≥ 0 := en_k_lt_f c1271
      refine At.enter rfl ?_
      refine r_iload_n rfl ?_
      refine r_aload_n rfl ?_
      obtain ⟨v1272, hv1272⟩ : ∃ v, gI g0 1 0 = v := ⟨_, rfl⟩
      have rv1272 := RgF.at hI0.2.1 (p := 1) (b := 0) rfl
      rw [hv1272] at rv1272
      dsimp only at rv1272
      refine q_getI (Sh.int hI1254.1 kx_1 rfl) v1272 ((hF1255.1 1 0 (by decide)).trans hv1272) ?_
      have bv1274 := q_bnd x1251
      have bv1275 := q_bnd v1272
      refine r_ics 12 rfl (fun c1273 => ?_) (fun c1273 => ?_)
      · have c1273_ : x1251.toInt ≥ v1272.toInt := en_i_ge_t c1273
        refine At.enter rfl ?_
        refine r_iconst 0 rfl ?_
        refine Ar.fall 17 rfl ?_
        refine At.enter rfl ?_
        refine q_iretz (by decide) ?_
        refine At.enter rfl ?_
        refine r_ift (by decide) ?_
        refine At.enter rfl ?_
        refine r_iconst 1 rfl ?_
        refine r_iretz (by decide) ?_
        exact ⟨_, rfl, hI1254, hF1255, _, rfl, by decide⟩
      · have c1273_ : x1251.toInt < v1272.toInt := en_i_ge_f c1273
        refine At.enter rfl ?_
        refine r_iconst 1 rfl ?_
        refine r_goto ?_
        refine At.enter rfl ?_
        refine q_iretz (by decide) ?_
        refine At.enter rfl ?_
        refine r_iff 45 rfl (by decide) ?_
        refine At.enter rfl ?_
        refine r_aload_n e1259 ?_
        refine q_getR (Sh.ref hI1254.1 kx_204 rfl) ?_
        refine r_iload_n e1261 ?_
        obtain ⟨v1276, hv1276⟩ : ∃ v, eA g0 205 x1251.toInt = v := ⟨_, rfl⟩
        refine q_iald (Sh.arr hI1254.1 ka_205) x1251.toInt rfl (by omega) v1276 ((eA_c (hF1255.2.1 205 (by decide))).trans hv1276) ?_
        refine r_iload_n e1262 ?_
        have bv1278 := q_bnd v1276
        have bv1279 := q_bnd v867
        refine r_ics 55 rfl (fun c1277 => ?_) (fun c1277 => ?_)
        · have c1277_ : v1276.toInt ≥ v867.toInt := en_i_ge_t c1277
          refine At.enter rfl ?_
          refine r_aload_n e1259 ?_
          refine q_getR (Sh.ref hI1254.1 kx_204 rfl) ?_
          refine r_iload_n e1261 ?_
          obtain ⟨v1280, hv1280⟩ : ∃ v, eA g0 208 x1251.toInt = v := ⟨_, rfl⟩
          refine q_iald (Sh.arr hI1254.1 ka_208) x1251.toInt rfl (by omega) v1280 ((eA_c (hF1255.2.1 208 (by decide))).trans hv1280) ?_
          refine r_istore_n _ rfl ?_
          refine q_iinc (w_p1 (by decide) (Or.inr rfl) e1263) (x1252.toInt + 1) rfl (by omega) (fun v1281 hv1281 => ?_)
          refine r_goto ?_
          have bv1282 := q_bnd v1280
          have bv1283 := q_bnd v1281
          exact ih1258 (2147483647 - v1281.toInt) _ _ ⟨v1280, v1281, by first | rfl | omega, hI1254, hF1255, (w_p1 (by decide) (Or.inr rfl) (w_p1 (by decide) (Or.inr rfl) e1259)), (w_p1 (by decide) (Or.inr rfl) (w_p1 (by decide) (Or.inr rfl) e1260)), (w_p1 (by decide) (Or.inr rfl) (w_e1 _ _ _)), (w_p1 (by decide) (Or.inr rfl) (w_p1 (by decide) (Or.inr rfl) e1262)), (w_e1 _ _ _), by omega⟩ ⟨by omega, by omega⟩
        · have c1277_ : v1276.toInt < v867.toInt := en_i_ge_f c1277
          refine At.enter rfl ?_
          refine r_iconst 0 rfl ?_
          refine r_iretz (by decide) ?_
          exact ⟨_, rfl, hI1254, hF1255, _, rfl, by decide⟩

def F_X1_canComeBy_204 : List (Nat × Nat) := []
def A_X1_canComeBy_204 : List Nat := []
set_option maxRecDepth 100000 in
set_option maxHeartbeats 4000000 in
theorem T_X1_canComeBy_204 (d : Nat) {N : Nat} {g0 : List en_E} (hI0 : HI g0) (a1 : Int32) (a2 : Int32) : Ev (d + 3) 21 [.ref 204, .int a1, .int a2] (g0, N) (fun w h' => ∃ g', h' = (g', N) ∧ HI g' ∧ Fr F_X1_canComeBy_204 A_X1_canComeBy_204 g0 g' ∧ ∃ r : Int32, w = some (.int r) ∧ (0 ≤ r.toInt ∧ r.toInt ≤ 1)) := by
  have hF0 : Fr F_X1_canComeBy_204 A_X1_canComeBy_204 g0 g0 := Fr.rf
  refine Ev.mk rfl rfl ⟨Nat.le_of_ble_eq_true rfl, Or.inr (q_rc hI0.1 kx_204 rfl)⟩ ?_
  show At _ none _ _ (0, [(0, .ref 204), (1, .int a1), (2, .int a2)], [], (_, _)) _
  refine At.enter rfl ?_
  refine r_iconst 0 rfl ?_
  refine r_istore_n ([(3, .int 0), (0, .ref 204), (1, .int a1), (2, .int a2)]) rfl ?_
  refine Ar.fall 2 rfl ?_
  have z_681 : (0 : Int32).toInt = 0 := rfl
  refine w_loopI (fun n_ l_ g_ => ∃ x669 : Int32, n_ = 8 - x669.toInt ∧ HI g_ ∧ Fr F_X1_canComeBy_204 A_X1_canComeBy_204 g0 g_ ∧ en_get 0 l_ = some (.ref 204) ∧ en_get 1 l_ = some (.int a1) ∧ en_get 2 l_ = some (.int a2) ∧ en_get 3 l_ = some (.int x669) ∧ (0 ≤ x669.toInt ∧ x669.toInt ≤ 8)) ?_ (8 - 0) ⟨0, by first | rfl | omega, hI0, hF0, rfl, rfl, rfl, rfl, by decide⟩
  rintro n674 l673 g670 ⟨x669, hm682, hI671, hF672, e676, e677, e678, e679, r680⟩ ih675
  refine At.enter rfl ?_
  refine r_iload_n e679 ?_
  refine r_aload_n e676 ?_
  refine q_getR (Sh.ref hI671.1 kx_204 rfl) ?_
  obtain ⟨v683, hv683⟩ : ∃ v, gI g0 1 4 = v := ⟨_, rfl⟩
  have rv683 := RgF.at hI0.2.1 (p := 1) (b := 4) rfl
  rw [hv683] at rv683
  dsimp only at rv683
  refine q_getI (Sh.int hI671.1 kx_1 rfl) v683 ((hF672.1 1 4 (by decide)).trans hv683) ?_
  have bv685 := q_bnd x669
  have bv686 := q_bnd v683
  refine r_ics 13 rfl (fun c684 => ?_) (fun c684 => ?_)
  · have c684_ : x669.toInt ≥ v683.toInt := en_i_ge_t c684
    refine At.enter rfl ?_
    refine r_iconst 1 rfl ?_
    refine r_iretz (by decide) ?_
    exact ⟨_, rfl, hI671, hF672, _, rfl, by decide⟩
  · have c684_ : x669.toInt < v683.toInt := en_i_ge_f c684
    refine At.enter rfl ?_
    refine r_iload_n e677 ?_
    refine r_iload_n e679 ?_
    refine q_inlS 18 rfl [.int a1, .int x669] [] (Nat.le_of_ble_eq_true rfl) rfl ?_
    refine Ev.mk rfl rfl ⟨Nat.le_of_ble_eq_true rfl, Or.inl rfl⟩ ?_
    show At _ none _ _ (0, [(0, .int a1), (1, .int x669)], [], (_, _)) _
    refine At.enter rfl ?_
    refine r_iload_n rfl ?_
    refine r_iload_n rfl ?_
    refine q_ishrO (fun v687 hv687 => ?_)
    refine r_iconst 1 rfl ?_
    refine q_iandO (fun v688 hv688 => ?_)
    refine r_ifs 8 rfl (fun c689 => ?_) (fun c689 => ?_)
    · have c689_ : v688.toInt = 0 := en_k_eq_t c689
      refine At.enter rfl ?_
      refine r_iconst 0 rfl ?_
      refine Ar.fall 13 rfl ?_
      refine At.enter rfl ?_
      refine q_iretz (by decide) ?_
      refine At.enter rfl ?_
      refine r_ift (by decide) ?_
      refine At.enter rfl ?_
      refine q_iinc e679 (x669.toInt + 1) rfl (by omega) (fun v690 hv690 => ?_)
      refine r_goto ?_
      exact ih675 (8 - v690.toInt) _ _ ⟨v690, by first | rfl | omega, hI671, hF672, (w_p1 (by decide) (Or.inr rfl) e676), (w_p1 (by decide) (Or.inr rfl) e677), (w_p1 (by decide) (Or.inr rfl) e678), (w_e1 _ _ _), by omega⟩ ⟨by omega, by omega⟩
    · have c689_ : v688.toInt ≠ 0 := en_k_eq_f c689
      refine At.enter rfl ?_
      refine r_iconst 1 rfl ?_
      refine r_goto ?_
      refine At.enter rfl ?_
      refine q_iretz (by decide) ?_
      refine At.enter rfl ?_
      refine r_iff 21 rfl (by decide) ?_
      refine At.enter rfl ?_
      refine r_aload_n e676 ?_
      refine q_getR (Sh.ref hI671.1 kx_204 rfl) ?_
      refine r_iload_n e679 ?_
      obtain ⟨v691, hv691⟩ : ∃ v, eA g0 209 x669.toInt = v := ⟨_, rfl⟩
      refine q_iald (Sh.arr hI671.1 ka_209) x669.toInt rfl (by omega) v691 ((eA_c (hF672.2.1 209 (by decide))).trans hv691) ?_
      refine r_iconst (-1) rfl ?_
      refine r_ics 31 rfl (fun c692 => ?_) (fun c692 => ?_)
      · have c692_ : v691.toInt = (-1) := en_i_eq_t c692
        refine At.enter rfl ?_
        refine r_iconst 0 rfl ?_
        refine r_iretz (by decide) ?_
        exact ⟨_, rfl, hI671, hF672, _, rfl, by decide⟩
      · have c692_ : v691.toInt ≠ (-1) := en_i_eq_f c692
        refine At.enter rfl ?_
        refine r_aload_n e676 ?_
        refine q_getR (Sh.ref hI671.1 kx_204 rfl) ?_
        refine r_iload_n e679 ?_
        obtain ⟨v693, hv693⟩ : ∃ v, eA g0 207 x669.toInt = v := ⟨_, rfl⟩
        refine q_iald (Sh.arr hI671.1 ka_207) x669.toInt rfl (by omega) v693 ((eA_c (hF672.2.1 207 (by decide))).trans hv693) ?_
        refine r_iconst 0 rfl ?_
        refine r_aload_n e676 ?_
        refine q_getR (Sh.ref hI671.1 kx_204 rfl) ?_
        refine r_iload_n e679 ?_
        refine q_iald (Sh.arr hI671.1 ka_209) x669.toInt rfl (by omega) v691 ((eA_c (hF672.2.1 209 (by decide))).trans hv691) ?_
        refine r_iconst 1 rfl ?_
        refine q_isubO (fun v694 _ => ?_)
        refine q_mmax rfl (Nat.le_of_ble_eq_true rfl) (fun v695 hv695 => ?_)
        have zv696 : (0 : Int32).toInt = 0 := rfl
        refine q_iaddO (fun v697 _ => ?_)
        refine r_iload_n e678 ?_
        have bv699 := q_bnd v697
        have bv700 := q_bnd a2
        refine r_ics 54 rfl (fun c698 => ?_) (fun c698 => ?_)
        · have c698_ : v697.toInt > a2.toInt := en_i_gt_t c698
          refine At.enter rfl ?_
          refine r_iconst 0 rfl ?_
          refine r_iretz (by decide) ?_
          exact ⟨_, rfl, hI671, hF672, _, rfl, by decide⟩
        · have c698_ : v697.toInt ≤ a2.toInt := en_i_gt_f c698
          refine At.enter rfl ?_
          refine r_aload_n e676 ?_
          refine r_iload_n e679 ?_
          refine r_callV 59 rfl [.ref 204, .int x669] [] (Nat.le_of_ble_eq_true rfl) rfl (T_X1_isCarried_204 _ hI671 x669 (by omega)) ?_
          rintro _ _ ⟨g701, rfl, hI702, hF703, v704, rfl, hr705⟩
          refine At.sti ?_
          have hF706 := Fr.tr hF672 hF703 rfl rfl
          refine At.enter rfl ?_
          refine r_ifs 62 rfl (fun c707 => ?_) (fun c707 => ?_)
          · have c707_ : v704.toInt ≠ 0 := en_k_ne_t c707
            refine At.enter rfl ?_
            refine q_iinc e679 (x669.toInt + 1) rfl (by omega) (fun v708 hv708 => ?_)
            refine r_goto ?_
            exact ih675 (8 - v708.toInt) _ _ ⟨v708, by first | rfl | omega, hI702, hF706, (w_p1 (by decide) (Or.inr rfl) e676), (w_p1 (by decide) (Or.inr rfl) e677), (w_p1 (by decide) (Or.inr rfl) e678), (w_e1 _ _ _), by omega⟩ ⟨by omega, by omega⟩
          · have c707_ : v704.toInt = 0 := en_k_ne_f c707
            refine At.enter rfl ?_
            refine r_iconst 0 rfl ?_
            refine r_iretz (by decide) ?_
            exact ⟨_, rfl, hI702, hF706, _, rfl, by decide⟩

def F_X1_comesBy_204 : List (Nat × Nat) := [(185, 3), (204, 16), (204, 18)]
def A_X1_comesBy_204 : List Nat := [210, 211, 212, 213, 214, 215, 216, 218]
theorem mf_X1_lastStart_204_1_9 : memF F_X1_lastStart_204 1 9 = false := by decide
theorem mf_X1_begin_204_1_9 : memF F_X1_begin_204 1 9 = false := by decide
theorem mf_X1_canComeBy_204_1_9 : memF F_X1_canComeBy_204 1 9 = false := by decide
set_option maxRecDepth 100000 in
set_option maxHeartbeats 4000000 in
theorem T_X1_comesBy_204 (d : Nat) {N : Nat} {g0 : List en_E} (hI0 : HI g0) (a1 : Int32) (a2 : Int32) : Ev (d + 5) 19 [.ref 204, .int a1, .int a2] (g0, N) (fun w h' => ∃ g', h' = (g', N) ∧ HI g' ∧ Fr F_X1_comesBy_204 A_X1_comesBy_204 g0 g' ∧ ∃ r : Int32, w = some (.int r) ∧ (0 ≤ r.toInt ∧ r.toInt ≤ 1)) := by
  have hF0 : Fr F_X1_comesBy_204 A_X1_comesBy_204 g0 g0 := Fr.rf
  refine Ev.mk rfl rfl ⟨Nat.le_of_ble_eq_true rfl, Or.inr (q_rc hI0.1 kx_204 rfl)⟩ ?_
  show At _ none _ _ (0, [(0, .ref 204), (1, .int a1), (2, .int a2)], [], (_, _)) _
  refine At.enter rfl ?_
  refine r_aload_n rfl ?_
  refine r_iload_n rfl ?_
  refine r_iload_n rfl ?_
  refine r_callV 6 rfl [.ref 204, .int a1, .int a2] [] (Nat.le_of_ble_eq_true rfl) rfl (T_X1_canComeBy_204 _ hI0 a1 a2) ?_
  rintro _ _ ⟨g23123, rfl, hI23124, hF23125, v23126, rfl, hr23127⟩
  refine At.sti ?_
  have hF23128 := Fr.tr hF0 hF23125 rfl rfl
  refine At.enter rfl ?_
  refine r_ifs 9 rfl (fun c23129 => ?_) (fun c23129 => ?_)
  · have c23129_ : v23126.toInt ≠ 0 := en_k_ne_t c23129
    refine At.enter rfl ?_
    refine r_aload_n rfl ?_
    refine r_callV 15 rfl [.ref 204] [] (Nat.le_of_ble_eq_true rfl) rfl (T_X1_begin_204 _ hI23124) ?_
    rintro _ _ ⟨g23130, rfl, hI23131, hF23132, rfl⟩
    refine At.stn ?_
    have hF23135 := Fr.tr hF23128 hF23132 rfl rfl
    refine At.enter rfl ?_
    refine r_iload_n rfl ?_
    refine r_istore_n ([(3, .int a1), (0, .ref 204), (1, .int a1), (2, .int a2)]) rfl ?_
    refine r_aload_n rfl ?_
    refine r_callV 21 rfl [.ref 204] [] (Nat.le_of_ble_eq_true rfl) rfl (T_X1_lastStart_204 _ hI23131) ?_
    rintro _ _ ⟨g23136, rfl, hI23137, hF23138, v23139, rfl, hr23140⟩
    refine At.sti ?_
    have hF23141 := Fr.tr hF23135 hF23138 rfl rfl
    refine At.enter rfl ?_
    refine r_istore ([(4, .int v23139), (3, .int a1), (0, .ref 204), (1, .int a1), (2, .int a2)]) rfl ?_
    refine r_aload_n rfl ?_
    refine q_getR (Sh.ref hI23137.1 kx_204 rfl) ?_
    refine q_inlV 30 rfl [.ref 1] [] (Nat.le_of_ble_eq_true rfl) rfl ?_
    refine Ev.mk rfl rfl ⟨Nat.le_of_ble_eq_true rfl, Or.inr (q_rc hI23137.1 kx_1 rfl)⟩ ?_
    show At _ none _ _ (0, [(0, .ref 1)], [], (_, _)) _
    refine At.enter rfl ?_
    refine r_aload_n rfl ?_
    refine r_aload_n rfl ?_
    obtain ⟨v23142, hv23142⟩ : ∃ v, gI g0 1 9 = v := ⟨_, rfl⟩
    refine q_getI (Sh.int hI23137.1 kx_1 rfl) v23142 (((hF23138.1 1 9 mf_X1_lastStart_204_1_9).trans ((hF23132.1 1 9 mf_X1_begin_204_1_9).trans (hF23125.1 1 9 mf_X1_canComeBy_204_1_9))).trans hv23142) ?_
    refine r_callV 8 rfl [.ref 1, .int v23142] [] (Nat.le_of_ble_eq_true rfl) rfl (T_X0_lawAt_1 _ hI23137 v23142) ?_
    rintro _ _ ⟨g23143, rfl, hI23144, hF23145, v23146, rfl, hr23147⟩
    refine At.str ?_
    have ks23150 := hr23147.2.2
    have hr23149 : _ ∧ _ := ⟨hr23147.1, hr23147.2.1⟩
    have hr23149_ := hr23149.1
    have hF23148 := Fr.tr hF23141 hF23145 rfl rfl
    refine At.enter rfl ?_
    refine q_aret ?_
    refine At.enter rfl ?_
    refine r_callV 33 rfl [.ref (v23146)] [] (Nat.le_of_ble_eq_true rfl) rfl (T_X4_asksOfTime_law _ hI23144 (v23146) hr23149_) ?_
    rintro _ _ ⟨g23151, rfl, hI23152, hF23153, v23154, rfl, hr23155⟩
    refine At.sti ?_
    have hF23156 := Fr.tr hF23148 hF23153 rfl rfl
    refine At.enter rfl ?_
    refine r_ifs 36 rfl (fun c23157 => ?_) (fun c23157 => ?_)
    · have c23157_ : v23154.toInt ≠ 0 := en_k_ne_t c23157
      refine At.enter rfl ?_
      refine r_iconst 0 rfl ?_
      refine Ar.fall 41 rfl ?_
      refine At.enter rfl ?_
      refine r_istore ([(5, .int 0), (4, .int v23139), (3, .int a1), (0, .ref 204), (1, .int a1), (2, .int a2)]) rfl ?_
      refine r_iconst 0 rfl ?_
      refine r_istore ([(6, .int 0), (5, .int 0), (4, .int v23139), (3, .int a1), (0, .ref 204), (1, .int a1), (2, .int a2)]) rfl ?_
      refine Ar.fall 46 rfl ?_
      have z_28371 : (0 : Int32).toInt = 0 := rfl
      refine w_loopI (fun n_ l_ g_ => ∃ x28355 : Int32, ∃ x28356 : Int32, n_ = 100 - x28356.toInt ∧ HI g_ ∧ Fr F_X1_comesBy_204 A_X1_comesBy_204 g0 g_ ∧ en_get 0 l_ = some (.ref 204) ∧ en_get 1 l_ = some (.int a1) ∧ en_get 2 l_ = some (.int a2) ∧ en_get 3 l_ = some (.int x28355) ∧ en_get 4 l_ = some (.int v23139) ∧ en_get 5 l_ = some (.int 0) ∧ en_get 6 l_ = some (.int x28356) ∧ (0 ≤ x28356.toInt ∧ x28356.toInt ≤ 100)) ?_ (100 - 0) ⟨a1, 0, by first | rfl | omega, hI23152, hF23156, rfl, rfl, rfl, rfl, rfl, rfl, rfl, by decide⟩
      rintro n28361 l28360 g28357 ⟨x28355, x28356, hm28372, hI28358, hF28359, e28363, e28364, e28365, e28366, e28367, e28368, e28369, r28370⟩ ih28362
      refine At.enter rfl ?_
      refine r_iload e28369 ?_
      refine r_bipush 100 rfl ?_
      refine r_ics 53 rfl (fun c28373 => ?_) (fun c28373 => ?_)
      · have c28373_ : x28356.toInt ≥ 100 := en_i_ge_t c28373
        refine At.enter rfl ?_
        refine r_iload_n e28366 ?_
        refine r_ifs 191 rfl (fun c28374 => ?_) (fun c28374 => ?_)
        · have c28374_ : x28355.toInt ≠ 0 := en_k_ne_t c28374
          refine At.enter rfl ?_
          refine r_iconst 0 rfl ?_
          refine Ar.fall 196 rfl ?_
          refine At.enter rfl ?_
          refine r_iretz (by decide) ?_
          exact ⟨_, rfl, hI28358, hF28359, _, rfl, by decide⟩
        · have c28374_ : x28355.toInt = 0 := en_k_ne_f c28374
          refine At.enter rfl ?_
          refine r_iconst 1 rfl ?_
          refine r_goto ?_
          refine At.enter rfl ?_
          refine r_iretz (by decide) ?_
          exact ⟨_, rfl, hI28358, hF28359, _, rfl, by decide⟩
      · have c28373_ : x28356.toInt < 100 := en_i_ge_f c28373
        refine At.enter rfl ?_
        refine r_iload_n e28366 ?_
        refine r_ifs 57 rfl (fun c28375 => ?_) (fun c28375 => ?_)
        · have c28375_ : x28355.toInt = 0 := en_k_eq_t c28375
          refine At.enter rfl ?_
          refine r_iload_n e28366 ?_
          refine r_ifs 191 rfl (fun c28376 => ?_) (fun c28376 => ?_)
          · have c28376_ : x28355.toInt ≠ 0 := en_k_ne_t c28376
            exfalso; omega
          · have c28376_ : x28355.toInt = 0 := en_k_ne_f c28376
            refine At.enter rfl ?_
            refine r_iconst 1 rfl ?_
            refine r_goto ?_
            refine At.enter rfl ?_
            refine r_iretz (by decide) ?_
            exact ⟨_, rfl, hI28358, hF28359, _, rfl, by decide⟩
        · have c28375_ : x28355.toInt ≠ 0 := en_k_eq_f c28375
          refine At.enter rfl ?_
          refine r_aload_n e28363 ?_
          refine r_iconst 0 rfl ?_
          refine q_putI (Sh.int hI28358.1 kx_204 rfl) rfl ?_
          have hI28377 := HI.wI0 hI28358 kx_204 rfl (p := 204) (b := 18) (v := 0) rfl
          have hF28378 := Fr.wI (p := 204) (b := 18) (v := 0) hF28359 rfl
          refine r_aload_n e28363 ?_
          refine r_iload e28369 ?_
          refine r_callV 68 rfl [.ref 204, .int x28356] [] (Nat.le_of_ble_eq_true rfl) rfl (T_X1_arrive_204 _ hI28377 x28356) ?_
          rintro _ _ ⟨g28379, rfl, hI28380, hF28381, rfl⟩
          refine At.stn ?_
          have hF28384 := Fr.tr hF28378 hF28381 rfl rfl
          refine At.enter rfl ?_
          refine r_aload_n e28363 ?_
          refine r_iload e28369 ?_
          refine r_callV 74 rfl [.ref 204, .int x28356] [] (Nat.le_of_ble_eq_true rfl) rfl (T_X1_lineUp_204 _ hI28380 x28356) ?_
          rintro _ _ ⟨g28385, rfl, hI28386, hF28387, rfl⟩
          refine At.stn ?_
          have hF28390 := Fr.tr hF28384 hF28387 rfl rfl
          refine At.enter rfl ?_
          refine r_aload_n e28363 ?_
          refine r_iload e28369 ?_
          refine r_callV 80 rfl [.ref 204, .int x28356] [] (Nat.le_of_ble_eq_true rfl) rfl (T_X1_goOn_204 _ hI28386 x28356) ?_
          rintro _ _ ⟨g28391, rfl, hI28392, hF28393, rfl⟩
          refine At.stn ?_
          have hF28396 := Fr.tr hF28390 hF28393 rfl rfl
          refine At.enter rfl ?_
          refine r_iconst 0 rfl ?_
          refine r_istore _ rfl ?_
          refine Ar.fall 83 rfl ?_
          have z_28701 : (0 : Int32).toInt = 0 := rfl
          refine w_loopI (fun n_ l_ g_ => ∃ x28684 : Int32, ∃ x28685 : Int32, n_ = 8 - x28685.toInt ∧ HI g_ ∧ Fr F_X1_comesBy_204 A_X1_comesBy_204 g0 g_ ∧ en_get 0 l_ = some (.ref 204) ∧ en_get 1 l_ = some (.int a1) ∧ en_get 2 l_ = some (.int a2) ∧ en_get 3 l_ = some (.int x28684) ∧ en_get 4 l_ = some (.int v23139) ∧ en_get 5 l_ = some (.int 0) ∧ en_get 6 l_ = some (.int x28356) ∧ en_get 7 l_ = some (.int x28685) ∧ (0 ≤ x28685.toInt ∧ x28685.toInt ≤ 8)) ?_ (8 - 0) ⟨x28355, 0, by first | rfl | omega, hI28392, hF28396, (w_p1 (by decide) (Or.inr rfl) e28363), (w_p1 (by decide) (Or.inr rfl) e28364), (w_p1 (by decide) (Or.inr rfl) e28365), (w_p1 (by decide) (Or.inr rfl) e28366), (w_p1 (by decide) (Or.inr rfl) e28367), (w_p1 (by decide) (Or.inr rfl) e28368), (w_p1 (by decide) (Or.inr rfl) e28369), (w_e1 _ _ _), by decide⟩
          rintro n28690 l28689 g28686 ⟨x28684, x28685, hm28702, hI28687, hF28688, e28692, e28693, e28694, e28695, e28696, e28697, e28698, e28699, r28700⟩ ih28691
          refine At.enter rfl ?_
          refine r_iload e28699 ?_
          refine r_aload_n e28692 ?_
          refine q_getR (Sh.ref hI28687.1 kx_204 rfl) ?_
          obtain ⟨v28703, hv28703⟩ : ∃ v, gI g0 1 4 = v := ⟨_, rfl⟩
          have rv28703 := RgF.at hI0.2.1 (p := 1) (b := 4) rfl
          rw [hv28703] at rv28703
          dsimp only at rv28703
          refine q_getI (Sh.int hI28687.1 kx_1 rfl) v28703 ((hF28688.1 1 4 (by decide)).trans hv28703) ?_
          have bv28705 := q_bnd x28685
          have bv28706 := q_bnd v28703
          refine r_ics 95 rfl (fun c28704 => ?_) (fun c28704 => ?_)
          · have c28704_ : x28685.toInt ≥ v28703.toInt := en_i_ge_t c28704
            refine At.enter rfl ?_
            refine r_iload_n e28695 ?_
            refine r_ifs 160 rfl (fun c28707 => ?_) (fun c28707 => ?_)
            · have c28707_ : x28684.toInt = 0 := en_k_eq_t c28707
              refine At.enter rfl ?_
              refine q_iinc e28698 (x28356.toInt + 1) rfl (by omega) (fun v28708 hv28708 => ?_)
              refine r_goto ?_
              have bv28709 := q_bnd x28684
              exact ih28362 (100 - v28708.toInt) _ _ ⟨x28684, v28708, by first | rfl | omega, hI28687, hF28688, (w_p1 (by decide) (Or.inr rfl) e28692), (w_p1 (by decide) (Or.inr rfl) e28693), (w_p1 (by decide) (Or.inr rfl) e28694), (w_p1 (by decide) (Or.inr rfl) e28695), (w_p1 (by decide) (Or.inr rfl) e28696), (w_p1 (by decide) (Or.inr rfl) e28697), (w_e1 _ _ _), by omega⟩ ⟨by omega, by omega⟩
            · have c28707_ : x28684.toInt ≠ 0 := en_k_eq_f c28707
              refine At.enter rfl ?_
              refine r_aload_n e28692 ?_
              obtain ⟨v28710, hv28710⟩ : ∃ v, gI g28686 204 18 = v := ⟨_, rfl⟩
              refine q_getI (Sh.int hI28687.1 kx_204 rfl) v28710 hv28710 ?_
              refine r_ifs 167 rfl (fun c28711 => ?_) (fun c28711 => ?_)
              · have c28711_ : v28710.toInt ≠ 0 := en_k_ne_t c28711
                refine At.enter rfl ?_
                refine q_iinc e28698 (x28356.toInt + 1) rfl (by omega) (fun v28712 hv28712 => ?_)
                refine r_goto ?_
                have bv28713 := q_bnd x28684
                exact ih28362 (100 - v28712.toInt) _ _ ⟨x28684, v28712, by first | rfl | omega, hI28687, hF28688, (w_p1 (by decide) (Or.inr rfl) e28692), (w_p1 (by decide) (Or.inr rfl) e28693), (w_p1 (by decide) (Or.inr rfl) e28694), (w_p1 (by decide) (Or.inr rfl) e28695), (w_p1 (by decide) (Or.inr rfl) e28696), (w_p1 (by decide) (Or.inr rfl) e28697), (w_e1 _ _ _), by omega⟩ ⟨by omega, by omega⟩
              · have c28711_ : v28710.toInt = 0 := en_k_ne_f c28711
                refine At.enter rfl ?_
                refine r_iload e28697 ?_
                refine r_ift (by decide) ?_
                refine At.enter rfl ?_
                refine q_iinc e28698 (x28356.toInt + 1) rfl (by omega) (fun v28714 hv28714 => ?_)
                refine r_goto ?_
                have bv28715 := q_bnd x28684
                exact ih28362 (100 - v28714.toInt) _ _ ⟨x28684, v28714, by first | rfl | omega, hI28687, hF28688, (w_p1 (by decide) (Or.inr rfl) e28692), (w_p1 (by decide) (Or.inr rfl) e28693), (w_p1 (by decide) (Or.inr rfl) e28694), (w_p1 (by decide) (Or.inr rfl) e28695), (w_p1 (by decide) (Or.inr rfl) e28696), (w_p1 (by decide) (Or.inr rfl) e28697), (w_e1 _ _ _), by omega⟩ ⟨by omega, by omega⟩
          · have c28704_ : x28685.toInt < v28703.toInt := en_i_ge_f c28704
            refine At.enter rfl ?_
            refine r_iload_n e28695 ?_
            refine r_iload e28699 ?_
            refine q_inlS 101 rfl [.int x28684, .int x28685] [] (Nat.le_of_ble_eq_true rfl) rfl ?_
            refine Ev.mk rfl rfl ⟨Nat.le_of_ble_eq_true rfl, Or.inl rfl⟩ ?_
            show At _ none _ _ (0, [(0, .int x28684), (1, .int x28685)], [], (_, _)) _
            refine At.enter rfl ?_
            refine r_iload_n rfl ?_
            refine r_iload_n rfl ?_
            refine q_ishrO (fun v28716 hv28716 => ?_)
            refine r_iconst 1 rfl ?_
            refine q_iandO (fun v28717 hv28717 => ?_)
            refine r_ifs 8 rfl (fun c28718 => ?_) (fun c28718 => ?_)
            · have c28718_ : v28717.toInt = 0 := en_k_eq_t c28718
              refine At.enter rfl ?_
              refine r_iconst 0 rfl ?_
              refine Ar.fall 13 rfl ?_
              refine At.enter rfl ?_
              refine q_iretz (by decide) ?_
              refine At.enter rfl ?_
              refine r_ift (by decide) ?_
              refine At.enter rfl ?_
              refine r_iload_n e28695 ?_
              refine r_iload e28699 ?_
              refine q_inlS 131 rfl [.int x28684, .int x28685] [] (Nat.le_of_ble_eq_true rfl) rfl ?_
              refine Ev.mk rfl rfl ⟨Nat.le_of_ble_eq_true rfl, Or.inl rfl⟩ ?_
              show At _ none _ _ (0, [(0, .int x28684), (1, .int x28685)], [], (_, _)) _
              refine At.enter rfl ?_
              refine r_iload_n rfl ?_
              refine r_iload_n rfl ?_
              refine q_ishrO (fun v28719 hv28719 => ?_)
              refine r_iconst 1 rfl ?_
              refine q_iandO (fun v28720 hv28720 => ?_)
              refine r_ifs 8 rfl (fun c28721 => ?_) (fun c28721 => ?_)
              · have c28721_ : v28720.toInt = 0 := en_k_eq_t c28721
                refine At.enter rfl ?_
                refine r_iconst 0 rfl ?_
                refine Ar.fall 13 rfl ?_
                refine At.enter rfl ?_
                refine q_iretz (by decide) ?_
                refine At.enter rfl ?_
                refine r_ift (by decide) ?_
                refine At.enter rfl ?_
                refine q_iinc e28699 (x28685.toInt + 1) rfl (by omega) (fun v28722 hv28722 => ?_)
                refine r_goto ?_
                have bv28723 := q_bnd x28684
                exact ih28691 (8 - v28722.toInt) _ _ ⟨x28684, v28722, by first | rfl | omega, hI28687, hF28688, (w_p1 (by decide) (Or.inr rfl) e28692), (w_p1 (by decide) (Or.inr rfl) e28693), (w_p1 (by decide) (Or.inr rfl) e28694), (w_p1 (by decide) (Or.inr rfl) e28695), (w_p1 (by decide) (Or.inr rfl) e28696), (w_p1 (by decide) (Or.inr rfl) e28697), (w_p1 (by decide) (Or.inr rfl) e28698), (w_e1 _ _ _), by omega⟩ ⟨by omega, by omega⟩
              · have c28721_ : v28720.toInt ≠ 0 := en_k_eq_f c28721
                refine At.enter rfl ?_
                refine r_iconst 1 rfl ?_
                refine r_goto ?_
                refine At.enter rfl ?_
                refine q_iretz (by decide) ?_
                refine At.enter rfl ?_
                refine r_iff 134 rfl (by decide) ?_
                refine At.enter rfl ?_
                refine r_iload e28698 ?_
                refine r_aload_n e28692 ?_
                refine q_getR (Sh.ref hI28687.1 kx_204 rfl) ?_
                refine r_iload e28699 ?_
                obtain ⟨v28724, hv28724⟩ : ∃ v, eA g28686 210 x28685.toInt = v := ⟨_, rfl⟩
                refine q_iald (Sh.arr hI28687.1 ka_210) x28685.toInt rfl (by omega) v28724 hv28724 ?_
                refine q_iaddO (fun v28725 _ => ?_)
                refine r_iload_n e28694 ?_
                have bv28727 := q_bnd v28725
                have bv28728 := q_bnd a2
                refine r_ics 148 rfl (fun c28726 => ?_) (fun c28726 => ?_)
                · have c28726_ : v28725.toInt ≤ a2.toInt := en_i_le_t c28726
                  refine At.enter rfl ?_
                  refine q_iinc e28699 (x28685.toInt + 1) rfl (by omega) (fun v28729 hv28729 => ?_)
                  refine r_goto ?_
                  have bv28730 := q_bnd x28684
                  exact ih28691 (8 - v28729.toInt) _ _ ⟨x28684, v28729, by first | rfl | omega, hI28687, hF28688, (w_p1 (by decide) (Or.inr rfl) e28692), (w_p1 (by decide) (Or.inr rfl) e28693), (w_p1 (by decide) (Or.inr rfl) e28694), (w_p1 (by decide) (Or.inr rfl) e28695), (w_p1 (by decide) (Or.inr rfl) e28696), (w_p1 (by decide) (Or.inr rfl) e28697), (w_p1 (by decide) (Or.inr rfl) e28698), (w_e1 _ _ _), by omega⟩ ⟨by omega, by omega⟩
                · have c28726_ : v28725.toInt > a2.toInt := en_i_le_f c28726
                  refine At.enter rfl ?_
                  refine r_iconst 0 rfl ?_
                  refine r_iretz (by decide) ?_
                  exact ⟨_, rfl, hI28687, hF28688, _, rfl, by decide⟩
            · have c28718_ : v28717.toInt ≠ 0 := en_k_eq_f c28718
              refine At.enter rfl ?_
              refine r_iconst 1 rfl ?_
              refine r_goto ?_
              refine At.enter rfl ?_
              refine q_iretz (by decide) ?_
              refine At.enter rfl ?_
              refine r_iff 104 rfl (by decide) ?_
              refine At.enter rfl ?_
              refine r_aload_n e28692 ?_
              refine q_getR (Sh.ref hI28687.1 kx_204 rfl) ?_
              refine r_iload e28699 ?_
              obtain ⟨v28731, hv28731⟩ : ∃ v, eA g28686 212 x28685.toInt = v := ⟨_, rfl⟩
              refine q_iald (Sh.arr hI28687.1 ka_212) x28685.toInt rfl (by omega) v28731 hv28731 ?_
              refine r_iconst (-1) rfl ?_
              refine r_ics 115 rfl (fun c28732 => ?_) (fun c28732 => ?_)
              · have c28732_ : v28731.toInt = (-1) := en_i_eq_t c28732
                refine At.enter rfl ?_
                refine r_iload_n e28695 ?_
                refine r_iload e28699 ?_
                refine q_inlS 131 rfl [.int x28684, .int x28685] [] (Nat.le_of_ble_eq_true rfl) rfl ?_
                refine Ev.mk rfl rfl ⟨Nat.le_of_ble_eq_true rfl, Or.inl rfl⟩ ?_
                show At _ none _ _ (0, [(0, .int x28684), (1, .int x28685)], [], (_, _)) _
                refine At.enter rfl ?_
                refine r_iload_n rfl ?_
                refine r_iload_n rfl ?_
                refine q_ishrO (fun v28733 hv28733 => ?_)
                refine r_iconst 1 rfl ?_
                refine q_iandO (fun v28734 hv28734 => ?_)
                refine r_ifs 8 rfl (fun c28735 => ?_) (fun c28735 => ?_)
                · have c28735_ : v28734.toInt = 0 := en_k_eq_t c28735
                  refine At.enter rfl ?_
                  refine r_iconst 0 rfl ?_
                  refine Ar.fall 13 rfl ?_
                  refine At.enter rfl ?_
                  refine q_iretz (by decide) ?_
                  refine At.enter rfl ?_
                  refine r_ift (by decide) ?_
                  refine At.enter rfl ?_
                  refine q_iinc e28699 (x28685.toInt + 1) rfl (by omega) (fun v28736 hv28736 => ?_)
                  refine r_goto ?_
                  have bv28737 := q_bnd x28684
                  exact ih28691 (8 - v28736.toInt) _ _ ⟨x28684, v28736, by first | rfl | omega, hI28687, hF28688, (w_p1 (by decide) (Or.inr rfl) e28692), (w_p1 (by decide) (Or.inr rfl) e28693), (w_p1 (by decide) (Or.inr rfl) e28694), (w_p1 (by decide) (Or.inr rfl) e28695), (w_p1 (by decide) (Or.inr rfl) e28696), (w_p1 (by decide) (Or.inr rfl) e28697), (w_p1 (by decide) (Or.inr rfl) e28698), (w_e1 _ _ _), by omega⟩ ⟨by omega, by omega⟩
                · have c28735_ : v28734.toInt ≠ 0 := en_k_eq_f c28735
                  refine At.enter rfl ?_
                  refine r_iconst 1 rfl ?_
                  refine r_goto ?_
                  refine At.enter rfl ?_
                  refine q_iretz (by decide) ?_
                  refine At.enter rfl ?_
                  refine r_iff 134 rfl (by decide) ?_
                  refine At.enter rfl ?_
                  refine r_iload e28698 ?_
                  refine r_aload_n e28692 ?_
                  refine q_getR (Sh.ref hI28687.1 kx_204 rfl) ?_
                  refine r_iload e28699 ?_
                  obtain ⟨v28738, hv28738⟩ : ∃ v, eA g28686 210 x28685.toInt = v := ⟨_, rfl⟩
                  refine q_iald (Sh.arr hI28687.1 ka_210) x28685.toInt rfl (by omega) v28738 hv28738 ?_
                  refine q_iaddO (fun v28739 _ => ?_)
                  refine r_iload_n e28694 ?_
                  have bv28741 := q_bnd v28739
                  have bv28742 := q_bnd a2
                  refine r_ics 148 rfl (fun c28740 => ?_) (fun c28740 => ?_)
                  · have c28740_ : v28739.toInt ≤ a2.toInt := en_i_le_t c28740
                    refine At.enter rfl ?_
                    refine q_iinc e28699 (x28685.toInt + 1) rfl (by omega) (fun v28743 hv28743 => ?_)
                    refine r_goto ?_
                    have bv28744 := q_bnd x28684
                    exact ih28691 (8 - v28743.toInt) _ _ ⟨x28684, v28743, by first | rfl | omega, hI28687, hF28688, (w_p1 (by decide) (Or.inr rfl) e28692), (w_p1 (by decide) (Or.inr rfl) e28693), (w_p1 (by decide) (Or.inr rfl) e28694), (w_p1 (by decide) (Or.inr rfl) e28695), (w_p1 (by decide) (Or.inr rfl) e28696), (w_p1 (by decide) (Or.inr rfl) e28697), (w_p1 (by decide) (Or.inr rfl) e28698), (w_e1 _ _ _), by omega⟩ ⟨by omega, by omega⟩
                  · have c28740_ : v28739.toInt > a2.toInt := en_i_le_f c28740
                    refine At.enter rfl ?_
                    refine r_iconst 0 rfl ?_
                    refine r_iretz (by decide) ?_
                    exact ⟨_, rfl, hI28687, hF28688, _, rfl, by decide⟩
              · have c28732_ : v28731.toInt ≠ (-1) := en_i_eq_f c28732
                refine At.enter rfl ?_
                refine r_iload_n e28695 ?_
                refine r_iconst 1 rfl ?_
                refine r_iload e28699 ?_
                refine q_ishlO (fun v28745 hv28745 => ?_)
                refine q_isubO (fun v28746 _ => ?_)
                refine r_istore_n _ rfl ?_
                refine r_goto ?_
                refine At.enter rfl ?_
                refine q_iinc (w_p1 (by decide) (Or.inr rfl) e28699) (x28685.toInt + 1) rfl (by omega) (fun v28747 hv28747 => ?_)
                refine r_goto ?_
                have bv28748 := q_bnd v28746
                exact ih28691 (8 - v28747.toInt) _ _ ⟨v28746, v28747, by first | rfl | omega, hI28687, hF28688, (w_p1 (by decide) (Or.inr rfl) (w_p1 (by decide) (Or.inr rfl) e28692)), (w_p1 (by decide) (Or.inr rfl) (w_p1 (by decide) (Or.inr rfl) e28693)), (w_p1 (by decide) (Or.inr rfl) (w_p1 (by decide) (Or.inr rfl) e28694)), (w_p1 (by decide) (Or.inr rfl) (w_e1 _ _ _)), (w_p1 (by decide) (Or.inr rfl) (w_p1 (by decide) (Or.inr rfl) e28696)), (w_p1 (by decide) (Or.inr rfl) (w_p1 (by decide) (Or.inr rfl) e28697)), (w_p1 (by decide) (Or.inr rfl) (w_p1 (by decide) (Or.inr rfl) e28698)), (w_e1 _ _ _), by omega⟩ ⟨by omega, by omega⟩
    · have c23157_ : v23154.toInt = 0 := en_k_ne_f c23157
      refine At.enter rfl ?_
      refine r_iconst 1 rfl ?_
      refine r_goto ?_
      refine At.enter rfl ?_
      refine r_istore ([(5, .int 1), (4, .int v23139), (3, .int a1), (0, .ref 204), (1, .int a1), (2, .int a2)]) rfl ?_
      refine r_iconst 0 rfl ?_
      refine r_istore ([(6, .int 0), (5, .int 1), (4, .int v23139), (3, .int a1), (0, .ref 204), (1, .int a1), (2, .int a2)]) rfl ?_
      refine Ar.fall 46 rfl ?_
      have z_34298 : (0 : Int32).toInt = 0 := rfl
      refine w_loopI (fun n_ l_ g_ => ∃ x34282 : Int32, ∃ x34283 : Int32, n_ = 100 - x34283.toInt ∧ HI g_ ∧ Fr F_X1_comesBy_204 A_X1_comesBy_204 g0 g_ ∧ en_get 0 l_ = some (.ref 204) ∧ en_get 1 l_ = some (.int a1) ∧ en_get 2 l_ = some (.int a2) ∧ en_get 3 l_ = some (.int x34282) ∧ en_get 4 l_ = some (.int v23139) ∧ en_get 5 l_ = some (.int 1) ∧ en_get 6 l_ = some (.int x34283) ∧ (0 ≤ x34283.toInt ∧ x34283.toInt ≤ 100)) ?_ (100 - 0) ⟨a1, 0, by first | rfl | omega, hI23152, hF23156, rfl, rfl, rfl, rfl, rfl, rfl, rfl, by decide⟩
      rintro n34288 l34287 g34284 ⟨x34282, x34283, hm34299, hI34285, hF34286, e34290, e34291, e34292, e34293, e34294, e34295, e34296, r34297⟩ ih34289
      refine At.enter rfl ?_
      refine r_iload e34296 ?_
      refine r_bipush 100 rfl ?_
      refine r_ics 53 rfl (fun c34300 => ?_) (fun c34300 => ?_)
      · have c34300_ : x34283.toInt ≥ 100 := en_i_ge_t c34300
        refine At.enter rfl ?_
        refine r_iload_n e34293 ?_
        refine r_ifs 191 rfl (fun c34301 => ?_) (fun c34301 => ?_)
        · have c34301_ : x34282.toInt ≠ 0 := en_k_ne_t c34301
          refine At.enter rfl ?_
          refine r_iconst 0 rfl ?_
          refine Ar.fall 196 rfl ?_
          refine At.enter rfl ?_
          refine r_iretz (by decide) ?_
          exact ⟨_, rfl, hI34285, hF34286, _, rfl, by decide⟩
        · have c34301_ : x34282.toInt = 0 := en_k_ne_f c34301
          refine At.enter rfl ?_
          refine r_iconst 1 rfl ?_
          refine r_goto ?_
          refine At.enter rfl ?_
          refine r_iretz (by decide) ?_
          exact ⟨_, rfl, hI34285, hF34286, _, rfl, by decide⟩
      · have c34300_ : x34283.toInt < 100 := en_i_ge_f c34300
        refine At.enter rfl ?_
        refine r_iload_n e34293 ?_
        refine r_ifs 57 rfl (fun c34302 => ?_) (fun c34302 => ?_)
        · have c34302_ : x34282.toInt = 0 := en_k_eq_t c34302
          refine At.enter rfl ?_
          refine r_iload_n e34293 ?_
          refine r_ifs 191 rfl (fun c34303 => ?_) (fun c34303 => ?_)
          · have c34303_ : x34282.toInt ≠ 0 := en_k_ne_t c34303
            exfalso; omega
          · have c34303_ : x34282.toInt = 0 := en_k_ne_f c34303
            refine At.enter rfl ?_
            refine r_iconst 1 rfl ?_
            refine r_goto ?_
            refine At.enter rfl ?_
            refine r_iretz (by decide) ?_
            exact ⟨_, rfl, hI34285, hF34286, _, rfl, by decide⟩
        · have c34302_ : x34282.toInt ≠ 0 := en_k_eq_f c34302
          refine At.enter rfl ?_
          refine r_aload_n e34290 ?_
          refine r_iconst 0 rfl ?_
          refine q_putI (Sh.int hI34285.1 kx_204 rfl) rfl ?_
          have hI34304 := HI.wI0 hI34285 kx_204 rfl (p := 204) (b := 18) (v := 0) rfl
          have hF34305 := Fr.wI (p := 204) (b := 18) (v := 0) hF34286 rfl
          refine r_aload_n e34290 ?_
          refine r_iload e34296 ?_
          refine r_callV 68 rfl [.ref 204, .int x34283] [] (Nat.le_of_ble_eq_true rfl) rfl (T_X1_arrive_204 _ hI34304 x34283) ?_
          rintro _ _ ⟨g34306, rfl, hI34307, hF34308, rfl⟩
          refine At.stn ?_
          have hF34311 := Fr.tr hF34305 hF34308 rfl rfl
          refine At.enter rfl ?_
          refine r_aload_n e34290 ?_
          refine r_iload e34296 ?_
          refine r_callV 74 rfl [.ref 204, .int x34283] [] (Nat.le_of_ble_eq_true rfl) rfl (T_X1_lineUp_204 _ hI34307 x34283) ?_
          rintro _ _ ⟨g34312, rfl, hI34313, hF34314, rfl⟩
          refine At.stn ?_
          have hF34317 := Fr.tr hF34311 hF34314 rfl rfl
          refine At.enter rfl ?_
          refine r_aload_n e34290 ?_
          refine r_iload e34296 ?_
          refine r_callV 80 rfl [.ref 204, .int x34283] [] (Nat.le_of_ble_eq_true rfl) rfl (T_X1_goOn_204 _ hI34313 x34283) ?_
          rintro _ _ ⟨g34318, rfl, hI34319, hF34320, rfl⟩
          refine At.stn ?_
          have hF34323 := Fr.tr hF34317 hF34320 rfl rfl
          refine At.enter rfl ?_
          refine r_iconst 0 rfl ?_
          refine r_istore _ rfl ?_
          refine Ar.fall 83 rfl ?_
          have z_34649 : (0 : Int32).toInt = 0 := rfl
          refine w_loopI (fun n_ l_ g_ => ∃ x34632 : Int32, ∃ x34633 : Int32, n_ = 8 - x34633.toInt ∧ HI g_ ∧ Fr F_X1_comesBy_204 A_X1_comesBy_204 g0 g_ ∧ en_get 0 l_ = some (.ref 204) ∧ en_get 1 l_ = some (.int a1) ∧ en_get 2 l_ = some (.int a2) ∧ en_get 3 l_ = some (.int x34632) ∧ en_get 4 l_ = some (.int v23139) ∧ en_get 5 l_ = some (.int 1) ∧ en_get 6 l_ = some (.int x34283) ∧ en_get 7 l_ = some (.int x34633) ∧ (0 ≤ x34633.toInt ∧ x34633.toInt ≤ 8)) ?_ (8 - 0) ⟨x34282, 0, by first | rfl | omega, hI34319, hF34323, (w_p1 (by decide) (Or.inr rfl) e34290), (w_p1 (by decide) (Or.inr rfl) e34291), (w_p1 (by decide) (Or.inr rfl) e34292), (w_p1 (by decide) (Or.inr rfl) e34293), (w_p1 (by decide) (Or.inr rfl) e34294), (w_p1 (by decide) (Or.inr rfl) e34295), (w_p1 (by decide) (Or.inr rfl) e34296), (w_e1 _ _ _), by decide⟩
          rintro n34638 l34637 g34634 ⟨x34632, x34633, hm34650, hI34635, hF34636, e34640, e34641, e34642, e34643, e34644, e34645, e34646, e34647, r34648⟩ ih34639
          refine At.enter rfl ?_
          refine r_iload e34647 ?_
          refine r_aload_n e34640 ?_
          refine q_getR (Sh.ref hI34635.1 kx_204 rfl) ?_
          obtain ⟨v34651, hv34651⟩ : ∃ v, gI g0 1 4 = v := ⟨_, rfl⟩
          have rv34651 := RgF.at hI0.2.1 (p := 1) (b := 4) rfl
          rw [hv34651] at rv34651
          dsimp only at rv34651
          refine q_getI (Sh.int hI34635.1 kx_1 rfl) v34651 ((hF34636.1 1 4 (by decide)).trans hv34651) ?_
          have bv34653 := q_bnd x34633
          have bv34654 := q_bnd v34651
          refine r_ics 95 rfl (fun c34652 => ?_) (fun c34652 => ?_)
          · have c34652_ : x34633.toInt ≥ v34651.toInt := en_i_ge_t c34652
            refine At.enter rfl ?_
            refine r_iload_n e34643 ?_
            refine r_ifs 160 rfl (fun c34655 => ?_) (fun c34655 => ?_)
            · have c34655_ : x34632.toInt = 0 := en_k_eq_t c34655
              refine At.enter rfl ?_
              refine q_iinc e34646 (x34283.toInt + 1) rfl (by omega) (fun v34656 hv34656 => ?_)
              refine r_goto ?_
              have bv34657 := q_bnd x34632
              exact ih34289 (100 - v34656.toInt) _ _ ⟨x34632, v34656, by first | rfl | omega, hI34635, hF34636, (w_p1 (by decide) (Or.inr rfl) e34640), (w_p1 (by decide) (Or.inr rfl) e34641), (w_p1 (by decide) (Or.inr rfl) e34642), (w_p1 (by decide) (Or.inr rfl) e34643), (w_p1 (by decide) (Or.inr rfl) e34644), (w_p1 (by decide) (Or.inr rfl) e34645), (w_e1 _ _ _), by omega⟩ ⟨by omega, by omega⟩
            · have c34655_ : x34632.toInt ≠ 0 := en_k_eq_f c34655
              refine At.enter rfl ?_
              refine r_aload_n e34640 ?_
              obtain ⟨v34658, hv34658⟩ : ∃ v, gI g34634 204 18 = v := ⟨_, rfl⟩
              refine q_getI (Sh.int hI34635.1 kx_204 rfl) v34658 hv34658 ?_
              refine r_ifs 167 rfl (fun c34659 => ?_) (fun c34659 => ?_)
              · have c34659_ : v34658.toInt ≠ 0 := en_k_ne_t c34659
                refine At.enter rfl ?_
                refine q_iinc e34646 (x34283.toInt + 1) rfl (by omega) (fun v34660 hv34660 => ?_)
                refine r_goto ?_
                have bv34661 := q_bnd x34632
                exact ih34289 (100 - v34660.toInt) _ _ ⟨x34632, v34660, by first | rfl | omega, hI34635, hF34636, (w_p1 (by decide) (Or.inr rfl) e34640), (w_p1 (by decide) (Or.inr rfl) e34641), (w_p1 (by decide) (Or.inr rfl) e34642), (w_p1 (by decide) (Or.inr rfl) e34643), (w_p1 (by decide) (Or.inr rfl) e34644), (w_p1 (by decide) (Or.inr rfl) e34645), (w_e1 _ _ _), by omega⟩ ⟨by omega, by omega⟩
              · have c34659_ : v34658.toInt = 0 := en_k_ne_f c34659
                refine At.enter rfl ?_
                refine r_iload e34645 ?_
                refine r_iff 172 rfl (by decide) ?_
                refine At.enter rfl ?_
                refine r_iload e34646 ?_
                refine r_iload e34644 ?_
                have bv34663 := q_bnd x34283
                have bv34664 := q_bnd v23139
                refine r_ics 179 rfl (fun c34662 => ?_) (fun c34662 => ?_)
                · have c34662_ : x34283.toInt < v23139.toInt := en_i_lt_t c34662
                  refine At.enter rfl ?_
                  refine q_iinc e34646 (x34283.toInt + 1) rfl (by omega) (fun v34665 hv34665 => ?_)
                  refine r_goto ?_
                  have bv34666 := q_bnd x34632
                  exact ih34289 (100 - v34665.toInt) _ _ ⟨x34632, v34665, by first | rfl | omega, hI34635, hF34636, (w_p1 (by decide) (Or.inr rfl) e34640), (w_p1 (by decide) (Or.inr rfl) e34641), (w_p1 (by decide) (Or.inr rfl) e34642), (w_p1 (by decide) (Or.inr rfl) e34643), (w_p1 (by decide) (Or.inr rfl) e34644), (w_p1 (by decide) (Or.inr rfl) e34645), (w_e1 _ _ _), by omega⟩ ⟨by omega, by omega⟩
                · have c34662_ : x34283.toInt ≥ v23139.toInt := en_i_lt_f c34662
                  refine At.enter rfl ?_
                  refine r_iconst 0 rfl ?_
                  refine r_iretz (by decide) ?_
                  exact ⟨_, rfl, hI34635, hF34636, _, rfl, by decide⟩
          · have c34652_ : x34633.toInt < v34651.toInt := en_i_ge_f c34652
            refine At.enter rfl ?_
            refine r_iload_n e34643 ?_
            refine r_iload e34647 ?_
            refine q_inlS 101 rfl [.int x34632, .int x34633] [] (Nat.le_of_ble_eq_true rfl) rfl ?_
            refine Ev.mk rfl rfl ⟨Nat.le_of_ble_eq_true rfl, Or.inl rfl⟩ ?_
            show At _ none _ _ (0, [(0, .int x34632), (1, .int x34633)], [], (_, _)) _
            refine At.enter rfl ?_
            refine r_iload_n rfl ?_
            refine r_iload_n rfl ?_
            refine q_ishrO (fun v34667 hv34667 => ?_)
            refine r_iconst 1 rfl ?_
            refine q_iandO (fun v34668 hv34668 => ?_)
            refine r_ifs 8 rfl (fun c34669 => ?_) (fun c34669 => ?_)
            · have c34669_ : v34668.toInt = 0 := en_k_eq_t c34669
              refine At.enter rfl ?_
              refine r_iconst 0 rfl ?_
              refine Ar.fall 13 rfl ?_
              refine At.enter rfl ?_
              refine q_iretz (by decide) ?_
              refine At.enter rfl ?_
              refine r_ift (by decide) ?_
              refine At.enter rfl ?_
              refine r_iload_n e34643 ?_
              refine r_iload e34647 ?_
              refine q_inlS 131 rfl [.int x34632, .int x34633] [] (Nat.le_of_ble_eq_true rfl) rfl ?_
              refine Ev.mk rfl rfl ⟨Nat.le_of_ble_eq_true rfl, Or.inl rfl⟩ ?_
              show At _ none _ _ (0, [(0, .int x34632), (1, .int x34633)], [], (_, _)) _
              refine At.enter rfl ?_
              refine r_iload_n rfl ?_
              refine r_iload_n rfl ?_
              refine q_ishrO (fun v34670 hv34670 => ?_)
              refine r_iconst 1 rfl ?_
              refine q_iandO (fun v34671 hv34671 => ?_)
              refine r_ifs 8 rfl (fun c34672 => ?_) (fun c34672 => ?_)
              · have c34672_ : v34671.toInt = 0 := en_k_eq_t c34672
                refine At.enter rfl ?_
                refine r_iconst 0 rfl ?_
                refine Ar.fall 13 rfl ?_
                refine At.enter rfl ?_
                refine q_iretz (by decide) ?_
                refine At.enter rfl ?_
                refine r_ift (by decide) ?_
                refine At.enter rfl ?_
                refine q_iinc e34647 (x34633.toInt + 1) rfl (by omega) (fun v34673 hv34673 => ?_)
                refine r_goto ?_
                have bv34674 := q_bnd x34632
                exact ih34639 (8 - v34673.toInt) _ _ ⟨x34632, v34673, by first | rfl | omega, hI34635, hF34636, (w_p1 (by decide) (Or.inr rfl) e34640), (w_p1 (by decide) (Or.inr rfl) e34641), (w_p1 (by decide) (Or.inr rfl) e34642), (w_p1 (by decide) (Or.inr rfl) e34643), (w_p1 (by decide) (Or.inr rfl) e34644), (w_p1 (by decide) (Or.inr rfl) e34645), (w_p1 (by decide) (Or.inr rfl) e34646), (w_e1 _ _ _), by omega⟩ ⟨by omega, by omega⟩
              · have c34672_ : v34671.toInt ≠ 0 := en_k_eq_f c34672
                refine At.enter rfl ?_
                refine r_iconst 1 rfl ?_
                refine r_goto ?_
                refine At.enter rfl ?_
                refine q_iretz (by decide) ?_
                refine At.enter rfl ?_
                refine r_iff 134 rfl (by decide) ?_
                refine At.enter rfl ?_
                refine r_iload e34646 ?_
                refine r_aload_n e34640 ?_
                refine q_getR (Sh.ref hI34635.1 kx_204 rfl) ?_
                refine r_iload e34647 ?_
                obtain ⟨v34675, hv34675⟩ : ∃ v, eA g34634 210 x34633.toInt = v := ⟨_, rfl⟩
                refine q_iald (Sh.arr hI34635.1 ka_210) x34633.toInt rfl (by omega) v34675 hv34675 ?_
                refine q_iaddO (fun v34676 _ => ?_)
                refine r_iload_n e34642 ?_
                have bv34678 := q_bnd v34676
                have bv34679 := q_bnd a2
                refine r_ics 148 rfl (fun c34677 => ?_) (fun c34677 => ?_)
                · have c34677_ : v34676.toInt ≤ a2.toInt := en_i_le_t c34677
                  refine At.enter rfl ?_
                  refine q_iinc e34647 (x34633.toInt + 1) rfl (by omega) (fun v34680 hv34680 => ?_)
                  refine r_goto ?_
                  have bv34681 := q_bnd x34632
                  exact ih34639 (8 - v34680.toInt) _ _ ⟨x34632, v34680, by first | rfl | omega, hI34635, hF34636, (w_p1 (by decide) (Or.inr rfl) e34640), (w_p1 (by decide) (Or.inr rfl) e34641), (w_p1 (by decide) (Or.inr rfl) e34642), (w_p1 (by decide) (Or.inr rfl) e34643), (w_p1 (by decide) (Or.inr rfl) e34644), (w_p1 (by decide) (Or.inr rfl) e34645), (w_p1 (by decide) (Or.inr rfl) e34646), (w_e1 _ _ _), by omega⟩ ⟨by omega, by omega⟩
                · have c34677_ : v34676.toInt > a2.toInt := en_i_le_f c34677
                  refine At.enter rfl ?_
                  refine r_iconst 0 rfl ?_
                  refine r_iretz (by decide) ?_
                  exact ⟨_, rfl, hI34635, hF34636, _, rfl, by decide⟩
            · have c34669_ : v34668.toInt ≠ 0 := en_k_eq_f c34669
              refine At.enter rfl ?_
              refine r_iconst 1 rfl ?_
              refine r_goto ?_
              refine At.enter rfl ?_
              refine q_iretz (by decide) ?_
              refine At.enter rfl ?_
              refine r_iff 104 rfl (by decide) ?_
              refine At.enter rfl ?_
              refine r_aload_n e34640 ?_
              refine q_getR (Sh.ref hI34635.1 kx_204 rfl) ?_
              refine r_iload e34647 ?_
              obtain ⟨v34682, hv34682⟩ : ∃ v, eA g34634 212 x34633.toInt = v := ⟨_, rfl⟩
              refine q_iald (Sh.arr hI34635.1 ka_212) x34633.toInt rfl (by omega) v34682 hv34682 ?_
              refine r_iconst (-1) rfl ?_
              refine r_ics 115 rfl (fun c34683 => ?_) (fun c34683 => ?_)
              · have c34683_ : v34682.toInt = (-1) := en_i_eq_t c34683
                refine At.enter rfl ?_
                refine r_iload_n e34643 ?_
                refine r_iload e34647 ?_
                refine q_inlS 131 rfl [.int x34632, .int x34633] [] (Nat.le_of_ble_eq_true rfl) rfl ?_
                refine Ev.mk rfl rfl ⟨Nat.le_of_ble_eq_true rfl, Or.inl rfl⟩ ?_
                show At _ none _ _ (0, [(0, .int x34632), (1, .int x34633)], [], (_, _)) _
                refine At.enter rfl ?_
                refine r_iload_n rfl ?_
                refine r_iload_n rfl ?_
                refine q_ishrO (fun v34684 hv34684 => ?_)
                refine r_iconst 1 rfl ?_
                refine q_iandO (fun v34685 hv34685 => ?_)
                refine r_ifs 8 rfl (fun c34686 => ?_) (fun c34686 => ?_)
                · have c34686_ : v34685.toInt = 0 := en_k_eq_t c34686
                  refine At.enter rfl ?_
                  refine r_iconst 0 rfl ?_
                  refine Ar.fall 13 rfl ?_
                  refine At.enter rfl ?_
                  refine q_iretz (by decide) ?_
                  refine At.enter rfl ?_
                  refine r_ift (by decide) ?_
                  refine At.enter rfl ?_
                  refine q_iinc e34647 (x34633.toInt + 1) rfl (by omega) (fun v34687 hv34687 => ?_)
                  refine r_goto ?_
                  have bv34688 := q_bnd x34632
                  exact ih34639 (8 - v34687.toInt) _ _ ⟨x34632, v34687, by first | rfl | omega, hI34635, hF34636, (w_p1 (by decide) (Or.inr rfl) e34640), (w_p1 (by decide) (Or.inr rfl) e34641), (w_p1 (by decide) (Or.inr rfl) e34642), (w_p1 (by decide) (Or.inr rfl) e34643), (w_p1 (by decide) (Or.inr rfl) e34644), (w_p1 (by decide) (Or.inr rfl) e34645), (w_p1 (by decide) (Or.inr rfl) e34646), (w_e1 _ _ _), by omega⟩ ⟨by omega, by omega⟩
                · have c34686_ : v34685.toInt ≠ 0 := en_k_eq_f c34686
                  refine At.enter rfl ?_
                  refine r_iconst 1 rfl ?_
                  refine r_goto ?_
                  refine At.enter rfl ?_
                  refine q_iretz (by decide) ?_
                  refine At.enter rfl ?_
                  refine r_iff 134 rfl (by decide) ?_
                  refine At.enter rfl ?_
                  refine r_iload e34646 ?_
                  refine r_aload_n e34640 ?_
                  refine q_getR (Sh.ref hI34635.1 kx_204 rfl) ?_
                  refine r_iload e34647 ?_
                  obtain ⟨v34689, hv34689⟩ : ∃ v, eA g34634 210 x34633.toInt = v := ⟨_, rfl⟩
                  refine q_iald (Sh.arr hI34635.1 ka_210) x34633.toInt rfl (by omega) v34689 hv34689 ?_
                  refine q_iaddO (fun v34690 _ => ?_)
                  refine r_iload_n e34642 ?_
                  have bv34692 := q_bnd v34690
                  have bv34693 := q_bnd a2
                  refine r_ics 148 rfl (fun c34691 => ?_) (fun c34691 => ?_)
                  · have c34691_ : v34690.toInt ≤ a2.toInt := en_i_le_t c34691
                    refine At.enter rfl ?_
                    refine q_iinc e34647 (x34633.toInt + 1) rfl (by omega) (fun v34694 hv34694 => ?_)
                    refine r_goto ?_
                    have bv34695 := q_bnd x34632
                    exact ih34639 (8 - v34694.toInt) _ _ ⟨x34632, v34694, by first | rfl | omega, hI34635, hF34636, (w_p1 (by decide) (Or.inr rfl) e34640), (w_p1 (by decide) (Or.inr rfl) e34641), (w_p1 (by decide) (Or.inr rfl) e34642), (w_p1 (by decide) (Or.inr rfl) e34643), (w_p1 (by decide) (Or.inr rfl) e34644), (w_p1 (by decide) (Or.inr rfl) e34645), (w_p1 (by decide) (Or.inr rfl) e34646), (w_e1 _ _ _), by omega⟩ ⟨by omega, by omega⟩
                  · have c34691_ : v34690.toInt > a2.toInt := en_i_le_f c34691
                    refine At.enter rfl ?_
                    refine r_iconst 0 rfl ?_
                    refine r_iretz (by decide) ?_
                    exact ⟨_, rfl, hI34635, hF34636, _, rfl, by decide⟩
              · have c34683_ : v34682.toInt ≠ (-1) := en_i_eq_f c34683
                refine At.enter rfl ?_
                refine r_iload_n e34643 ?_
                refine r_iconst 1 rfl ?_
                refine r_iload e34647 ?_
                refine q_ishlO (fun v34696 hv34696 => ?_)
                refine q_isubO (fun v34697 _ => ?_)
                refine r_istore_n _ rfl ?_
                refine r_goto ?_
                refine At.enter rfl ?_
                refine q_iinc (w_p1 (by decide) (Or.inr rfl) e34647) (x34633.toInt + 1) rfl (by omega) (fun v34698 hv34698 => ?_)
                refine r_goto ?_
                have bv34699 := q_bnd v34697
                exact ih34639 (8 - v34698.toInt) _ _ ⟨v34697, v34698, by first | rfl | omega, hI34635, hF34636, (w_p1 (by decide) (Or.inr rfl) (w_p1 (by decide) (Or.inr rfl) e34640)), (w_p1 (by decide) (Or.inr rfl) (w_p1 (by decide) (Or.inr rfl) e34641)), (w_p1 (by decide) (Or.inr rfl) (w_p1 (by decide) (Or.inr rfl) e34642)), (w_p1 (by decide) (Or.inr rfl) (w_e1 _ _ _)), (w_p1 (by decide) (Or.inr rfl) (w_p1 (by decide) (Or.inr rfl) e34644)), (w_p1 (by decide) (Or.inr rfl) (w_p1 (by decide) (Or.inr rfl) e34645)), (w_p1 (by decide) (Or.inr rfl) (w_p1 (by decide) (Or.inr rfl) e34646)), (w_e1 _ _ _), by omega⟩ ⟨by omega, by omega⟩
  · have c23129_ : v23126.toInt = 0 := en_k_ne_f c23129
    refine At.enter rfl ?_
    refine r_iconst 0 rfl ?_
    refine r_iretz (by decide) ?_
    exact ⟨_, rfl, hI23124, hF23128, _, rfl, by decide⟩
