def F_X1_handsToWant_188 : List (Nat × Nat) := []
def A_X1_handsToWant_188 : List Nat := []
set_option maxRecDepth 100000 in
set_option maxHeartbeats 4000000 in
theorem T_X1_handsToWant_188 (d : Nat) {N : Nat} {g0 : List en_E} (hI0 : HI g0) (a1 : Int32) : Ev (d + 2) 17 [.ref 188, .int a1] (g0, N) (fun w h' => ∃ g', h' = (g', N) ∧ HI g' ∧ Fr F_X1_handsToWant_188 A_X1_handsToWant_188 g0 g' ∧ ∃ r : Int32, w = some (.int r) ∧ ((-1) ≤ r.toInt ∧ r.toInt ≤ 11)) := by
  have hF0 : Fr F_X1_handsToWant_188 A_X1_handsToWant_188 g0 g0 := Fr.rf
  refine Ev.mk rfl rfl ⟨Nat.le_of_ble_eq_true rfl, Or.inr (q_rc hI0.1 kx_188 rfl)⟩ ?_
  show At _ none _ _ (0, [(0, .ref 188), (1, .int a1)], [], (_, _)) _
  refine At.enter rfl ?_
  refine r_aload_n rfl ?_
  refine q_getR (Sh.ref hI0.1 kx_188 rfl) ?_
  refine r_iload_n rfl ?_
  refine r_iconst 1 rfl ?_
  refine r_callV 9 rfl [.ref 1, .int a1, .int 1] [] (Nat.le_of_ble_eq_true rfl) rfl (T_X0_about_1 _ hI0 a1 1) ?_
  rintro _ _ ⟨g291, rfl, hI292, hF293, v294, rfl, hr295⟩
  refine At.sti ?_
  have hF296 := Fr.tr hF0 hF293 rfl rfl
  refine At.enter rfl ?_
  refine r_istore_n ([(2, .int v294), (0, .ref 188), (1, .int a1)]) rfl ?_
  refine r_aload_n rfl ?_
  refine q_getR (Sh.ref hI292.1 kx_188 rfl) ?_
  refine r_iload_n rfl ?_
  refine r_iconst 2 rfl ?_
  refine r_callV 19 rfl [.ref 1, .int a1, .int 2] [] (Nat.le_of_ble_eq_true rfl) rfl (T_X0_about_1 _ hI292 a1 2) ?_
  rintro _ _ ⟨g297, rfl, hI298, hF299, v300, rfl, hr301⟩
  refine At.sti ?_
  have hF302 := Fr.tr hF296 hF299 rfl rfl
  refine At.enter rfl ?_
  refine r_istore_n ([(3, .int v300), (2, .int v294), (0, .ref 188), (1, .int a1)]) rfl ?_
  refine r_iconst 0 rfl ?_
  refine r_istore ([(4, .int 0), (3, .int v300), (2, .int v294), (0, .ref 188), (1, .int a1)]) rfl ?_
  refine Ar.fall 23 rfl ?_
  have z_425 : (0 : Int32).toInt = 0 := rfl
  refine w_loopI (fun n_ l_ g_ => ∃ x411 : Int32, ∃ x412 : Int32, n_ = 12 - x412.toInt ∧ HI g_ ∧ Fr F_X1_handsToWant_188 A_X1_handsToWant_188 g0 g_ ∧ en_get 0 l_ = some (.ref 188) ∧ en_get 1 l_ = some (.int a1) ∧ en_get 2 l_ = some (.int x411) ∧ en_get 3 l_ = some (.int v300) ∧ en_get 4 l_ = some (.int x412) ∧ (0 ≤ x412.toInt ∧ x412.toInt ≤ 12)) ?_ (12 - 0) ⟨v294, 0, by first | rfl | omega, hI298, hF302, rfl, rfl, rfl, rfl, rfl, by decide⟩
  rintro n417 l416 g413 ⟨x411, x412, hm426, hI414, hF415, e419, e420, e421, e422, e423, r424⟩ ih418
  refine At.enter rfl ?_
  refine r_iload e423 ?_
  refine r_bipush 12 rfl ?_
  refine r_ics 30 rfl (fun c427 => ?_) (fun c427 => ?_)
  · have c427_ : x412.toInt ≥ 12 := en_i_ge_t c427
    refine At.enter rfl ?_
    refine r_iconst (-1) rfl ?_
    refine r_ireti ?_
    exact ⟨_, rfl, hI414, hF415, _, rfl, by decide⟩
  · have c427_ : x412.toInt < 12 := en_i_ge_f c427
    refine At.enter rfl ?_
    refine r_aload_n e419 ?_
    refine q_getR (Sh.ref hI414.1 kx_188 rfl) ?_
    refine r_iload_n e421 ?_
    refine q_inlV 38 rfl [.ref 1, .int x411] [] (Nat.le_of_ble_eq_true rfl) rfl ?_
    refine Ev.mk rfl rfl ⟨Nat.le_of_ble_eq_true rfl, Or.inr (q_rc hI414.1 kx_1 rfl)⟩ ?_
    show At _ none _ _ (0, [(0, .ref 1), (1, .int x411)], [], (_, _)) _
    refine At.enter rfl ?_
    refine r_iload_n rfl ?_
    refine r_ifs 4 rfl (fun c428 => ?_) (fun c428 => ?_)
    · have c428_ : x411.toInt < 0 := en_k_lt_t c428
      refine At.enter rfl ?_
      refine r_iconst 0 rfl ?_
      refine Ar.fall 17 rfl ?_
      refine At.enter rfl ?_
      refine q_iretz (by decide) ?_
      refine At.enter rfl ?_
      refine r_ift (by decide) ?_
      refine At.enter rfl ?_
      refine r_iconst (-1) rfl ?_
      refine r_ireti ?_
      exact ⟨_, rfl, hI414, hF415, _, rfl, by decide⟩
    · have c428_ : x411.toInt ≥ 0 := en_k_lt_f c428
      refine At.enter rfl ?_
      refine r_iload_n rfl ?_
      refine r_aload_n rfl ?_
      obtain ⟨v429, hv429⟩ : ∃ v, gI g0 1 0 = v := ⟨_, rfl⟩
      have rv429 := RgF.at hI0.2.1 (p := 1) (b := 0) rfl
      rw [hv429] at rv429
      dsimp only at rv429
      refine q_getI (Sh.int hI414.1 kx_1 rfl) v429 ((hF415.1 1 0 (by decide)).trans hv429) ?_
      have bv431 := q_bnd x411
      have bv432 := q_bnd v429
      refine r_ics 12 rfl (fun c430 => ?_) (fun c430 => ?_)
      · have c430_ : x411.toInt ≥ v429.toInt := en_i_ge_t c430
        refine At.enter rfl ?_
        refine r_iconst 0 rfl ?_
        refine Ar.fall 17 rfl ?_
        refine At.enter rfl ?_
        refine q_iretz (by decide) ?_
        refine At.enter rfl ?_
        refine r_ift (by decide) ?_
        refine At.enter rfl ?_
        refine r_iconst (-1) rfl ?_
        refine r_ireti ?_
        exact ⟨_, rfl, hI414, hF415, _, rfl, by decide⟩
      · have c430_ : x411.toInt < v429.toInt := en_i_ge_f c430
        refine At.enter rfl ?_
        refine r_iconst 1 rfl ?_
        refine r_goto ?_
        refine At.enter rfl ?_
        refine q_iretz (by decide) ?_
        refine At.enter rfl ?_
        refine r_iff 41 rfl (by decide) ?_
        refine At.enter rfl ?_
        refine r_iload_n e421 ?_
        refine r_iload_n e422 ?_
        refine r_ics 46 rfl (fun c433 => ?_) (fun c433 => ?_)
        · have c433_ : x411.toInt ≠ v300.toInt := en_i_ne_t c433
          refine At.enter rfl ?_
          refine r_aload_n e419 ?_
          refine q_getR (Sh.ref hI414.1 kx_188 rfl) ?_
          refine r_iload_n e421 ?_
          obtain ⟨v434, hv434⟩ : ∃ v, eA g0 192 x411.toInt = v := ⟨_, rfl⟩
          refine q_iald (Sh.arr hI414.1 ka_192) x411.toInt rfl (by omega) v434 ((eA_c (hF415.2.1 192 (by decide))).trans hv434) ?_
          refine r_istore_n _ rfl ?_
          refine q_iinc (w_p1 (by decide) (Or.inr rfl) e423) (x412.toInt + 1) rfl (by omega) (fun v435 hv435 => ?_)
          refine r_goto ?_
          have bv436 := q_bnd v434
          exact ih418 (12 - v435.toInt) _ _ ⟨v434, v435, by first | rfl | omega, hI414, hF415, (w_p1 (by decide) (Or.inr rfl) (w_p1 (by decide) (Or.inr rfl) e419)), (w_p1 (by decide) (Or.inr rfl) (w_p1 (by decide) (Or.inr rfl) e420)), (w_p1 (by decide) (Or.inr rfl) (w_e1 _ _ _)), (w_p1 (by decide) (Or.inr rfl) (w_p1 (by decide) (Or.inr rfl) e422)), (w_e1 _ _ _), by omega⟩ ⟨by omega, by omega⟩
        · have c433_ : x411.toInt = v300.toInt := en_i_ne_f c433
          refine At.enter rfl ?_
          refine r_iload e423 ?_
          refine r_ireti ?_
          exact ⟨_, rfl, hI414, hF415, _, rfl, by omega⟩

def F_X1_layOut_188 : List (Nat × Nat) := []
def A_X1_layOut_188 : List Nat := [189, 190, 191, 192, 193]
set_option maxRecDepth 100000 in
set_option maxHeartbeats 4000000 in
theorem T_X1_layOut_188 (d : Nat) {N : Nat} {g0 : List en_E} (hI0 : HI g0) (a1 : Int32) : Ev (d + 4) 16 [.ref 188, .int a1] (g0, N) (fun w h' => ∃ g', h' = (g', N) ∧ HI g' ∧ Fr F_X1_layOut_188 A_X1_layOut_188 g0 g' ∧ w = none) := by
  have hF0 : Fr F_X1_layOut_188 A_X1_layOut_188 g0 g0 := Fr.rf
  refine Ev.mk rfl rfl ⟨Nat.le_of_ble_eq_true rfl, Or.inr (q_rc hI0.1 kx_188 rfl)⟩ ?_
  show At _ none _ _ (0, [(0, .ref 188), (1, .int a1)], [], (_, _)) _
  refine At.enter rfl ?_
  refine r_aload_n rfl ?_
  refine q_getR (Sh.ref hI0.1 kx_188 rfl) ?_
  refine q_getR (Sh.ref hI0.1 kx_1 rfl) ?_
  refine r_iconst 0 rfl ?_
  refine r_aload_n rfl ?_
  refine q_getR (Sh.ref hI0.1 kx_188 rfl) ?_
  refine r_iconst 0 rfl ?_
  refine r_bipush 12 rfl ?_
  have zv4243 : (0 : Int32).toInt = 0 := rfl
  have zv4244 : (0 : Int32).toInt = 0 := rfl
  have zv4245 : (12 : Int32).toInt = 12 := rfl
  refine q_cpy rfl (Nat.le_of_ble_eq_true rfl) (Sh.arr hI0.1 ka_3) (Sh.arr hI0.1 ka_189) ⟨by omega, by omega, by omega, by omega, by omega⟩ ?_
  have hI4246 := HI.cpy0 hI0 ka_3 ka_189 rfl rfl ((0 : Int32).toInt.toNat) ((0 : Int32).toInt.toNat) ((12 : Int32).toInt.toNat) (by omega) (by omega)
  have hF4247 := Fr.cpy (p0 := 3) (p1 := 189) hF0 rfl ((0 : Int32).toInt.toNat) ((0 : Int32).toInt.toNat) ((12 : Int32).toInt.toNat)
  refine r_aload_n rfl ?_
  refine q_getR (Sh.ref hI4246.1 kx_188 rfl) ?_
  refine q_getR (Sh.ref hI4246.1 kx_1 rfl) ?_
  refine r_iconst 0 rfl ?_
  refine r_aload_n rfl ?_
  refine q_getR (Sh.ref hI4246.1 kx_188 rfl) ?_
  refine r_iconst 0 rfl ?_
  refine r_bipush 12 rfl ?_
  have zv4248 : (0 : Int32).toInt = 0 := rfl
  have zv4249 : (0 : Int32).toInt = 0 := rfl
  have zv4250 : (12 : Int32).toInt = 12 := rfl
  refine q_cpy rfl (Nat.le_of_ble_eq_true rfl) (Sh.arr hI4246.1 ka_4) (Sh.arr hI4246.1 ka_190) ⟨by omega, by omega, by omega, by omega, by omega⟩ ?_
  have hI4251 := HI.cpy0 hI4246 ka_4 ka_190 rfl rfl ((0 : Int32).toInt.toNat) ((0 : Int32).toInt.toNat) ((12 : Int32).toInt.toNat) (by omega) (by omega)
  have hF4252 := Fr.cpy (p0 := 4) (p1 := 190) hF4247 rfl ((0 : Int32).toInt.toNat) ((0 : Int32).toInt.toNat) ((12 : Int32).toInt.toNat)
  refine r_iconst 0 rfl ?_
  refine r_istore_n ([(2, .int 0), (0, .ref 188), (1, .int a1)]) rfl ?_
  refine Ar.fall 38 rfl ?_
  have z_6154 : (0 : Int32).toInt = 0 := rfl
  refine w_loopI (fun n_ l_ g_ => ∃ x6143 : Int32, n_ = 12 - x6143.toInt ∧ HI g_ ∧ Fr F_X1_layOut_188 A_X1_layOut_188 g0 g_ ∧ en_get 0 l_ = some (.ref 188) ∧ en_get 1 l_ = some (.int a1) ∧ en_get 2 l_ = some (.int x6143) ∧ (0 ≤ x6143.toInt ∧ x6143.toInt ≤ 12)) ?_ (12 - 0) ⟨0, by first | rfl | omega, hI4251, hF4252, rfl, rfl, rfl, by decide⟩
  rintro n6148 l6147 g6144 ⟨x6143, hm6155, hI6145, hF6146, e6150, e6151, e6152, r6153⟩ ih6149
  refine At.enter rfl ?_
  refine r_iload_n e6152 ?_
  refine r_aload_n e6150 ?_
  refine q_getR (Sh.ref hI6145.1 kx_188 rfl) ?_
  obtain ⟨v6156, hv6156⟩ : ∃ v, gI g0 1 0 = v := ⟨_, rfl⟩
  have rv6156 := RgF.at hI0.2.1 (p := 1) (b := 0) rfl
  rw [hv6156] at rv6156
  dsimp only at rv6156
  refine q_getI (Sh.int hI6145.1 kx_1 rfl) v6156 ((hF6146.1 1 0 (by decide)).trans hv6156) ?_
  have bv6158 := q_bnd x6143
  have bv6159 := q_bnd v6156
  refine r_ics 49 rfl (fun c6157 => ?_) (fun c6157 => ?_)
  · have c6157_ : x6143.toInt ≥ v6156.toInt := en_i_ge_t c6157
    refine At.enter rfl ?_
    refine r_iconst 0 rfl ?_
    refine r_istore_n _ rfl ?_
    refine Ar.fall 72 rfl ?_
    have z_6332 : (0 : Int32).toInt = 0 := rfl
    refine w_loopI (fun n_ l_ g_ => ∃ x6321 : Int32, n_ = 8 - x6321.toInt ∧ HI g_ ∧ Fr F_X1_layOut_188 A_X1_layOut_188 g0 g_ ∧ en_get 0 l_ = some (.ref 188) ∧ en_get 1 l_ = some (.int a1) ∧ en_get 2 l_ = some (.int x6321) ∧ (0 ≤ x6321.toInt ∧ x6321.toInt ≤ 8)) ?_ (8 - 0) ⟨0, by first | rfl | omega, hI6145, hF6146, (w_p1 (by decide) (Or.inr rfl) e6150), (w_p1 (by decide) (Or.inr rfl) e6151), (w_e1 _ _ _), by decide⟩
    rintro n6326 l6325 g6322 ⟨x6321, hm6333, hI6323, hF6324, e6328, e6329, e6330, r6331⟩ ih6327
    refine At.enter rfl ?_
    refine r_iload_n e6330 ?_
    refine r_aload_n e6328 ?_
    refine q_getR (Sh.ref hI6323.1 kx_188 rfl) ?_
    obtain ⟨v6334, hv6334⟩ : ∃ v, gI g0 1 4 = v := ⟨_, rfl⟩
    have rv6334 := RgF.at hI0.2.1 (p := 1) (b := 4) rfl
    rw [hv6334] at rv6334
    dsimp only at rv6334
    refine q_getI (Sh.int hI6323.1 kx_1 rfl) v6334 ((hF6324.1 1 4 (by decide)).trans hv6334) ?_
    have bv6336 := q_bnd x6321
    have bv6337 := q_bnd v6334
    refine r_ics 83 rfl (fun c6335 => ?_) (fun c6335 => ?_)
    · have c6335_ : x6321.toInt ≥ v6334.toInt := en_i_ge_t c6335
      refine At.enter rfl ?_
      refine r_vret ?_
      exact ⟨_, rfl, hI6323, hF6324, rfl⟩
    · have c6335_ : x6321.toInt < v6334.toInt := en_i_ge_f c6335
      refine At.enter rfl ?_
      refine r_aload_n e6328 ?_
      refine q_getR (Sh.ref hI6323.1 kx_188 rfl) ?_
      refine r_iload_n e6330 ?_
      refine r_aload_n e6328 ?_
      refine q_getR (Sh.ref hI6323.1 kx_188 rfl) ?_
      refine r_iload_n e6330 ?_
      refine r_iconst 3 rfl ?_
      refine r_callV 97 rfl [.ref 1, .int x6321, .int 3] [.int x6321, .ref 191] (Nat.le_of_ble_eq_true rfl) rfl (T_X0_about_1 _ hI6323 x6321 3) ?_
      rintro _ _ ⟨g6338, rfl, hI6339, hF6340, v6341, rfl, hr6342⟩
      refine At.sti ?_
      have hF6343 := Fr.tr hF6324 hF6340 rfl rfl
      refine At.enter rfl ?_
      refine q_iast (Sh.arr hI6339.1 ka_191) (x6321.toInt) rfl (by omega) ?_
      have hI6344 := HI.wA0 hI6339 ka_191 (p := 191) rfl rfl (x6321.toInt) (v6341)
      have hF6345 := Fr.wA (p := 191) (j := x6321.toInt) (v := v6341) hF6343 rfl
      refine r_aload_n e6328 ?_
      refine q_getR (Sh.ref hI6344.1 kx_188 rfl) ?_
      refine r_iload_n e6330 ?_
      refine r_aload_n e6328 ?_
      refine r_iload_n e6330 ?_
      refine r_callV 108 rfl [.ref 188, .int x6321] [.int x6321, .ref 193] (Nat.le_of_ble_eq_true rfl) rfl (T_X1_handsToWant_188 _ hI6344 x6321) ?_
      rintro _ _ ⟨g6346, rfl, hI6347, hF6348, v6349, rfl, hr6350⟩
      refine At.sti ?_
      have hF6351 := Fr.tr hF6345 hF6348 rfl rfl
      refine At.enter rfl ?_
      refine q_iast (Sh.arr hI6347.1 ka_193) (x6321.toInt) rfl (by omega) ?_
      have hI6352 := HI.wA0 hI6347 ka_193 (p := 193) rfl rfl (x6321.toInt) (v6349)
      have hF6353 := Fr.wA (p := 193) (j := x6321.toInt) (v := v6349) hF6351 rfl
      refine q_iinc e6330 (x6321.toInt + 1) rfl (by omega) (fun v6354 hv6354 => ?_)
      refine r_goto ?_
      exact ih6327 (8 - v6354.toInt) _ _ ⟨v6354, by first | rfl | omega, hI6352, hF6353, (w_p1 (by decide) (Or.inr rfl) e6328), (w_p1 (by decide) (Or.inr rfl) e6329), (w_e1 _ _ _), by omega⟩ ⟨by omega, by omega⟩
  · have c6157_ : x6143.toInt < v6156.toInt := en_i_ge_f c6157
    refine At.enter rfl ?_
    refine r_aload_n e6150 ?_
    refine q_getR (Sh.ref hI6145.1 kx_188 rfl) ?_
    refine r_iload_n e6152 ?_
    refine r_aload_n e6150 ?_
    refine q_getR (Sh.ref hI6145.1 kx_188 rfl) ?_
    refine r_iload_n e6152 ?_
    refine r_iload_n e6151 ?_
    refine r_callV 63 rfl [.ref 1, .int x6143, .int a1] [.int x6143, .ref 192] (Nat.le_of_ble_eq_true rfl) rfl (T_X0_nextPast_1 _ hI6145 x6143 a1) ?_
    rintro _ _ ⟨g6355, rfl, hI6356, hF6357, v6358, rfl, hr6359⟩
    refine At.sti ?_
    have hF6360 := Fr.tr hF6146 hF6357 rfl rfl
    refine At.enter rfl ?_
    refine q_iast (Sh.arr hI6356.1 ka_192) (x6143.toInt) rfl (by omega) ?_
    have hI6361 := HI.wA0 hI6356 ka_192 (p := 192) rfl rfl (x6143.toInt) (v6358)
    have hF6362 := Fr.wA (p := 192) (j := x6143.toInt) (v := v6358) hF6360 rfl
    refine q_iinc e6152 (x6143.toInt + 1) rfl (by omega) (fun v6363 hv6363 => ?_)
    refine r_goto ?_
    exact ih6149 (12 - v6363.toInt) _ _ ⟨v6363, by first | rfl | omega, hI6361, hF6362, (w_p1 (by decide) (Or.inr rfl) e6150), (w_p1 (by decide) (Or.inr rfl) e6151), (w_e1 _ _ _), by omega⟩ ⟨by omega, by omega⟩

def F_X1_canHold_188 : List (Nat × Nat) := []
def A_X1_canHold_188 : List Nat := []
theorem ma_X0_about_1_189 : memA A_X0_about_1 189 = false := by decide
set_option maxRecDepth 100000 in
set_option maxHeartbeats 4000000 in
theorem T_X1_canHold_188 (d : Nat) {N : Nat} {g0 : List en_E} (hI0 : HI g0) (a1 : Int32) (a2 : Int32) : Ev (d + 2) 26 [.ref 188, .int a1, .int a2] (g0, N) (fun w h' => ∃ g', h' = (g', N) ∧ HI g' ∧ Fr F_X1_canHold_188 A_X1_canHold_188 g0 g' ∧ ∃ r : Int32, w = some (.int r) ∧ (0 ≤ r.toInt ∧ r.toInt ≤ 1)) := by
  have hF0 : Fr F_X1_canHold_188 A_X1_canHold_188 g0 g0 := Fr.rf
  refine Ev.mk rfl rfl ⟨Nat.le_of_ble_eq_true rfl, Or.inr (q_rc hI0.1 kx_188 rfl)⟩ ?_
  show At _ none _ _ (0, [(0, .ref 188), (1, .int a1), (2, .int a2)], [], (_, _)) _
  refine At.enter rfl ?_
  refine r_aload_n rfl ?_
  refine q_getR (Sh.ref hI0.1 kx_188 rfl) ?_
  refine r_iload_n rfl ?_
  refine q_inlV 8 rfl [.ref 1, .int a1] [] (Nat.le_of_ble_eq_true rfl) rfl ?_
  refine Ev.mk rfl rfl ⟨Nat.le_of_ble_eq_true rfl, Or.inr (q_rc hI0.1 kx_1 rfl)⟩ ?_
  show At _ none _ _ (0, [(0, .ref 1), (1, .int a1)], [], (_, _)) _
  refine At.enter rfl ?_
  refine r_iload_n rfl ?_
  refine r_ifs 4 rfl (fun c45 => ?_) (fun c45 => ?_)
  · have c45_ : a1.toInt < 0 := en_k_lt_t c45
    refine At.enter rfl ?_
    refine r_iconst 0 rfl ?_
    refine Ar.fall 17 rfl ?_
    refine At.enter rfl ?_
    refine q_iretz (by decide) ?_
    refine At.enter rfl ?_
    refine r_ift (by decide) ?_
    refine At.enter rfl ?_
    refine r_iconst 0 rfl ?_
    refine Ar.fall 57 rfl ?_
    refine At.enter rfl ?_
    refine r_iretz (by decide) ?_
    exact ⟨_, rfl, hI0, hF0, _, rfl, by decide⟩
  · have c45_ : a1.toInt ≥ 0 := en_k_lt_f c45
    refine At.enter rfl ?_
    refine r_iload_n rfl ?_
    refine r_aload_n rfl ?_
    obtain ⟨v46, hv46⟩ : ∃ v, gI g0 1 0 = v := ⟨_, rfl⟩
    have rv46 := RgF.at hI0.2.1 (p := 1) (b := 0) rfl
    rw [hv46] at rv46
    dsimp only at rv46
    refine q_getI (Sh.int hI0.1 kx_1 rfl) v46 hv46 ?_
    have bv48 := q_bnd a1
    have bv49 := q_bnd v46
    refine r_ics 12 rfl (fun c47 => ?_) (fun c47 => ?_)
    · have c47_ : a1.toInt ≥ v46.toInt := en_i_ge_t c47
      refine At.enter rfl ?_
      refine r_iconst 0 rfl ?_
      refine Ar.fall 17 rfl ?_
      refine At.enter rfl ?_
      refine q_iretz (by decide) ?_
      refine At.enter rfl ?_
      refine r_ift (by decide) ?_
      refine At.enter rfl ?_
      refine r_iconst 0 rfl ?_
      refine Ar.fall 57 rfl ?_
      refine At.enter rfl ?_
      refine r_iretz (by decide) ?_
      exact ⟨_, rfl, hI0, hF0, _, rfl, by decide⟩
    · have c47_ : a1.toInt < v46.toInt := en_i_ge_f c47
      refine At.enter rfl ?_
      refine r_iconst 1 rfl ?_
      refine r_goto ?_
      refine At.enter rfl ?_
      refine q_iretz (by decide) ?_
      refine At.enter rfl ?_
      refine r_iff 11 rfl (by decide) ?_
      refine At.enter rfl ?_
      refine r_aload_n rfl ?_
      refine q_getR (Sh.ref hI0.1 kx_188 rfl) ?_
      refine r_iload_n rfl ?_
      obtain ⟨v50, hv50⟩ : ∃ v, eA g0 199 a1.toInt = v := ⟨_, rfl⟩
      refine q_iald (Sh.arr hI0.1 ka_199) a1.toInt rfl (by omega) v50 hv50 ?_
      refine r_aload_n rfl ?_
      refine q_getR (Sh.ref hI0.1 kx_188 rfl) ?_
      obtain ⟨v51, hv51⟩ : ∃ v, gI g0 1 11 = v := ⟨_, rfl⟩
      refine q_getI (Sh.int hI0.1 kx_1 rfl) v51 hv51 ?_
      have bv53 := q_bnd v50
      have bv54 := q_bnd v51
      refine r_ics 27 rfl (fun c52 => ?_) (fun c52 => ?_)
      · have c52_ : v50.toInt ≥ v51.toInt := en_i_ge_t c52
        refine At.enter rfl ?_
        refine r_iconst 0 rfl ?_
        refine Ar.fall 57 rfl ?_
        refine At.enter rfl ?_
        refine r_iretz (by decide) ?_
        exact ⟨_, rfl, hI0, hF0, _, rfl, by decide⟩
      · have c52_ : v50.toInt < v51.toInt := en_i_ge_f c52
        refine At.enter rfl ?_
        refine r_aload_n rfl ?_
        refine q_getR (Sh.ref hI0.1 kx_188 rfl) ?_
        refine r_iload_n rfl ?_
        obtain ⟨v55, hv55⟩ : ∃ v, eA g0 200 a1.toInt = v := ⟨_, rfl⟩
        refine q_iald (Sh.arr hI0.1 ka_200) a1.toInt rfl (by omega) v55 hv55 ?_
        refine r_aload_n rfl ?_
        refine q_getR (Sh.ref hI0.1 kx_188 rfl) ?_
        refine r_iload_n rfl ?_
        refine r_iconst 0 rfl ?_
        refine r_callV 42 rfl [.ref 1, .int a2, .int 0] [.int v55] (Nat.le_of_ble_eq_true rfl) rfl (T_X0_about_1 _ hI0 a2 0) ?_
        rintro _ _ ⟨g56, rfl, hI57, hF58, v59, rfl, hr60⟩
        refine At.sti ?_
        have hF61 := Fr.tr hF0 hF58 rfl rfl
        refine At.enter rfl ?_
        refine q_iaddO (fun v62 _ => ?_)
        refine r_aload_n rfl ?_
        refine q_getR (Sh.ref hI57.1 kx_188 rfl) ?_
        refine r_iload_n rfl ?_
        obtain ⟨v63, hv63⟩ : ∃ v, eA g0 189 a1.toInt = v := ⟨_, rfl⟩
        refine q_iald (Sh.arr hI57.1 ka_189) a1.toInt rfl (by omega) v63 ((eA_c (hF58.2.1 189 ma_X0_about_1_189)).trans hv63) ?_
        have bv65 := q_bnd v62
        have bv66 := q_bnd v63
        refine r_ics 52 rfl (fun c64 => ?_) (fun c64 => ?_)
        · have c64_ : v62.toInt > v63.toInt := en_i_gt_t c64
          refine At.enter rfl ?_
          refine r_iconst 0 rfl ?_
          refine Ar.fall 57 rfl ?_
          refine At.enter rfl ?_
          refine r_iretz (by decide) ?_
          exact ⟨_, rfl, hI57, hF61, _, rfl, by decide⟩
        · have c64_ : v62.toInt ≤ v63.toInt := en_i_gt_f c64
          refine At.enter rfl ?_
          refine r_iconst 1 rfl ?_
          refine r_goto ?_
          refine At.enter rfl ?_
          refine r_iretz (by decide) ?_
          exact ⟨_, rfl, hI57, hF61, _, rfl, by decide⟩
