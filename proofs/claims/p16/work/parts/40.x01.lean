def F_X1_layOut_188 : List (Nat × Nat) := []
def A_X1_layOut_188 : List Nat := [189, 190, 191, 192, 193]
set_option maxRecDepth 100000 in
set_option maxHeartbeats 4000000 in
theorem T_X1_layOut_188 (d : Nat) {N : Nat} {g0 : List en_E} (hI0 : HI g0) (a1 : Int32) : Ev (d + 4) 16 [.ref 188, .int a1] (g0, N) (fun w h' => ∃ g', h' = (g', N) ∧ HI g' ∧ Fr F_X1_layOut_188 A_X1_layOut_188 g0 g' ∧ w = none) := by
  have hF0 : Fr F_X1_layOut_188 A_X1_layOut_188 g0 g0 := Fr.rf
  refine Ev.mk rfl rfl ⟨Nat.le_of_ble_eq_true rfl, Or.inr (q_rc hI0.1 kx_188 rfl)⟩ ?_
  show At _ none _ _ (0, [(0, .ref 188), (1, .int a1)], [], (_, _)) _
  refine At.enter rfl ?_
  refine r_aload_n rfl ?_
  refine q_getR (Sh.ref hI0.1 kx_188 rfl) ?_
  refine q_getR (Sh.ref hI0.1 kx_1 rfl) ?_
  refine r_iconst 0 rfl ?_
  refine r_aload_n rfl ?_
  refine q_getR (Sh.ref hI0.1 kx_188 rfl) ?_
  refine r_iconst 0 rfl ?_
  refine r_bipush 12 rfl ?_
  have zv4403 : (0 : Int32).toInt = 0 := rfl
  have zv4404 : (0 : Int32).toInt = 0 := rfl
  have zv4405 : (12 : Int32).toInt = 12 := rfl
  refine q_cpy rfl (Nat.le_of_ble_eq_true rfl) (Sh.arr hI0.1 ka_3) (Sh.arr hI0.1 ka_189) ⟨by omega, by omega, by omega, by omega, by omega⟩ ?_
  have hI4406 := HI.cpy0 hI0 ka_3 ka_189 rfl rfl ((0 : Int32).toInt.toNat) ((0 : Int32).toInt.toNat) ((12 : Int32).toInt.toNat) (by omega) (by omega)
  have hF4407 := Fr.cpy (p0 := 3) (p1 := 189) hF0 rfl ((0 : Int32).toInt.toNat) ((0 : Int32).toInt.toNat) ((12 : Int32).toInt.toNat)
  refine r_aload_n rfl ?_
  refine q_getR (Sh.ref hI4406.1 kx_188 rfl) ?_
  refine q_getR (Sh.ref hI4406.1 kx_1 rfl) ?_
  refine r_iconst 0 rfl ?_
  refine r_aload_n rfl ?_
  refine q_getR (Sh.ref hI4406.1 kx_188 rfl) ?_
  refine r_iconst 0 rfl ?_
  refine r_bipush 12 rfl ?_
  have zv4408 : (0 : Int32).toInt = 0 := rfl
  have zv4409 : (0 : Int32).toInt = 0 := rfl
  have zv4410 : (12 : Int32).toInt = 12 := rfl
  refine q_cpy rfl (Nat.le_of_ble_eq_true rfl) (Sh.arr hI4406.1 ka_4) (Sh.arr hI4406.1 ka_190) ⟨by omega, by omega, by omega, by omega, by omega⟩ ?_
  have hI4411 := HI.cpy0 hI4406 ka_4 ka_190 rfl rfl ((0 : Int32).toInt.toNat) ((0 : Int32).toInt.toNat) ((12 : Int32).toInt.toNat) (by omega) (by omega)
  have hF4412 := Fr.cpy (p0 := 4) (p1 := 190) hF4407 rfl ((0 : Int32).toInt.toNat) ((0 : Int32).toInt.toNat) ((12 : Int32).toInt.toNat)
  refine r_iconst 0 rfl ?_
  refine r_istore_n ([(2, .int 0), (0, .ref 188), (1, .int a1)]) rfl ?_
  refine Ar.fall 38 rfl ?_
  have z_6386 : (0 : Int32).toInt = 0 := rfl
  refine w_loopI (fun n_ l_ g_ => ∃ x6375 : Int32, n_ = 12 - x6375.toInt ∧ HI g_ ∧ Fr F_X1_layOut_188 A_X1_layOut_188 g0 g_ ∧ en_get 0 l_ = some (.ref 188) ∧ en_get 1 l_ = some (.int a1) ∧ en_get 2 l_ = some (.int x6375) ∧ (0 ≤ x6375.toInt ∧ x6375.toInt ≤ 12)) ?_ (12 - 0) ⟨0, by first | rfl | omega, hI4411, hF4412, rfl, rfl, rfl, by decide⟩
  rintro n6380 l6379 g6376 ⟨x6375, hm6387, hI6377, hF6378, e6382, e6383, e6384, r6385⟩ ih6381
  refine At.enter rfl ?_
  refine r_iload_n e6384 ?_
  refine r_aload_n e6382 ?_
  refine q_getR (Sh.ref hI6377.1 kx_188 rfl) ?_
  obtain ⟨v6388, hv6388⟩ : ∃ v, gI g0 1 0 = v := ⟨_, rfl⟩
  have rv6388 := RgF.at hI0.2.1 (p := 1) (b := 0) rfl
  rw [hv6388] at rv6388
  dsimp only at rv6388
  refine q_getI (Sh.int hI6377.1 kx_1 rfl) v6388 ((hF6378.1 1 0 (by decide)).trans hv6388) ?_
  have bv6390 := q_bnd x6375
  have bv6391 := q_bnd v6388
  refine r_ics 49 rfl (fun c6389 => ?_) (fun c6389 => ?_)
  · have c6389_ : x6375.toInt ≥ v6388.toInt := en_i_ge_t c6389
    refine At.enter rfl ?_
    refine r_iconst 0 rfl ?_
    refine r_istore_n _ rfl ?_
    refine Ar.fall 72 rfl ?_
    have z_6571 : (0 : Int32).toInt = 0 := rfl
    refine w_loopI (fun n_ l_ g_ => ∃ x6560 : Int32, n_ = 8 - x6560.toInt ∧ HI g_ ∧ Fr F_X1_layOut_188 A_X1_layOut_188 g0 g_ ∧ en_get 0 l_ = some (.ref 188) ∧ en_get 1 l_ = some (.int a1) ∧ en_get 2 l_ = some (.int x6560) ∧ (0 ≤ x6560.toInt ∧ x6560.toInt ≤ 8)) ?_ (8 - 0) ⟨0, by first | rfl | omega, hI6377, hF6378, (w_p1 (by decide) (Or.inr rfl) e6382), (w_p1 (by decide) (Or.inr rfl) e6383), (w_e1 _ _ _), by decide⟩
    rintro n6565 l6564 g6561 ⟨x6560, hm6572, hI6562, hF6563, e6567, e6568, e6569, r6570⟩ ih6566
    refine At.enter rfl ?_
    refine r_iload_n e6569 ?_
    refine r_aload_n e6567 ?_
    refine q_getR (Sh.ref hI6562.1 kx_188 rfl) ?_
    obtain ⟨v6573, hv6573⟩ : ∃ v, gI g0 1 4 = v := ⟨_, rfl⟩
    have rv6573 := RgF.at hI0.2.1 (p := 1) (b := 4) rfl
    rw [hv6573] at rv6573
    dsimp only at rv6573
    refine q_getI (Sh.int hI6562.1 kx_1 rfl) v6573 ((hF6563.1 1 4 (by decide)).trans hv6573) ?_
    have bv6575 := q_bnd x6560
    have bv6576 := q_bnd v6573
    refine r_ics 83 rfl (fun c6574 => ?_) (fun c6574 => ?_)
    · have c6574_ : x6560.toInt ≥ v6573.toInt := en_i_ge_t c6574
      refine At.enter rfl ?_
      refine r_vret ?_
      exact ⟨_, rfl, hI6562, hF6563, rfl⟩
    · have c6574_ : x6560.toInt < v6573.toInt := en_i_ge_f c6574
      refine At.enter rfl ?_
      refine r_aload_n e6567 ?_
      refine q_getR (Sh.ref hI6562.1 kx_188 rfl) ?_
      refine r_iload_n e6569 ?_
      refine r_aload_n e6567 ?_
      refine q_getR (Sh.ref hI6562.1 kx_188 rfl) ?_
      refine r_iload_n e6569 ?_
      refine r_iconst 3 rfl ?_
      refine r_callV 97 rfl [.ref 1, .int x6560, .int 3] [.int x6560, .ref 191] (Nat.le_of_ble_eq_true rfl) rfl (T_X0_about_1 _ hI6562 x6560 3) ?_
      rintro _ _ ⟨g6577, rfl, hI6578, hF6579, v6580, rfl, hr6581⟩
      refine At.sti ?_
      have hF6582 := Fr.tr hF6563 hF6579 rfl rfl
      have zv6583 : (3 : Int32).toInt = 3 := rfl
      refine At.enter rfl ?_
      refine q_iast (Sh.arr hI6578.1 ka_191) (x6560.toInt) rfl (by omega) ?_
      have hI6584 := HI.wA0 hI6578 ka_191 (p := 191) rfl rfl (x6560.toInt) (v6580)
      have hF6585 := Fr.wA (p := 191) (j := x6560.toInt) (v := v6580) hF6582 rfl
      refine r_aload_n e6567 ?_
      refine q_getR (Sh.ref hI6584.1 kx_188 rfl) ?_
      refine r_iload_n e6569 ?_
      refine r_aload_n e6567 ?_
      refine r_iload_n e6569 ?_
      refine r_callV 108 rfl [.ref 188, .int x6560] [.int x6560, .ref 193] (Nat.le_of_ble_eq_true rfl) rfl (T_X1_handsToWant_188 _ hI6584 x6560) ?_
      rintro _ _ ⟨g6586, rfl, hI6587, hF6588, v6589, rfl, hr6590⟩
      refine At.sti ?_
      have hF6591 := Fr.tr hF6585 hF6588 rfl rfl
      refine At.enter rfl ?_
      refine q_iast (Sh.arr hI6587.1 ka_193) (x6560.toInt) rfl (by omega) ?_
      have hI6592 := HI.wA0 hI6587 ka_193 (p := 193) rfl rfl (x6560.toInt) (v6589)
      have hF6593 := Fr.wA (p := 193) (j := x6560.toInt) (v := v6589) hF6591 rfl
      refine q_iinc e6569 (x6560.toInt + 1) rfl (by omega) (fun v6594 hv6594 => ?_)
      refine r_goto ?_
      exact ih6566 (8 - v6594.toInt) _ _ ⟨v6594, by first | rfl | omega, hI6592, hF6593, (w_p1 (by decide) (Or.inr rfl) e6567), (w_p1 (by decide) (Or.inr rfl) e6568), (w_e1 _ _ _), by omega⟩ ⟨by omega, by omega⟩
  · have c6389_ : x6375.toInt < v6388.toInt := en_i_ge_f c6389
    refine At.enter rfl ?_
    refine r_aload_n e6382 ?_
    refine q_getR (Sh.ref hI6377.1 kx_188 rfl) ?_
    refine r_iload_n e6384 ?_
    refine r_aload_n e6382 ?_
    refine q_getR (Sh.ref hI6377.1 kx_188 rfl) ?_
    refine r_iload_n e6384 ?_
    refine r_iload_n e6383 ?_
    refine r_callV 63 rfl [.ref 1, .int x6375, .int a1] [.int x6375, .ref 192] (Nat.le_of_ble_eq_true rfl) rfl (T_X0_nextPast_1 _ hI6377 x6375 a1) ?_
    rintro _ _ ⟨g6595, rfl, hI6596, hF6597, v6598, rfl, hr6599⟩
    refine At.sti ?_
    have hF6600 := Fr.tr hF6378 hF6597 rfl rfl
    refine At.enter rfl ?_
    refine q_iast (Sh.arr hI6596.1 ka_192) (x6375.toInt) rfl (by omega) ?_
    have hI6601 := HI.wA0 hI6596 ka_192 (p := 192) rfl rfl (x6375.toInt) (v6598)
    have hF6602 := Fr.wA (p := 192) (j := x6375.toInt) (v := v6598) hF6600 rfl
    refine q_iinc e6384 (x6375.toInt + 1) rfl (by omega) (fun v6603 hv6603 => ?_)
    refine r_goto ?_
    exact ih6381 (12 - v6603.toInt) _ _ ⟨v6603, by first | rfl | omega, hI6601, hF6602, (w_p1 (by decide) (Or.inr rfl) e6382), (w_p1 (by decide) (Or.inr rfl) e6383), (w_e1 _ _ _), by omega⟩ ⟨by omega, by omega⟩

def F_X1_canHold_188 : List (Nat × Nat) := []
def A_X1_canHold_188 : List Nat := []
set_option maxRecDepth 100000 in
set_option maxHeartbeats 4000000 in
theorem T_X1_canHold_188 (d : Nat) {N : Nat} {g0 : List en_E} (hI0 : HI g0) (a1 : Int32) (a2 : Int32) : Ev (d + 2) 26 [.ref 188, .int a1, .int a2] (g0, N) (fun w h' => ∃ g', h' = (g', N) ∧ HI g' ∧ Fr F_X1_canHold_188 A_X1_canHold_188 g0 g' ∧ ∃ r : Int32, w = some (.int r) ∧ (0 ≤ r.toInt ∧ r.toInt ≤ 1)) := by
  have hF0 : Fr F_X1_canHold_188 A_X1_canHold_188 g0 g0 := Fr.rf
  refine Ev.mk rfl rfl ⟨Nat.le_of_ble_eq_true rfl, Or.inr (q_rc hI0.1 kx_188 rfl)⟩ ?_
  show At _ none _ _ (0, [(0, .ref 188), (1, .int a1), (2, .int a2)], [], (_, _)) _
  refine At.enter rfl ?_
  refine r_aload_n rfl ?_
  refine q_getR (Sh.ref hI0.1 kx_188 rfl) ?_
  refine r_iload_n rfl ?_
  refine q_inlV 8 rfl [.ref 1, .int a1] [] (Nat.le_of_ble_eq_true rfl) rfl ?_
  refine Ev.mk rfl rfl ⟨Nat.le_of_ble_eq_true rfl, Or.inr (q_rc hI0.1 kx_1 rfl)⟩ ?_
  show At _ none _ _ (0, [(0, .ref 1), (1, .int a1)], [], (_, _)) _
  refine At.enter rfl ?_
  refine r_iload_n rfl ?_
  refine r_ifs 4 rfl (fun c47 => ?_) (fun c47 => ?_)
  · have c47_ : a1.toInt < 0 := en_k_lt_t c47
    refine At.enter rfl ?_
    refine r_iconst 0 rfl ?_
    refine Ar.fall 17 rfl ?_
    refine At.enter rfl ?_
    refine q_iretz (by decide) ?_
    refine At.enter rfl ?_
    refine r_ift (by decide) ?_
    refine At.enter rfl ?_
    refine r_iconst 0 rfl ?_
    refine Ar.fall 57 rfl ?_
    refine At.enter rfl ?_
    refine r_iretz (by decide) ?_
    exact ⟨_, rfl, hI0, hF0, _, rfl, by decide⟩
  · have c47_ : a1.toInt ≥ 0 := en_k_lt_f c47
    refine At.enter rfl ?_
    refine r_iload_n rfl ?_
    refine r_aload_n rfl ?_
    obtain ⟨v48, hv48⟩ : ∃ v, gI g0 1 0 = v := ⟨_, rfl⟩
    have rv48 := RgF.at hI0.2.1 (p := 1) (b := 0) rfl
    rw [hv48] at rv48
    dsimp only at rv48
    refine q_getI (Sh.int hI0.1 kx_1 rfl) v48 hv48 ?_
    have bv50 := q_bnd a1
    have bv51 := q_bnd v48
    refine r_ics 12 rfl (fun c49 => ?_) (fun c49 => ?_)
    · have c49_ : a1.toInt ≥ v48.toInt := en_i_ge_t c49
      refine At.enter rfl ?_
      refine r_iconst 0 rfl ?_
      refine Ar.fall 17 rfl ?_
      refine At.enter rfl ?_
      refine q_iretz (by decide) ?_
      refine At.enter rfl ?_
      refine r_ift (by decide) ?_
      refine At.enter rfl ?_
      refine r_iconst 0 rfl ?_
      refine Ar.fall 57 rfl ?_
      refine At.enter rfl ?_
      refine r_iretz (by decide) ?_
      exact ⟨_, rfl, hI0, hF0, _, rfl, by decide⟩
    · have c49_ : a1.toInt < v48.toInt := en_i_ge_f c49
      refine At.enter rfl ?_
      refine r_iconst 1 rfl ?_
      refine r_goto ?_
      refine At.enter rfl ?_
      refine q_iretz (by decide) ?_
      refine At.enter rfl ?_
      refine r_iff 11 rfl (by decide) ?_
      refine At.enter rfl ?_
      refine r_aload_n rfl ?_
      refine q_getR (Sh.ref hI0.1 kx_188 rfl) ?_
      refine r_iload_n rfl ?_
      obtain ⟨v52, hv52⟩ : ∃ v, eA g0 199 a1.toInt = v := ⟨_, rfl⟩
      refine q_iald (Sh.arr hI0.1 ka_199) a1.toInt rfl (by omega) v52 hv52 ?_
      refine r_aload_n rfl ?_
      refine q_getR (Sh.ref hI0.1 kx_188 rfl) ?_
      obtain ⟨v53, hv53⟩ : ∃ v, gI g0 1 11 = v := ⟨_, rfl⟩
      refine q_getI (Sh.int hI0.1 kx_1 rfl) v53 hv53 ?_
      have bv55 := q_bnd v52
      have bv56 := q_bnd v53
      refine r_ics 27 rfl (fun c54 => ?_) (fun c54 => ?_)
      · have c54_ : v52.toInt ≥ v53.toInt := en_i_ge_t c54
        refine At.enter rfl ?_
        refine r_iconst 0 rfl ?_
        refine Ar.fall 57 rfl ?_
        refine At.enter rfl ?_
        refine r_iretz (by decide) ?_
        exact ⟨_, rfl, hI0, hF0, _, rfl, by decide⟩
      · have c54_ : v52.toInt < v53.toInt := en_i_ge_f c54
        refine At.enter rfl ?_
        refine r_aload_n rfl ?_
        refine q_getR (Sh.ref hI0.1 kx_188 rfl) ?_
        refine r_iload_n rfl ?_
        obtain ⟨v57, hv57⟩ : ∃ v, eA g0 200 a1.toInt = v := ⟨_, rfl⟩
        refine q_iald (Sh.arr hI0.1 ka_200) a1.toInt rfl (by omega) v57 hv57 ?_
        refine r_aload_n rfl ?_
        refine q_getR (Sh.ref hI0.1 kx_188 rfl) ?_
        refine r_iload_n rfl ?_
        refine r_iconst 0 rfl ?_
        refine r_callV 42 rfl [.ref 1, .int a2, .int 0] [.int v57] (Nat.le_of_ble_eq_true rfl) rfl (T_X0_about_1 _ hI0 a2 0) ?_
        rintro _ _ ⟨g58, rfl, hI59, hF60, v61, rfl, hr62⟩
        refine At.sti ?_
        have hF63 := Fr.tr hF0 hF60 rfl rfl
        have zv64 : (0 : Int32).toInt = 0 := rfl
        refine At.enter rfl ?_
        refine q_iaddO (fun v65 _ => ?_)
        refine r_aload_n rfl ?_
        refine q_getR (Sh.ref hI59.1 kx_188 rfl) ?_
        refine r_iload_n rfl ?_
        obtain ⟨v66, hv66⟩ : ∃ v, eA g0 189 a1.toInt = v := ⟨_, rfl⟩
        refine q_iald (Sh.arr hI59.1 ka_189) a1.toInt rfl (by omega) v66 ((eA_c (hF60.2.1 189 (by decide))).trans hv66) ?_
        have bv68 := q_bnd v65
        have bv69 := q_bnd v66
        refine r_ics 52 rfl (fun c67 => ?_) (fun c67 => ?_)
        · have c67_ : v65.toInt > v66.toInt := en_i_gt_t c67
          refine At.enter rfl ?_
          refine r_iconst 0 rfl ?_
          refine Ar.fall 57 rfl ?_
          refine At.enter rfl ?_
          refine r_iretz (by decide) ?_
          exact ⟨_, rfl, hI59, hF63, _, rfl, by decide⟩
        · have c67_ : v65.toInt ≤ v66.toInt := en_i_gt_f c67
          refine At.enter rfl ?_
          refine r_iconst 1 rfl ?_
          refine r_goto ?_
          refine At.enter rfl ?_
          refine r_iretz (by decide) ?_
          exact ⟨_, rfl, hI59, hF63, _, rfl, by decide⟩

def F_X1_take_188 : List (Nat × Nat) := [(188, 18)]
def A_X1_take_188 : List Nat := [195, 198, 199, 200]
set_option maxRecDepth 100000 in
set_option maxHeartbeats 4000000 in
theorem T_X1_take_188 (d : Nat) {N : Nat} {g0 : List en_E} (hI0 : HI g0) (a1 : Int32) (a2 : Int32) (h_a2 : 0 ≤ a2.toInt ∧ a2.toInt ≤ 7) : Ev (d + 2) 27 [.ref 188, .int a1, .int a2] (g0, N) (fun w h' => ∃ g', h' = (g', N) ∧ HI g' ∧ Fr F_X1_take_188 A_X1_take_188 g0 g' ∧ w = none) := by
  have hF0 : Fr F_X1_take_188 A_X1_take_188 g0 g0 := Fr.rf
  refine Ev.mk rfl rfl ⟨Nat.le_of_ble_eq_true rfl, Or.inr (q_rc hI0.1 kx_188 rfl)⟩ ?_
  show At _ none _ _ (0, [(0, .ref 188), (1, .int a1), (2, .int a2)], [], (_, _)) _
  refine At.enter rfl ?_
  refine r_aload_n rfl ?_
  refine q_getR (Sh.ref hI0.1 kx_188 rfl) ?_
  refine r_iload_n rfl ?_
  refine q_inlV 8 rfl [.ref 1, .int a1] [] (Nat.le_of_ble_eq_true rfl) rfl ?_
  refine Ev.mk rfl rfl ⟨Nat.le_of_ble_eq_true rfl, Or.inr (q_rc hI0.1 kx_1 rfl)⟩ ?_
  show At _ none _ _ (0, [(0, .ref 1), (1, .int a1)], [], (_, _)) _
  refine At.enter rfl ?_
  refine r_iload_n rfl ?_
  refine r_ifs 4 rfl (fun c53 => ?_) (fun c53 => ?_)
  · have c53_ : a1.toInt < 0 := en_k_lt_t c53
    refine At.enter rfl ?_
    refine r_iconst 0 rfl ?_
    refine Ar.fall 17 rfl ?_
    refine At.enter rfl ?_
    refine q_iretz (by decide) ?_
    refine At.enter rfl ?_
    refine r_ift (by decide) ?_
    refine At.enter rfl ?_
    refine r_vret ?_
    exact ⟨_, rfl, hI0, hF0, rfl⟩
  · have c53_ : a1.toInt ≥ 0 := en_k_lt_f c53
    refine At.enter rfl ?_
    refine r_iload_n rfl ?_
    refine r_aload_n rfl ?_
    obtain ⟨v54, hv54⟩ : ∃ v, gI g0 1 0 = v := ⟨_, rfl⟩
    have rv54 := RgF.at hI0.2.1 (p := 1) (b := 0) rfl
    rw [hv54] at rv54
    dsimp only at rv54
    refine q_getI (Sh.int hI0.1 kx_1 rfl) v54 hv54 ?_
    have bv56 := q_bnd a1
    have bv57 := q_bnd v54
    refine r_ics 12 rfl (fun c55 => ?_) (fun c55 => ?_)
    · have c55_ : a1.toInt ≥ v54.toInt := en_i_ge_t c55
      refine At.enter rfl ?_
      refine r_iconst 0 rfl ?_
      refine Ar.fall 17 rfl ?_
      refine At.enter rfl ?_
      refine q_iretz (by decide) ?_
      refine At.enter rfl ?_
      refine r_ift (by decide) ?_
      refine At.enter rfl ?_
      refine r_vret ?_
      exact ⟨_, rfl, hI0, hF0, rfl⟩
    · have c55_ : a1.toInt < v54.toInt := en_i_ge_f c55
      refine At.enter rfl ?_
      refine r_iconst 1 rfl ?_
      refine r_goto ?_
      refine At.enter rfl ?_
      refine q_iretz (by decide) ?_
      refine At.enter rfl ?_
      refine r_iff 11 rfl (by decide) ?_
      refine At.enter rfl ?_
      refine r_aload_n rfl ?_
      refine q_getR (Sh.ref hI0.1 kx_188 rfl) ?_
      refine r_iload_n rfl ?_
      refine r_iload_n rfl ?_
      refine q_iast (Sh.arr hI0.1 ka_195) (a2.toInt) rfl (by omega) ?_
      have hI58 := HI.wA0 hI0 ka_195 (p := 195) rfl rfl (a2.toInt) (a1)
      have hF59 := Fr.wA (p := 195) (j := a2.toInt) (v := a1) hF0 rfl
      refine r_aload_n rfl ?_
      refine q_getR (Sh.ref hI58.1 kx_188 rfl) ?_
      refine r_iload_n rfl ?_
      refine r_iconst 0 rfl ?_
      refine q_iast (Sh.arr hI58.1 ka_198) (a2.toInt) rfl (by omega) ?_
      have hI60 := HI.wA0 hI58 ka_198 (p := 198) rfl rfl (a2.toInt) (0)
      have hF61 := Fr.wA (p := 198) (j := a2.toInt) (v := 0) hF59 rfl
      refine r_aload_n rfl ?_
      refine r_iconst 1 rfl ?_
      refine q_putI (Sh.int hI60.1 kx_188 rfl) rfl ?_
      have hI62 := HI.wI0 hI60 kx_188 rfl (p := 188) (b := 18) (v := 1) rfl
      have hF63 := Fr.wI (p := 188) (b := 18) (v := 1) hF61 rfl
      refine r_aload_n rfl ?_
      refine q_getR (Sh.ref hI62.1 kx_188 rfl) ?_
      refine r_iload_n rfl ?_
      refine r_dup2 ⟨rfl, rfl⟩ ?_
      obtain ⟨v64, hv64⟩ : ∃ v, eA g0 199 a1.toInt = v := ⟨_, rfl⟩
      refine q_iald (Sh.arr hI62.1 ka_199) a1.toInt rfl (by omega) v64 ((eA_c ((gA_sI).trans ((gA_sA_ne (by decide)).trans (gA_sA_ne (by decide))))).trans hv64) ?_
      refine r_iconst 1 rfl ?_
      refine q_iaddO (fun v65 _ => ?_)
      refine q_iast (Sh.arr hI62.1 ka_199) (a1.toInt) rfl (by omega) ?_
      have hI66 := HI.wA0 hI62 ka_199 (p := 199) rfl rfl (a1.toInt) (v65)
      have hF67 := Fr.wA (p := 199) (j := a1.toInt) (v := v65) hF63 rfl
      refine r_aload_n rfl ?_
      refine q_getR (Sh.ref hI66.1 kx_188 rfl) ?_
      refine r_iload_n rfl ?_
      refine r_dup2 ⟨rfl, rfl⟩ ?_
      obtain ⟨v68, hv68⟩ : ∃ v, eA g0 200 a1.toInt = v := ⟨_, rfl⟩
      refine q_iald (Sh.arr hI66.1 ka_200) a1.toInt rfl (by omega) v68 ((eA_c ((gA_sA_ne (by decide)).trans ((gA_sI).trans ((gA_sA_ne (by decide)).trans (gA_sA_ne (by decide)))))).trans hv68) ?_
      refine r_aload_n rfl ?_
      refine q_getR (Sh.ref hI66.1 kx_188 rfl) ?_
      refine r_iload_n rfl ?_
      refine r_iconst 0 rfl ?_
      refine r_callV 56 rfl [.ref 1, .int a2, .int 0] [.int v68, .int a1, .ref 200] (Nat.le_of_ble_eq_true rfl) rfl (T_X0_about_1 _ hI66 a2 0) ?_
      rintro _ _ ⟨g69, rfl, hI70, hF71, v72, rfl, hr73⟩
      refine At.sti ?_
      have hF74 := Fr.tr hF67 hF71 rfl rfl
      have zv75 : (0 : Int32).toInt = 0 := rfl
      refine At.enter rfl ?_
      refine q_iaddO (fun v76 _ => ?_)
      refine q_iast (Sh.arr hI70.1 ka_200) (a1.toInt) rfl (by omega) ?_
      have hI77 := HI.wA0 hI70 ka_200 (p := 200) rfl rfl (a1.toInt) (v76)
      have hF78 := Fr.wA (p := 200) (j := a1.toInt) (v := v76) hF74 rfl
      refine Ar.fall 58 rfl ?_
      refine At.enter rfl ?_
      refine r_vret ?_
      exact ⟨_, rfl, hI77, hF78, rfl⟩

def F_X1_giveUp_188 : List (Nat × Nat) := []
def A_X1_giveUp_188 : List Nat := [195, 199, 200]
set_option maxRecDepth 100000 in
set_option maxHeartbeats 4000000 in
theorem T_X1_giveUp_188 (d : Nat) {N : Nat} {g0 : List en_E} (hI0 : HI g0) (a1 : Int32) (a2 : Int32) (h_a2 : 0 ≤ a2.toInt ∧ a2.toInt ≤ 7) : Ev (d + 2) 28 [.ref 188, .int a1, .int a2] (g0, N) (fun w h' => ∃ g', h' = (g', N) ∧ HI g' ∧ Fr F_X1_giveUp_188 A_X1_giveUp_188 g0 g' ∧ w = none) := by
  have hF0 : Fr F_X1_giveUp_188 A_X1_giveUp_188 g0 g0 := Fr.rf
  refine Ev.mk rfl rfl ⟨Nat.le_of_ble_eq_true rfl, Or.inr (q_rc hI0.1 kx_188 rfl)⟩ ?_
  show At _ none _ _ (0, [(0, .ref 188), (1, .int a1), (2, .int a2)], [], (_, _)) _
  refine At.enter rfl ?_
  refine r_aload_n rfl ?_
  refine q_getR (Sh.ref hI0.1 kx_188 rfl) ?_
  refine r_iload_n rfl ?_
  refine q_inlV 8 rfl [.ref 1, .int a1] [] (Nat.le_of_ble_eq_true rfl) rfl ?_
  refine Ev.mk rfl rfl ⟨Nat.le_of_ble_eq_true rfl, Or.inr (q_rc hI0.1 kx_1 rfl)⟩ ?_
  show At _ none _ _ (0, [(0, .ref 1), (1, .int a1)], [], (_, _)) _
  refine At.enter rfl ?_
  refine r_iload_n rfl ?_
  refine r_ifs 4 rfl (fun c45 => ?_) (fun c45 => ?_)
  · have c45_ : a1.toInt < 0 := en_k_lt_t c45
    refine At.enter rfl ?_
    refine r_iconst 0 rfl ?_
    refine Ar.fall 17 rfl ?_
    refine At.enter rfl ?_
    refine q_iretz (by decide) ?_
    refine At.enter rfl ?_
    refine r_ift (by decide) ?_
    refine At.enter rfl ?_
    refine r_vret ?_
    exact ⟨_, rfl, hI0, hF0, rfl⟩
  · have c45_ : a1.toInt ≥ 0 := en_k_lt_f c45
    refine At.enter rfl ?_
    refine r_iload_n rfl ?_
    refine r_aload_n rfl ?_
    obtain ⟨v46, hv46⟩ : ∃ v, gI g0 1 0 = v := ⟨_, rfl⟩
    have rv46 := RgF.at hI0.2.1 (p := 1) (b := 0) rfl
    rw [hv46] at rv46
    dsimp only at rv46
    refine q_getI (Sh.int hI0.1 kx_1 rfl) v46 hv46 ?_
    have bv48 := q_bnd a1
    have bv49 := q_bnd v46
    refine r_ics 12 rfl (fun c47 => ?_) (fun c47 => ?_)
    · have c47_ : a1.toInt ≥ v46.toInt := en_i_ge_t c47
      refine At.enter rfl ?_
      refine r_iconst 0 rfl ?_
      refine Ar.fall 17 rfl ?_
      refine At.enter rfl ?_
      refine q_iretz (by decide) ?_
      refine At.enter rfl ?_
      refine r_ift (by decide) ?_
      refine At.enter rfl ?_
      refine r_vret ?_
      exact ⟨_, rfl, hI0, hF0, rfl⟩
    · have c47_ : a1.toInt < v46.toInt := en_i_ge_f c47
      refine At.enter rfl ?_
      refine r_iconst 1 rfl ?_
      refine r_goto ?_
      refine At.enter rfl ?_
      refine q_iretz (by decide) ?_
      refine At.enter rfl ?_
      refine r_iff 11 rfl (by decide) ?_
      refine At.enter rfl ?_
      refine r_aload_n rfl ?_
      refine q_getR (Sh.ref hI0.1 kx_188 rfl) ?_
      refine r_iload_n rfl ?_
      refine r_iconst (-1) rfl ?_
      refine q_iast (Sh.arr hI0.1 ka_195) (a2.toInt) rfl (by omega) ?_
      have hI50 := HI.wA0 hI0 ka_195 (p := 195) rfl rfl (a2.toInt) ((-1))
      have hF51 := Fr.wA (p := 195) (j := a2.toInt) (v := (-1)) hF0 rfl
      refine r_aload_n rfl ?_
      refine q_getR (Sh.ref hI50.1 kx_188 rfl) ?_
      refine r_iload_n rfl ?_
      refine r_dup2 ⟨rfl, rfl⟩ ?_
      obtain ⟨v52, hv52⟩ : ∃ v, eA g0 199 a1.toInt = v := ⟨_, rfl⟩
      refine q_iald (Sh.arr hI50.1 ka_199) a1.toInt rfl (by omega) v52 ((eA_c (gA_sA_ne (by decide))).trans hv52) ?_
      refine r_iconst 1 rfl ?_
      refine q_isubO (fun v53 _ => ?_)
      refine q_iast (Sh.arr hI50.1 ka_199) (a1.toInt) rfl (by omega) ?_
      have hI54 := HI.wA0 hI50 ka_199 (p := 199) rfl rfl (a1.toInt) (v53)
      have hF55 := Fr.wA (p := 199) (j := a1.toInt) (v := v53) hF51 rfl
      refine r_aload_n rfl ?_
      refine q_getR (Sh.ref hI54.1 kx_188 rfl) ?_
      refine r_iload_n rfl ?_
      refine r_dup2 ⟨rfl, rfl⟩ ?_
      obtain ⟨v56, hv56⟩ : ∃ v, eA g0 200 a1.toInt = v := ⟨_, rfl⟩
      refine q_iald (Sh.arr hI54.1 ka_200) a1.toInt rfl (by omega) v56 ((eA_c ((gA_sA_ne (by decide)).trans (gA_sA_ne (by decide)))).trans hv56) ?_
      refine r_aload_n rfl ?_
      refine q_getR (Sh.ref hI54.1 kx_188 rfl) ?_
      refine r_iload_n rfl ?_
      refine r_iconst 0 rfl ?_
      refine r_callV 44 rfl [.ref 1, .int a2, .int 0] [.int v56, .int a1, .ref 200] (Nat.le_of_ble_eq_true rfl) rfl (T_X0_about_1 _ hI54 a2 0) ?_
      rintro _ _ ⟨g57, rfl, hI58, hF59, v60, rfl, hr61⟩
      refine At.sti ?_
      have hF62 := Fr.tr hF55 hF59 rfl rfl
      have zv63 : (0 : Int32).toInt = 0 := rfl
      refine At.enter rfl ?_
      refine q_isubO (fun v64 _ => ?_)
      refine q_iast (Sh.arr hI58.1 ka_200) (a1.toInt) rfl (by omega) ?_
      have hI65 := HI.wA0 hI58 ka_200 (p := 200) rfl rfl (a1.toInt) (v64)
      have hF66 := Fr.wA (p := 200) (j := a1.toInt) (v := v64) hF62 rfl
      refine Ar.fall 46 rfl ?_
      refine At.enter rfl ?_
      refine r_vret ?_
      exact ⟨_, rfl, hI65, hF66, rfl⟩

def F_X1_admit_188 : List (Nat × Nat) := [(188, 18)]
def A_X1_admit_188 : List Nat := [195, 196, 198, 199, 200]
set_option maxRecDepth 100000 in
set_option maxHeartbeats 4000000 in
theorem T_X1_admit_188 (d : Nat) {N : Nat} {g0 : List en_E} (hI0 : HI g0) (a1 : Int32) (h_a1 : 0 ≤ a1.toInt ∧ a1.toInt ≤ 7) (a2 : Int32) : Ev (d + 3) 25 [.ref 188, .int a1, .int a2] (g0, N) (fun w h' => ∃ g', h' = (g', N) ∧ HI g' ∧ Fr F_X1_admit_188 A_X1_admit_188 g0 g' ∧ w = none) := by
  have hF0 : Fr F_X1_admit_188 A_X1_admit_188 g0 g0 := Fr.rf
  refine Ev.mk rfl rfl ⟨Nat.le_of_ble_eq_true rfl, Or.inr (q_rc hI0.1 kx_188 rfl)⟩ ?_
  show At _ none _ _ (0, [(0, .ref 188), (1, .int a1), (2, .int a2)], [], (_, _)) _
  refine At.enter rfl ?_
  refine r_aload_n rfl ?_
  refine q_getR (Sh.ref hI0.1 kx_188 rfl) ?_
  refine r_iload_n rfl ?_
  refine r_iconst 1 rfl ?_
  refine r_callV 9 rfl [.ref 1, .int a1, .int 1] [] (Nat.le_of_ble_eq_true rfl) rfl (T_X0_about_1 _ hI0 a1 1) ?_
  rintro _ _ ⟨g61, rfl, hI62, hF63, v64, rfl, hr65⟩
  refine At.sti ?_
  have hF66 := Fr.tr hF0 hF63 rfl rfl
  have zv67 : (1 : Int32).toInt = 1 := rfl
  refine At.enter rfl ?_
  refine r_istore_n ([(3, .int v64), (0, .ref 188), (1, .int a1), (2, .int a2)]) rfl ?_
  refine r_iload_n rfl ?_
  refine r_aload_n rfl ?_
  refine q_getR (Sh.ref hI62.1 kx_188 rfl) ?_
  refine r_iload_n rfl ?_
  refine r_iconst 2 rfl ?_
  refine r_callV 20 rfl [.ref 1, .int a1, .int 2] [.int v64] (Nat.le_of_ble_eq_true rfl) rfl (T_X0_about_1 _ hI62 a1 2) ?_
  rintro _ _ ⟨g68, rfl, hI69, hF70, v71, rfl, hr72⟩
  refine At.sti ?_
  have hF73 := Fr.tr hF66 hF70 rfl rfl
  have zv74 : (2 : Int32).toInt = 2 := rfl
  refine At.enter rfl ?_
  refine r_ics 23 rfl (fun c75 => ?_) (fun c75 => ?_)
  · have c75_ : v64.toInt ≠ v71.toInt := en_i_ne_t c75
    refine At.enter rfl ?_
    refine r_aload_n rfl ?_
    refine r_iload_n rfl ?_
    refine r_iload_n rfl ?_
    refine r_callV 39 rfl [.ref 188, .int v64, .int a1] [] (Nat.le_of_ble_eq_true rfl) rfl (T_X1_canHold_188 _ hI69 v64 a1) ?_
    rintro _ _ ⟨g76, rfl, hI77, hF78, v79, rfl, hr80⟩
    refine At.sti ?_
    have hF81 := Fr.tr hF73 hF78 rfl rfl
    refine At.enter rfl ?_
    refine r_ifs 42 rfl (fun c82 => ?_) (fun c82 => ?_)
    · have c82_ : v79.toInt = 0 := en_k_eq_t c82
      refine At.enter rfl ?_
      refine r_vret ?_
      exact ⟨_, rfl, hI77, hF81, rfl⟩
    · have c82_ : v79.toInt ≠ 0 := en_k_eq_f c82
      refine At.enter rfl ?_
      refine r_aload_n rfl ?_
      refine r_iload_n rfl ?_
      refine r_iload_n rfl ?_
      refine r_callV 48 rfl [.ref 188, .int v64, .int a1] [] (Nat.le_of_ble_eq_true rfl) rfl (T_X1_take_188 _ hI77 v64 a1 (by omega)) ?_
      rintro _ _ ⟨g83, rfl, hI84, hF85, rfl⟩
      refine At.stn ?_
      have hF88 := Fr.tr hF81 hF85 rfl rfl
      refine At.enter rfl ?_
      refine r_vret ?_
      exact ⟨_, rfl, hI84, hF88, rfl⟩
  · have c75_ : v64.toInt = v71.toInt := en_i_ne_f c75
    refine At.enter rfl ?_
    refine r_aload_n rfl ?_
    refine q_getR (Sh.ref hI69.1 kx_188 rfl) ?_
    refine r_iload_n rfl ?_
    refine r_iload_n rfl ?_
    refine q_iast (Sh.arr hI69.1 ka_196) (a1.toInt) rfl (by omega) ?_
    have hI89 := HI.wA0 hI69 ka_196 (p := 196) rfl rfl (a1.toInt) (a2)
    have hF90 := Fr.wA (p := 196) (j := a1.toInt) (v := a2) hF73 rfl
    refine r_goto ?_
    refine At.enter rfl ?_
    refine r_vret ?_
    exact ⟨_, rfl, hI89, hF90, rfl⟩

def F_X1_arrive_188 : List (Nat × Nat) := [(188, 18)]
def A_X1_arrive_188 : List Nat := [195, 196, 198, 199, 200]
set_option maxRecDepth 100000 in
set_option maxHeartbeats 4000000 in
theorem T_X1_arrive_188 (d : Nat) {N : Nat} {g0 : List en_E} (hI0 : HI g0) (a1 : Int32) : Ev (d + 4) 24 [.ref 188, .int a1] (g0, N) (fun w h' => ∃ g', h' = (g', N) ∧ HI g' ∧ Fr F_X1_arrive_188 A_X1_arrive_188 g0 g' ∧ w = none) := by
  have hF0 : Fr F_X1_arrive_188 A_X1_arrive_188 g0 g0 := Fr.rf
  refine Ev.mk rfl rfl ⟨Nat.le_of_ble_eq_true rfl, Or.inr (q_rc hI0.1 kx_188 rfl)⟩ ?_
  show At _ none _ _ (0, [(0, .ref 188), (1, .int a1)], [], (_, _)) _
  refine At.enter rfl ?_
  refine r_iconst 0 rfl ?_
  refine r_istore_n ([(2, .int 0), (0, .ref 188), (1, .int a1)]) rfl ?_
  refine Ar.fall 2 rfl ?_
  have z_2915 : (0 : Int32).toInt = 0 := rfl
  refine w_loopI (fun n_ l_ g_ => ∃ x2904 : Int32, n_ = 8 - x2904.toInt ∧ HI g_ ∧ Fr F_X1_arrive_188 A_X1_arrive_188 g0 g_ ∧ en_get 0 l_ = some (.ref 188) ∧ en_get 1 l_ = some (.int a1) ∧ en_get 2 l_ = some (.int x2904) ∧ (0 ≤ x2904.toInt ∧ x2904.toInt ≤ 8)) ?_ (8 - 0) ⟨0, by first | rfl | omega, hI0, hF0, rfl, rfl, rfl, by decide⟩
  rintro n2909 l2908 g2905 ⟨x2904, hm2916, hI2906, hF2907, e2911, e2912, e2913, r2914⟩ ih2910
  refine At.enter rfl ?_
  refine r_iload_n e2913 ?_
  refine r_aload_n e2911 ?_
  refine q_getR (Sh.ref hI2906.1 kx_188 rfl) ?_
  obtain ⟨v2917, hv2917⟩ : ∃ v, gI g0 1 4 = v := ⟨_, rfl⟩
  have rv2917 := RgF.at hI0.2.1 (p := 1) (b := 4) rfl
  rw [hv2917] at rv2917
  dsimp only at rv2917
  refine q_getI (Sh.int hI2906.1 kx_1 rfl) v2917 ((hF2907.1 1 4 (by decide)).trans hv2917) ?_
  have bv2919 := q_bnd x2904
  have bv2920 := q_bnd v2917
  refine r_ics 13 rfl (fun c2918 => ?_) (fun c2918 => ?_)
  · have c2918_ : x2904.toInt ≥ v2917.toInt := en_i_ge_t c2918
    refine At.enter rfl ?_
    refine r_iconst 0 rfl ?_
    refine r_istore_n _ rfl ?_
    refine Ar.fall 57 rfl ?_
    have z_3030 : (0 : Int32).toInt = 0 := rfl
    refine w_loopI (fun n_ l_ g_ => ∃ x3019 : Int32, n_ = 8 - x3019.toInt ∧ HI g_ ∧ Fr F_X1_arrive_188 A_X1_arrive_188 g0 g_ ∧ en_get 0 l_ = some (.ref 188) ∧ en_get 1 l_ = some (.int a1) ∧ en_get 2 l_ = some (.int x3019) ∧ (0 ≤ x3019.toInt ∧ x3019.toInt ≤ 8)) ?_ (8 - 0) ⟨0, by first | rfl | omega, hI2906, hF2907, (w_p1 (by decide) (Or.inr rfl) e2911), (w_p1 (by decide) (Or.inr rfl) e2912), (w_e1 _ _ _), by decide⟩
    rintro n3024 l3023 g3020 ⟨x3019, hm3031, hI3021, hF3022, e3026, e3027, e3028, r3029⟩ ih3025
    refine At.enter rfl ?_
    refine r_iload_n e3028 ?_
    refine r_aload_n e3026 ?_
    refine q_getR (Sh.ref hI3021.1 kx_188 rfl) ?_
    refine q_getI (Sh.int hI3021.1 kx_1 rfl) v2917 ((hF3022.1 1 4 (by decide)).trans hv2917) ?_
    have bv3033 := q_bnd x3019
    refine r_ics 68 rfl (fun c3032 => ?_) (fun c3032 => ?_)
    · have c3032_ : x3019.toInt ≥ v2917.toInt := en_i_ge_t c3032
      refine At.enter rfl ?_
      refine r_vret ?_
      exact ⟨_, rfl, hI3021, hF3022, rfl⟩
    · have c3032_ : x3019.toInt < v2917.toInt := en_i_ge_f c3032
      refine At.enter rfl ?_
      refine r_aload_n e3026 ?_
      refine q_getR (Sh.ref hI3021.1 kx_188 rfl) ?_
      refine r_iload_n e3028 ?_
      obtain ⟨v3034, hv3034⟩ : ∃ v, eA g0 191 x3019.toInt = v := ⟨_, rfl⟩
      refine q_iald (Sh.arr hI3021.1 ka_191) x3019.toInt rfl (by omega) v3034 ((eA_c (hF3022.2.1 191 (by decide))).trans hv3034) ?_
      refine r_iload_n e3027 ?_
      refine r_ics 78 rfl (fun c3035 => ?_) (fun c3035 => ?_)
      · have c3035_ : v3034.toInt ≠ a1.toInt := en_i_ne_t c3035
        refine At.enter rfl ?_
        refine q_iinc e3028 (x3019.toInt + 1) rfl (by omega) (fun v3036 hv3036 => ?_)
        refine r_goto ?_
        exact ih3025 (8 - v3036.toInt) _ _ ⟨v3036, by first | rfl | omega, hI3021, hF3022, (w_p1 (by decide) (Or.inr rfl) e3026), (w_p1 (by decide) (Or.inr rfl) e3027), (w_e1 _ _ _), by omega⟩ ⟨by omega, by omega⟩
      · have c3035_ : v3034.toInt = a1.toInt := en_i_ne_f c3035
        refine At.enter rfl ?_
        refine r_aload_n e3026 ?_
        refine r_iload_n e3028 ?_
        refine r_iload_n e3027 ?_
        refine r_callV 84 rfl [.ref 188, .int x3019, .int a1] [] (Nat.le_of_ble_eq_true rfl) rfl (T_X1_admit_188 _ hI3021 x3019 (by omega) a1) ?_
        rintro _ _ ⟨g3037, rfl, hI3038, hF3039, rfl⟩
        refine At.stn ?_
        have hF3042 := Fr.tr hF3022 hF3039 rfl rfl
        refine At.enter rfl ?_
        refine q_iinc e3028 (x3019.toInt + 1) rfl (by omega) (fun v3043 hv3043 => ?_)
        refine r_goto ?_
        exact ih3025 (8 - v3043.toInt) _ _ ⟨v3043, by first | rfl | omega, hI3038, hF3042, (w_p1 (by decide) (Or.inr rfl) e3026), (w_p1 (by decide) (Or.inr rfl) e3027), (w_e1 _ _ _), by omega⟩ ⟨by omega, by omega⟩
  · have c2918_ : x2904.toInt < v2917.toInt := en_i_ge_f c2918
    refine At.enter rfl ?_
    refine r_aload_n e2911 ?_
    refine q_getR (Sh.ref hI2906.1 kx_188 rfl) ?_
    refine r_iload_n e2913 ?_
    obtain ⟨v3044, hv3044⟩ : ∃ v, eA g0 191 x2904.toInt = v := ⟨_, rfl⟩
    refine q_iald (Sh.arr hI2906.1 ka_191) x2904.toInt rfl (by omega) v3044 ((eA_c (hF2907.2.1 191 (by decide))).trans hv3044) ?_
    refine r_iload_n e2912 ?_
    have bv3046 := q_bnd v3044
    have bv3047 := q_bnd a1
    refine r_ics 23 rfl (fun c3045 => ?_) (fun c3045 => ?_)
    · have c3045_ : v3044.toInt ≥ a1.toInt := en_i_ge_t c3045
      refine At.enter rfl ?_
      refine q_iinc e2913 (x2904.toInt + 1) rfl (by omega) (fun v3048 hv3048 => ?_)
      refine r_goto ?_
      exact ih2910 (8 - v3048.toInt) _ _ ⟨v3048, by first | rfl | omega, hI2906, hF2907, (w_p1 (by decide) (Or.inr rfl) e2911), (w_p1 (by decide) (Or.inr rfl) e2912), (w_e1 _ _ _), by omega⟩ ⟨by omega, by omega⟩
    · have c3045_ : v3044.toInt < a1.toInt := en_i_ge_f c3045
      refine At.enter rfl ?_
      refine r_aload_n e2911 ?_
      refine q_getR (Sh.ref hI2906.1 kx_188 rfl) ?_
      refine r_iload_n e2913 ?_
      obtain ⟨v3049, hv3049⟩ : ∃ v, eA g2905 195 x2904.toInt = v := ⟨_, rfl⟩
      refine q_iald (Sh.arr hI2906.1 ka_195) x2904.toInt rfl (by omega) v3049 hv3049 ?_
      refine r_iconst (-1) rfl ?_
      refine r_ics 33 rfl (fun c3050 => ?_) (fun c3050 => ?_)
      · have c3050_ : v3049.toInt ≠ (-1) := en_i_ne_t c3050
        refine At.enter rfl ?_
        refine q_iinc e2913 (x2904.toInt + 1) rfl (by omega) (fun v3051 hv3051 => ?_)
        refine r_goto ?_
        exact ih2910 (8 - v3051.toInt) _ _ ⟨v3051, by first | rfl | omega, hI2906, hF2907, (w_p1 (by decide) (Or.inr rfl) e2911), (w_p1 (by decide) (Or.inr rfl) e2912), (w_e1 _ _ _), by omega⟩ ⟨by omega, by omega⟩
      · have c3050_ : v3049.toInt = (-1) := en_i_ne_f c3050
        refine At.enter rfl ?_
        refine r_aload_n e2911 ?_
        refine q_getR (Sh.ref hI2906.1 kx_188 rfl) ?_
        refine r_iload_n e2913 ?_
        obtain ⟨v3052, hv3052⟩ : ∃ v, eA g2905 196 x2904.toInt = v := ⟨_, rfl⟩
        refine q_iald (Sh.arr hI2906.1 ka_196) x2904.toInt rfl (by omega) v3052 hv3052 ?_
        refine r_iconst (-1) rfl ?_
        refine r_ics 43 rfl (fun c3053 => ?_) (fun c3053 => ?_)
        · have c3053_ : v3052.toInt ≠ (-1) := en_i_ne_t c3053
          refine At.enter rfl ?_
          refine q_iinc e2913 (x2904.toInt + 1) rfl (by omega) (fun v3054 hv3054 => ?_)
          refine r_goto ?_
          exact ih2910 (8 - v3054.toInt) _ _ ⟨v3054, by first | rfl | omega, hI2906, hF2907, (w_p1 (by decide) (Or.inr rfl) e2911), (w_p1 (by decide) (Or.inr rfl) e2912), (w_e1 _ _ _), by omega⟩ ⟨by omega, by omega⟩
        · have c3053_ : v3052.toInt = (-1) := en_i_ne_f c3053
          refine At.enter rfl ?_
          refine r_aload_n e2911 ?_
          refine r_iload_n e2913 ?_
          refine r_iload_n e2912 ?_
          refine r_callV 49 rfl [.ref 188, .int x2904, .int a1] [] (Nat.le_of_ble_eq_true rfl) rfl (T_X1_admit_188 _ hI2906 x2904 (by omega) a1) ?_
          rintro _ _ ⟨g3055, rfl, hI3056, hF3057, rfl⟩
          refine At.stn ?_
          have hF3060 := Fr.tr hF2907 hF3057 rfl rfl
          refine At.enter rfl ?_
          refine q_iinc e2913 (x2904.toInt + 1) rfl (by omega) (fun v3061 hv3061 => ?_)
          refine r_goto ?_
          exact ih2910 (8 - v3061.toInt) _ _ ⟨v3061, by first | rfl | omega, hI3056, hF3060, (w_p1 (by decide) (Or.inr rfl) e2911), (w_p1 (by decide) (Or.inr rfl) e2912), (w_e1 _ _ _), by omega⟩ ⟨by omega, by omega⟩

def F_X1_lineUp_188 : List (Nat × Nat) := [(185, 3), (188, 16)]
def A_X1_lineUp_188 : List Nat := [202]
set_option maxRecDepth 100000 in
set_option maxHeartbeats 4000000 in
theorem T_X1_lineUp_188 (d : Nat) {N : Nat} {g0 : List en_E} (hI0 : HI g0) (a1 : Int32) : Ev (d + 4) 29 [.ref 188, .int a1] (g0, N) (fun w h' => ∃ g', h' = (g', N) ∧ HI g' ∧ Fr F_X1_lineUp_188 A_X1_lineUp_188 g0 g' ∧ w = none) := by
  have hF0 : Fr F_X1_lineUp_188 A_X1_lineUp_188 g0 g0 := Fr.rf
  refine Ev.mk rfl rfl ⟨Nat.le_of_ble_eq_true rfl, Or.inr (q_rc hI0.1 kx_188 rfl)⟩ ?_
  show At _ none _ _ (0, [(0, .ref 188), (1, .int a1)], [], (_, _)) _
  refine At.enter rfl ?_
  refine r_aload_n rfl ?_
  refine q_getR (Sh.ref hI0.1 kx_188 rfl) ?_
  refine q_inlV 7 rfl [.ref 1] [] (Nat.le_of_ble_eq_true rfl) rfl ?_
  refine Ev.mk rfl rfl ⟨Nat.le_of_ble_eq_true rfl, Or.inr (q_rc hI0.1 kx_1 rfl)⟩ ?_
  show At _ none _ _ (0, [(0, .ref 1)], [], (_, _)) _
  refine At.enter rfl ?_
  refine r_aload_n rfl ?_
  refine r_aload_n rfl ?_
  obtain ⟨v9851, hv9851⟩ : ∃ v, gI g0 1 9 = v := ⟨_, rfl⟩
  refine q_getI (Sh.int hI0.1 kx_1 rfl) v9851 hv9851 ?_
  refine r_callV 8 rfl [.ref 1, .int v9851] [] (Nat.le_of_ble_eq_true rfl) rfl (T_X0_lawAt_1 _ hI0 v9851) ?_
  rintro _ _ ⟨g9852, rfl, hI9853, hF9854, v9855, rfl, hr9856⟩
  refine At.str ?_
  have hF9857 := Fr.tr hF0 hF9854 rfl rfl
  refine At.enter rfl ?_
  refine q_aret ?_
  refine At.enter rfl ?_
  refine r_iconst 0 rfl ?_
  refine r_callV 11 rfl [.ref (v9855), .int 0] [] (Nat.le_of_ble_eq_true rfl) rfl (T_X4_speaksOf_law _ hI9853 (v9855) hr9856 0) ?_
  rintro _ _ ⟨g9858, rfl, hI9859, hF9860, v9861, rfl, hr9862⟩
  refine At.sti ?_
  have hF9863 := Fr.tr hF9857 hF9860 rfl rfl
  refine At.enter rfl ?_
  refine r_istore_n ([(2, .int v9861), (0, .ref 188), (1, .int a1)]) rfl ?_
  refine r_aload_n rfl ?_
  refine r_iconst 0 rfl ?_
  refine q_putI (Sh.int hI9859.1 kx_188 rfl) rfl ?_
  have hI9864 := HI.wI1 hI9859 kx_188 rfl (p := 188) (b := 16) (v := 0) rfl (by decide)
  have hF9865 := Fr.wI (p := 188) (b := 16) (v := 0) hF9863 rfl
  refine r_iconst 0 rfl ?_
  refine r_istore_n ([(3, .int 0), (2, .int v9861), (0, .ref 188), (1, .int a1)]) rfl ?_
  refine Ar.fall 19 rfl ?_
  have z_14571 : (0 : Int32).toInt = 0 := rfl
  have z_14572 : (0 : Int32).toInt = 0 := rfl
  refine w_loopI (fun n_ l_ g_ => ∃ x14555 : Int32, ∃ x14556 : Int32, n_ = 8 - x14555.toInt ∧ HI g_ ∧ Fr F_X1_lineUp_188 A_X1_lineUp_188 g0 g_ ∧ gI g_ 188 16 = x14556 ∧ en_get 0 l_ = some (.ref 188) ∧ en_get 1 l_ = some (.int a1) ∧ en_get 2 l_ = some (.int v9861) ∧ en_get 3 l_ = some (.int x14555) ∧ (0 ≤ x14555.toInt ∧ x14555.toInt ≤ 8) ∧ (0 ≤ x14556.toInt ∧ x14556.toInt ≤ 8) ∧ (x14556.toInt ≤ x14555.toInt)) ?_ (8 - 0) ⟨0, 0, by first | rfl | omega, hI9864, hF9865, (gI_sI_eq hI9859.1 kx_188 rfl _), rfl, rfl, rfl, rfl, by decide, by decide, by omega⟩
  rintro n14561 l14560 g14557 ⟨x14555, x14556, hm14573, hI14558, hF14559, e14563, e14564, e14565, e14566, e14567, r14568, r14569, q14570⟩ ih14562
  refine At.enter rfl ?_
  refine r_iload_n e14567 ?_
  refine r_aload_n e14564 ?_
  refine q_getR (Sh.ref hI14558.1 kx_188 rfl) ?_
  obtain ⟨v14574, hv14574⟩ : ∃ v, gI g0 1 4 = v := ⟨_, rfl⟩
  have rv14574 := RgF.at hI0.2.1 (p := 1) (b := 4) rfl
  rw [hv14574] at rv14574
  dsimp only at rv14574
  refine q_getI (Sh.int hI14558.1 kx_1 rfl) v14574 ((hF14559.1 1 4 (by decide)).trans hv14574) ?_
  have bv14576 := q_bnd x14555
  have bv14577 := q_bnd v14574
  refine r_ics 30 rfl (fun c14575 => ?_) (fun c14575 => ?_)
  · have c14575_ : x14555.toInt ≥ v14574.toInt := en_i_ge_t c14575
    refine At.enter rfl ?_
    refine r_vret ?_
    exact ⟨_, rfl, hI14558, hF14559, rfl⟩
  · have c14575_ : x14555.toInt < v14574.toInt := en_i_ge_f c14575
    refine At.enter rfl ?_
    refine r_aload_n e14564 ?_
    refine q_getR (Sh.ref hI14558.1 kx_188 rfl) ?_
    refine r_iload_n e14567 ?_
    obtain ⟨v14578, hv14578⟩ : ∃ v, eA g0 195 x14555.toInt = v := ⟨_, rfl⟩
    refine q_iald (Sh.arr hI14558.1 ka_195) x14555.toInt rfl (by omega) v14578 ((eA_c (hF14559.2.1 195 (by decide))).trans hv14578) ?_
    refine r_istore _ rfl ?_
    refine r_aload_n (w_p1 (by decide) (Or.inr rfl) e14564) ?_
    refine q_getR (Sh.ref hI14558.1 kx_188 rfl) ?_
    refine r_iload (w_e1 _ _ _) ?_
    refine q_inlV 47 rfl [.ref 1, .int v14578] [] (Nat.le_of_ble_eq_true rfl) rfl ?_
    refine Ev.mk rfl rfl ⟨Nat.le_of_ble_eq_true rfl, Or.inr (q_rc hI14558.1 kx_1 rfl)⟩ ?_
    show At _ none _ _ (0, [(0, .ref 1), (1, .int v14578)], [], (_, _)) _
    refine At.enter rfl ?_
    refine r_iload_n rfl ?_
    refine r_ifs 4 rfl (fun c14579 => ?_) (fun c14579 => ?_)
    · have c14579_ : v14578.toInt < 0 := en_k_lt_t c14579
      refine At.enter rfl ?_
      refine r_iconst 0 rfl ?_
      refine Ar.fall 17 rfl ?_
      refine At.enter rfl ?_
      refine q_iretz (by decide) ?_
      refine At.enter rfl ?_
      refine r_iff 50 rfl (by decide) ?_
      refine At.enter rfl ?_
      refine r_goto ?_
      refine At.enter rfl ?_
      refine q_iinc (w_p1 (by decide) (Or.inr rfl) e14567) (x14555.toInt + 1) rfl (by omega) (fun v14580 hv14580 => ?_)
      refine r_goto ?_
      exact ih14562 (8 - v14580.toInt) _ _ ⟨v14580, x14556, by first | rfl | omega, hI14558, hF14559, e14563, (w_p1 (by decide) (Or.inr rfl) (w_p1 (by decide) (Or.inr rfl) e14564)), (w_p1 (by decide) (Or.inr rfl) (w_p1 (by decide) (Or.inr rfl) e14565)), (w_p1 (by decide) (Or.inr rfl) (w_p1 (by decide) (Or.inr rfl) e14566)), (w_e1 _ _ _), by omega, by omega, by omega⟩ ⟨by omega, by omega⟩
    · have c14579_ : v14578.toInt ≥ 0 := en_k_lt_f c14579
      refine At.enter rfl ?_
      refine r_iload_n rfl ?_
      refine r_aload_n rfl ?_
      obtain ⟨v14581, hv14581⟩ : ∃ v, gI g0 1 0 = v := ⟨_, rfl⟩
      have rv14581 := RgF.at hI0.2.1 (p := 1) (b := 0) rfl
      rw [hv14581] at rv14581
      dsimp only at rv14581
      refine q_getI (Sh.int hI14558.1 kx_1 rfl) v14581 ((hF14559.1 1 0 (by decide)).trans hv14581) ?_
      have bv14583 := q_bnd v14578
      have bv14584 := q_bnd v14581
      refine r_ics 12 rfl (fun c14582 => ?_) (fun c14582 => ?_)
      · have c14582_ : v14578.toInt ≥ v14581.toInt := en_i_ge_t c14582
        refine At.enter rfl ?_
        refine r_iconst 0 rfl ?_
        refine Ar.fall 17 rfl ?_
        refine At.enter rfl ?_
        refine q_iretz (by decide) ?_
        refine At.enter rfl ?_
        refine r_iff 50 rfl (by decide) ?_
        refine At.enter rfl ?_
        refine r_goto ?_
        refine At.enter rfl ?_
        refine q_iinc (w_p1 (by decide) (Or.inr rfl) e14567) (x14555.toInt + 1) rfl (by omega) (fun v14585 hv14585 => ?_)
        refine r_goto ?_
        exact ih14562 (8 - v14585.toInt) _ _ ⟨v14585, x14556, by first | rfl | omega, hI14558, hF14559, e14563, (w_p1 (by decide) (Or.inr rfl) (w_p1 (by decide) (Or.inr rfl) e14564)), (w_p1 (by decide) (Or.inr rfl) (w_p1 (by decide) (Or.inr rfl) e14565)), (w_p1 (by decide) (Or.inr rfl) (w_p1 (by decide) (Or.inr rfl) e14566)), (w_e1 _ _ _), by omega, by omega, by omega⟩ ⟨by omega, by omega⟩
      · have c14582_ : v14578.toInt < v14581.toInt := en_i_ge_f c14582
        refine At.enter rfl ?_
        refine r_iconst 1 rfl ?_
        refine r_goto ?_
        refine At.enter rfl ?_
        refine q_iretz (by decide) ?_
        refine At.enter rfl ?_
        refine r_ift (by decide) ?_
        refine At.enter rfl ?_
        refine r_aload_n (w_p1 (by decide) (Or.inr rfl) e14564) ?_
        refine q_getR (Sh.ref hI14558.1 kx_188 rfl) ?_
        refine r_iload_n (w_p1 (by decide) (Or.inr rfl) e14567) ?_
        refine r_iload_n (w_p1 (by decide) (Or.inr rfl) e14566) ?_
        refine r_ifs 62 rfl (fun c14586 => ?_) (fun c14586 => ?_)
        · have c14586_ : v9861.toInt = 0 := en_k_eq_t c14586
          refine At.enter rfl ?_
          refine r_lconst 0 rfl ?_
          refine Ar.fall 98 rfl ?_
          refine At.enter rfl ?_
          refine q_last (Sh.lar hI14558.1 ka_201) (x14555.toInt) rfl (by omega) ?_
          have hI14587 := HI.wK hI14558 ka_201 (x14555.toInt) (0)
          have hF14588 := Fr.wK (p := 201) (j := x14555.toInt) (v := 0) hF14559
          refine r_aload_n (w_p1 (by decide) (Or.inr rfl) e14564) ?_
          refine q_getI (Sh.int hI14587.1 kx_188 rfl) x14556 ((gI_sX).trans e14563) ?_
          refine r_istore _ rfl ?_
          refine Ar.fall 105 rfl ?_
          refine w_loopI (fun n_ l_ g_ => ∃ x14637 : Int32, n_ = x14637.toInt - 0 ∧ HI g_ ∧ Fr F_X1_lineUp_188 A_X1_lineUp_188 g0 g_ ∧ gI g_ 188 16 = x14556 ∧ en_get 0 l_ = some (.ref 188) ∧ en_get 1 l_ = some (.int a1) ∧ en_get 2 l_ = some (.int v9861) ∧ en_get 3 l_ = some (.int x14555) ∧ en_get 4 l_ = some (.int v14578) ∧ en_get 5 l_ = some (.int x14637) ∧ (0 ≤ x14637.toInt ∧ x14637.toInt ≤ 8) ∧ (x14637.toInt ≤ x14556.toInt)) ?_ (x14556.toInt - 0) ⟨x14556, by first | rfl | omega, hI14587, hF14588, ((gI_sX).trans e14563), (w_p1 (by decide) (Or.inr rfl) (w_p1 (by decide) (Or.inr rfl) e14564)), (w_p1 (by decide) (Or.inr rfl) (w_p1 (by decide) (Or.inr rfl) e14565)), (w_p1 (by decide) (Or.inr rfl) (w_p1 (by decide) (Or.inr rfl) e14566)), (w_p1 (by decide) (Or.inr rfl) (w_p1 (by decide) (Or.inr rfl) e14567)), (w_p1 (by decide) (Or.inr rfl) (w_e1 _ _ _)), (w_e1 _ _ _), by omega, by omega⟩
          rintro n14642 l14641 g14638 ⟨x14637, hm14653, hI14639, hF14640, e14644, e14645, e14646, e14647, e14648, e14649, e14650, r14651, q14652⟩ ih14643
          have tv14654 := congrArg Int32.toInt e14644
          refine At.enter rfl ?_
          refine r_iload e14650 ?_
          refine r_ifs 110 rfl (fun c14655 => ?_) (fun c14655 => ?_)
          · have c14655_ : x14637.toInt ≤ 0 := en_k_le_t c14655
            refine At.enter rfl ?_
            refine r_aload_n e14645 ?_
            refine q_getR (Sh.ref hI14639.1 kx_188 rfl) ?_
            refine r_iload e14650 ?_
            refine r_iload_n e14648 ?_
            refine q_iast (Sh.arr hI14639.1 ka_202) (x14637.toInt) rfl (by omega) ?_
            have hI14656 := HI.wA1 hI14639 ka_202 (p := 202) rfl rfl (x14637.toInt) (v := x14555) (by dsimp only; omega)
            have hF14657 := Fr.wA (p := 202) (j := x14637.toInt) (v := x14555) hF14640 rfl
            refine r_aload_n e14645 ?_
            refine r_dup rfl ?_
            refine q_getI (Sh.int hI14656.1 kx_188 rfl) x14556 ((gI_sW).trans e14644) ?_
            refine r_iconst 1 rfl ?_
            refine q_iadd (x14556.toInt + 1) rfl (by omega) (fun v14658 hv14658 => ?_)
            refine q_putI (Sh.int hI14656.1 kx_188 rfl) rfl ?_
            have hI14659 := HI.wI1 hI14656 kx_188 rfl (p := 188) (b := 16) (v := v14658) rfl (by dsimp only; omega)
            have hF14660 := Fr.wI (p := 188) (b := 16) (v := v14658) hF14657 rfl
            refine Ar.fall 174 rfl ?_
            refine At.enter rfl ?_
            refine q_iinc e14648 (x14555.toInt + 1) rfl (by omega) (fun v14661 hv14661 => ?_)
            refine r_goto ?_
            exact ih14562 (8 - v14661.toInt) _ _ ⟨v14661, v14658, by first | rfl | omega, hI14659, hF14660, (gI_sI_eq hI14656.1 kx_188 rfl _), (w_p1 (by decide) (Or.inr rfl) e14645), (w_p1 (by decide) (Or.inr rfl) e14646), (w_p1 (by decide) (Or.inr rfl) e14647), (w_e1 _ _ _), by omega, by omega, by omega⟩ ⟨by omega, by omega⟩
          · have c14655_ : x14637.toInt > 0 := en_k_le_f c14655
            refine At.enter rfl ?_
            refine r_aload_n e14645 ?_
            refine q_getR (Sh.ref hI14639.1 kx_188 rfl) ?_
            refine r_aload_n e14645 ?_
            refine q_getR (Sh.ref hI14639.1 kx_188 rfl) ?_
            refine r_iload e14650 ?_
            refine r_iconst 1 rfl ?_
            refine q_isub (x14637.toInt - 1) rfl (by omega) (fun v14662 hv14662 => ?_)
            obtain ⟨v14663, hv14663⟩ : ∃ v, eA g14638 202 (x14637.toInt + (-1)) = v := ⟨_, rfl⟩
            have rv14663 := RgA.at hI14639.2.2.1 (Sh.arr hI14639.1 ka_202).2 (p := 202) rfl (j := (x14637.toInt + (-1))) (by omega)
            rw [hv14663] at rv14663
            dsimp only at rv14663
            refine q_iald (Sh.arr hI14639.1 ka_202) (x14637.toInt + (-1)) (by omega) (by omega) v14663 hv14663 ?_
            refine q_lald (Sh.lar hI14639.1 ka_201) (v14663.toInt) rfl (by omega) (fun v14664 => ?_)
            refine r_aload_n e14645 ?_
            refine q_getR (Sh.ref hI14639.1 kx_188 rfl) ?_
            refine r_iload_n e14648 ?_
            refine q_lald (Sh.lar hI14639.1 ka_201) (x14555.toInt) rfl (by omega) (fun v14665 => ?_)
            refine r_lcmp _ rfl ?_
            refine r_ifs 134 rfl (fun c14666 => ?_) (fun c14666 => ?_)
            · have c14666_ : v14664.toInt ≥ v14665.toInt := en_j_ge_t c14666
              refine At.enter rfl ?_
              refine r_aload_n e14645 ?_
              refine q_getR (Sh.ref hI14639.1 kx_188 rfl) ?_
              refine r_iload e14650 ?_
              refine r_iload_n e14648 ?_
              refine q_iast (Sh.arr hI14639.1 ka_202) (x14637.toInt) rfl (by omega) ?_
              have hI14667 := HI.wA1 hI14639 ka_202 (p := 202) rfl rfl (x14637.toInt) (v := x14555) (by dsimp only; omega)
              have hF14668 := Fr.wA (p := 202) (j := x14637.toInt) (v := x14555) hF14640 rfl
              refine r_aload_n e14645 ?_
              refine r_dup rfl ?_
              refine q_getI (Sh.int hI14667.1 kx_188 rfl) x14556 ((gI_sW).trans e14644) ?_
              refine r_iconst 1 rfl ?_
              refine q_iadd (x14556.toInt + 1) rfl (by omega) (fun v14669 hv14669 => ?_)
              refine q_putI (Sh.int hI14667.1 kx_188 rfl) rfl ?_
              have hI14670 := HI.wI1 hI14667 kx_188 rfl (p := 188) (b := 16) (v := v14669) rfl (by dsimp only; omega)
              have hF14671 := Fr.wI (p := 188) (b := 16) (v := v14669) hF14668 rfl
              refine Ar.fall 174 rfl ?_
              refine At.enter rfl ?_
              refine q_iinc e14648 (x14555.toInt + 1) rfl (by omega) (fun v14672 hv14672 => ?_)
              refine r_goto ?_
              exact ih14562 (8 - v14672.toInt) _ _ ⟨v14672, v14669, by first | rfl | omega, hI14670, hF14671, (gI_sI_eq hI14667.1 kx_188 rfl _), (w_p1 (by decide) (Or.inr rfl) e14645), (w_p1 (by decide) (Or.inr rfl) e14646), (w_p1 (by decide) (Or.inr rfl) e14647), (w_e1 _ _ _), by omega, by omega, by omega⟩ ⟨by omega, by omega⟩
            · have c14666_ : v14664.toInt < v14665.toInt := en_j_ge_f c14666
              refine At.enter rfl ?_
              refine r_aload_n e14645 ?_
              refine q_getR (Sh.ref hI14639.1 kx_188 rfl) ?_
              refine r_iload e14650 ?_
              refine r_aload_n e14645 ?_
              refine q_getR (Sh.ref hI14639.1 kx_188 rfl) ?_
              refine r_iload e14650 ?_
              refine r_iconst 1 rfl ?_
              refine q_isub (x14637.toInt - 1) rfl (by omega) (fun v14673 hv14673 => ?_)
              refine q_iald (Sh.arr hI14639.1 ka_202) (x14637.toInt + (-1)) (by omega) (by omega) v14663 hv14663 ?_
              refine q_iast (Sh.arr hI14639.1 ka_202) (x14637.toInt) rfl (by omega) ?_
              have hI14674 := HI.wA1 hI14639 ka_202 (p := 202) rfl rfl (x14637.toInt) (v := v14663) (by dsimp only; omega)
              have hF14675 := Fr.wA (p := 202) (j := x14637.toInt) (v := v14663) hF14640 rfl
              refine q_iinc e14650 (x14637.toInt + (-1)) rfl (by omega) (fun v14676 hv14676 => ?_)
              refine r_goto ?_
              exact ih14643 (v14676.toInt - 0) _ _ ⟨v14676, by first | rfl | omega, hI14674, hF14675, ((gI_sW).trans e14644), (w_p1 (by decide) (Or.inr rfl) e14645), (w_p1 (by decide) (Or.inr rfl) e14646), (w_p1 (by decide) (Or.inr rfl) e14647), (w_p1 (by decide) (Or.inr rfl) e14648), (w_p1 (by decide) (Or.inr rfl) e14649), (w_e1 _ _ _), by omega, by omega⟩ ⟨by omega, by omega⟩
        · have c14586_ : v9861.toInt ≠ 0 := en_k_eq_f c14586
          refine At.enter rfl ?_
          refine r_aload_n (w_p1 (by decide) (Or.inr rfl) e14564) ?_
          refine q_getR (Sh.ref hI14558.1 kx_188 rfl) ?_
          refine r_iconst 0 rfl ?_
          refine r_iload_n (w_p1 (by decide) (Or.inr rfl) e14567) ?_
          refine r_iload (w_e1 _ _ _) ?_
          refine r_iload_n (w_p1 (by decide) (Or.inr rfl) e14565) ?_
          refine r_aload_n (w_p1 (by decide) (Or.inr rfl) e14564) ?_
          refine q_getR (Sh.ref hI14558.1 kx_188 rfl) ?_
          refine r_iload_n (w_p1 (by decide) (Or.inr rfl) e14567) ?_
          obtain ⟨v14677, hv14677⟩ : ∃ v, eA g0 198 x14555.toInt = v := ⟨_, rfl⟩
          refine q_iald (Sh.arr hI14558.1 ka_198) x14555.toInt rfl (by omega) v14677 ((eA_c (hF14559.2.1 198 (by decide))).trans hv14677) ?_
          refine r_aload_n (w_p1 (by decide) (Or.inr rfl) e14564) ?_
          refine q_getR (Sh.ref hI14558.1 kx_188 rfl) ?_
          refine r_iload (w_e1 _ _ _) ?_
          obtain ⟨v14678, hv14678⟩ : ∃ v, eA g0 189 v14578.toInt = v := ⟨_, rfl⟩
          refine q_iald (Sh.arr hI14558.1 ka_189) v14578.toInt rfl (by omega) v14678 ((eA_c (hF14559.2.1 189 (by decide))).trans hv14678) ?_
          refine r_aload_n (w_p1 (by decide) (Or.inr rfl) e14564) ?_
          refine q_getR (Sh.ref hI14558.1 kx_188 rfl) ?_
          refine r_iload (w_e1 _ _ _) ?_
          obtain ⟨v14679, hv14679⟩ : ∃ v, eA g0 190 v14578.toInt = v := ⟨_, rfl⟩
          refine q_iald (Sh.arr hI14558.1 ka_190) v14578.toInt rfl (by omega) v14679 ((eA_c (hF14559.2.1 190 (by decide))).trans hv14679) ?_
          refine r_callV 94 rfl [.ref 185, .int 0, .int x14555, .int v14578, .int a1, .int v14677, .int v14678, .int v14679] [.int x14555, .ref 201] (Nat.le_of_ble_eq_true rfl) rfl (T_X3_tells_185 _ hI14558 0 x14555 v14578 a1 v14677 v14678 v14679) ?_
          rintro _ _ ⟨g14680, rfl, hI14681, hF14682, v14683, rfl, hr14684⟩
          refine At.stl ?_
          have hF14685 := Fr.tr hF14559 hF14682 rfl rfl
          refine At.enter rfl ?_
          refine r_goto ?_
          refine At.enter rfl ?_
          refine q_last (Sh.lar hI14681.1 ka_201) (x14555.toInt) rfl (by omega) ?_
          have hI14686 := HI.wK hI14681 ka_201 (x14555.toInt) (v14683)
          have hF14687 := Fr.wK (p := 201) (j := x14555.toInt) (v := v14683) hF14685
          refine r_aload_n (w_p1 (by decide) (Or.inr rfl) e14564) ?_
          refine q_getI (Sh.int hI14686.1 kx_188 rfl) x14556 (((gI_sX).trans (hF14682.1 188 16 (by decide))).trans e14563) ?_
          refine r_istore _ rfl ?_
          refine Ar.fall 105 rfl ?_
          refine w_loopI (fun n_ l_ g_ => ∃ x14736 : Int32, n_ = x14736.toInt - 0 ∧ HI g_ ∧ Fr F_X1_lineUp_188 A_X1_lineUp_188 g0 g_ ∧ gI g_ 188 16 = x14556 ∧ en_get 0 l_ = some (.ref 188) ∧ en_get 1 l_ = some (.int a1) ∧ en_get 2 l_ = some (.int v9861) ∧ en_get 3 l_ = some (.int x14555) ∧ en_get 4 l_ = some (.int v14578) ∧ en_get 5 l_ = some (.int x14736) ∧ (0 ≤ x14736.toInt ∧ x14736.toInt ≤ 8) ∧ (x14736.toInt ≤ x14556.toInt)) ?_ (x14556.toInt - 0) ⟨x14556, by first | rfl | omega, hI14686, hF14687, (((gI_sX).trans (hF14682.1 188 16 (by decide))).trans e14563), (w_p1 (by decide) (Or.inr rfl) (w_p1 (by decide) (Or.inr rfl) e14564)), (w_p1 (by decide) (Or.inr rfl) (w_p1 (by decide) (Or.inr rfl) e14565)), (w_p1 (by decide) (Or.inr rfl) (w_p1 (by decide) (Or.inr rfl) e14566)), (w_p1 (by decide) (Or.inr rfl) (w_p1 (by decide) (Or.inr rfl) e14567)), (w_p1 (by decide) (Or.inr rfl) (w_e1 _ _ _)), (w_e1 _ _ _), by omega, by omega⟩
          rintro n14741 l14740 g14737 ⟨x14736, hm14752, hI14738, hF14739, e14743, e14744, e14745, e14746, e14747, e14748, e14749, r14750, q14751⟩ ih14742
          have tv14753 := congrArg Int32.toInt e14743
          refine At.enter rfl ?_
          refine r_iload e14749 ?_
          refine r_ifs 110 rfl (fun c14754 => ?_) (fun c14754 => ?_)
          · have c14754_ : x14736.toInt ≤ 0 := en_k_le_t c14754
            refine At.enter rfl ?_
            refine r_aload_n e14744 ?_
            refine q_getR (Sh.ref hI14738.1 kx_188 rfl) ?_
            refine r_iload e14749 ?_
            refine r_iload_n e14747 ?_
            refine q_iast (Sh.arr hI14738.1 ka_202) (x14736.toInt) rfl (by omega) ?_
            have hI14755 := HI.wA1 hI14738 ka_202 (p := 202) rfl rfl (x14736.toInt) (v := x14555) (by dsimp only; omega)
            have hF14756 := Fr.wA (p := 202) (j := x14736.toInt) (v := x14555) hF14739 rfl
            refine r_aload_n e14744 ?_
            refine r_dup rfl ?_
            refine q_getI (Sh.int hI14755.1 kx_188 rfl) x14556 ((gI_sW).trans e14743) ?_
            refine r_iconst 1 rfl ?_
            refine q_iadd (x14556.toInt + 1) rfl (by omega) (fun v14757 hv14757 => ?_)
            refine q_putI (Sh.int hI14755.1 kx_188 rfl) rfl ?_
            have hI14758 := HI.wI1 hI14755 kx_188 rfl (p := 188) (b := 16) (v := v14757) rfl (by dsimp only; omega)
            have hF14759 := Fr.wI (p := 188) (b := 16) (v := v14757) hF14756 rfl
            refine Ar.fall 174 rfl ?_
            refine At.enter rfl ?_
            refine q_iinc e14747 (x14555.toInt + 1) rfl (by omega) (fun v14760 hv14760 => ?_)
            refine r_goto ?_
            exact ih14562 (8 - v14760.toInt) _ _ ⟨v14760, v14757, by first | rfl | omega, hI14758, hF14759, (gI_sI_eq hI14755.1 kx_188 rfl _), (w_p1 (by decide) (Or.inr rfl) e14744), (w_p1 (by decide) (Or.inr rfl) e14745), (w_p1 (by decide) (Or.inr rfl) e14746), (w_e1 _ _ _), by omega, by omega, by omega⟩ ⟨by omega, by omega⟩
          · have c14754_ : x14736.toInt > 0 := en_k_le_f c14754
            refine At.enter rfl ?_
            refine r_aload_n e14744 ?_
            refine q_getR (Sh.ref hI14738.1 kx_188 rfl) ?_
            refine r_aload_n e14744 ?_
            refine q_getR (Sh.ref hI14738.1 kx_188 rfl) ?_
            refine r_iload e14749 ?_
            refine r_iconst 1 rfl ?_
            refine q_isub (x14736.toInt - 1) rfl (by omega) (fun v14761 hv14761 => ?_)
            obtain ⟨v14762, hv14762⟩ : ∃ v, eA g14737 202 (x14736.toInt + (-1)) = v := ⟨_, rfl⟩
            have rv14762 := RgA.at hI14738.2.2.1 (Sh.arr hI14738.1 ka_202).2 (p := 202) rfl (j := (x14736.toInt + (-1))) (by omega)
            rw [hv14762] at rv14762
            dsimp only at rv14762
            refine q_iald (Sh.arr hI14738.1 ka_202) (x14736.toInt + (-1)) (by omega) (by omega) v14762 hv14762 ?_
            refine q_lald (Sh.lar hI14738.1 ka_201) (v14762.toInt) rfl (by omega) (fun v14763 => ?_)
            refine r_aload_n e14744 ?_
            refine q_getR (Sh.ref hI14738.1 kx_188 rfl) ?_
            refine r_iload_n e14747 ?_
            refine q_lald (Sh.lar hI14738.1 ka_201) (x14555.toInt) rfl (by omega) (fun v14764 => ?_)
            refine r_lcmp _ rfl ?_
            refine r_ifs 134 rfl (fun c14765 => ?_) (fun c14765 => ?_)
            · have c14765_ : v14763.toInt ≥ v14764.toInt := en_j_ge_t c14765
              refine At.enter rfl ?_
              refine r_aload_n e14744 ?_
              refine q_getR (Sh.ref hI14738.1 kx_188 rfl) ?_
              refine r_iload e14749 ?_
              refine r_iload_n e14747 ?_
              refine q_iast (Sh.arr hI14738.1 ka_202) (x14736.toInt) rfl (by omega) ?_
              have hI14766 := HI.wA1 hI14738 ka_202 (p := 202) rfl rfl (x14736.toInt) (v := x14555) (by dsimp only; omega)
              have hF14767 := Fr.wA (p := 202) (j := x14736.toInt) (v := x14555) hF14739 rfl
              refine r_aload_n e14744 ?_
              refine r_dup rfl ?_
              refine q_getI (Sh.int hI14766.1 kx_188 rfl) x14556 ((gI_sW).trans e14743) ?_
              refine r_iconst 1 rfl ?_
              refine q_iadd (x14556.toInt + 1) rfl (by omega) (fun v14768 hv14768 => ?_)
              refine q_putI (Sh.int hI14766.1 kx_188 rfl) rfl ?_
              have hI14769 := HI.wI1 hI14766 kx_188 rfl (p := 188) (b := 16) (v := v14768) rfl (by dsimp only; omega)
              have hF14770 := Fr.wI (p := 188) (b := 16) (v := v14768) hF14767 rfl
              refine Ar.fall 174 rfl ?_
              refine At.enter rfl ?_
              refine q_iinc e14747 (x14555.toInt + 1) rfl (by omega) (fun v14771 hv14771 => ?_)
              refine r_goto ?_
              exact ih14562 (8 - v14771.toInt) _ _ ⟨v14771, v14768, by first | rfl | omega, hI14769, hF14770, (gI_sI_eq hI14766.1 kx_188 rfl _), (w_p1 (by decide) (Or.inr rfl) e14744), (w_p1 (by decide) (Or.inr rfl) e14745), (w_p1 (by decide) (Or.inr rfl) e14746), (w_e1 _ _ _), by omega, by omega, by omega⟩ ⟨by omega, by omega⟩
            · have c14765_ : v14763.toInt < v14764.toInt := en_j_ge_f c14765
              refine At.enter rfl ?_
              refine r_aload_n e14744 ?_
              refine q_getR (Sh.ref hI14738.1 kx_188 rfl) ?_
              refine r_iload e14749 ?_
              refine r_aload_n e14744 ?_
              refine q_getR (Sh.ref hI14738.1 kx_188 rfl) ?_
              refine r_iload e14749 ?_
              refine r_iconst 1 rfl ?_
              refine q_isub (x14736.toInt - 1) rfl (by omega) (fun v14772 hv14772 => ?_)
              refine q_iald (Sh.arr hI14738.1 ka_202) (x14736.toInt + (-1)) (by omega) (by omega) v14762 hv14762 ?_
              refine q_iast (Sh.arr hI14738.1 ka_202) (x14736.toInt) rfl (by omega) ?_
              have hI14773 := HI.wA1 hI14738 ka_202 (p := 202) rfl rfl (x14736.toInt) (v := v14762) (by dsimp only; omega)
              have hF14774 := Fr.wA (p := 202) (j := x14736.toInt) (v := v14762) hF14739 rfl
              refine q_iinc e14749 (x14736.toInt + (-1)) rfl (by omega) (fun v14775 hv14775 => ?_)
              refine r_goto ?_
              exact ih14742 (v14775.toInt - 0) _ _ ⟨v14775, by first | rfl | omega, hI14773, hF14774, ((gI_sW).trans e14743), (w_p1 (by decide) (Or.inr rfl) e14744), (w_p1 (by decide) (Or.inr rfl) e14745), (w_p1 (by decide) (Or.inr rfl) e14746), (w_p1 (by decide) (Or.inr rfl) e14747), (w_p1 (by decide) (Or.inr rfl) e14748), (w_e1 _ _ _), by omega, by omega⟩ ⟨by omega, by omega⟩

def F_X1_goOn_188 : List (Nat × Nat) := [(185, 3), (188, 18)]
def A_X1_goOn_188 : List Nat := [194, 195, 196, 197, 198, 199, 200]
set_option maxRecDepth 100000 in
set_option maxHeartbeats 4000000 in
theorem T_X1_goOn_188 (d : Nat) {N : Nat} {g0 : List en_E} (hI0 : HI g0) (a1 : Int32) : Ev (d + 4) 30 [.ref 188, .int a1] (g0, N) (fun w h' => ∃ g', h' = (g', N) ∧ HI g' ∧ Fr F_X1_goOn_188 A_X1_goOn_188 g0 g' ∧ w = none) := by
  have hF0 : Fr F_X1_goOn_188 A_X1_goOn_188 g0 g0 := Fr.rf
  refine Ev.mk rfl rfl ⟨Nat.le_of_ble_eq_true rfl, Or.inr (q_rc hI0.1 kx_188 rfl)⟩ ?_
  show At _ none _ _ (0, [(0, .ref 188), (1, .int a1)], [], (_, _)) _
  refine At.enter rfl ?_
  refine r_aload_n rfl ?_
  refine q_getR (Sh.ref hI0.1 kx_188 rfl) ?_
  refine q_inlV 7 rfl [.ref 1] [] (Nat.le_of_ble_eq_true rfl) rfl ?_
  refine Ev.mk rfl rfl ⟨Nat.le_of_ble_eq_true rfl, Or.inr (q_rc hI0.1 kx_1 rfl)⟩ ?_
  show At _ none _ _ (0, [(0, .ref 1)], [], (_, _)) _
  refine At.enter rfl ?_
  refine r_aload_n rfl ?_
  refine r_aload_n rfl ?_
  obtain ⟨v2707, hv2707⟩ : ∃ v, gI g0 1 9 = v := ⟨_, rfl⟩
  refine q_getI (Sh.int hI0.1 kx_1 rfl) v2707 hv2707 ?_
  refine r_callV 8 rfl [.ref 1, .int v2707] [] (Nat.le_of_ble_eq_true rfl) rfl (T_X0_lawAt_1 _ hI0 v2707) ?_
  rintro _ _ ⟨g2708, rfl, hI2709, hF2710, v2711, rfl, hr2712⟩
  refine At.str ?_
  have hF2713 := Fr.tr hF0 hF2710 rfl rfl
  refine At.enter rfl ?_
  refine q_aret ?_
  refine At.enter rfl ?_
  refine r_iconst 2 rfl ?_
  refine r_callV 11 rfl [.ref (v2711), .int 2] [] (Nat.le_of_ble_eq_true rfl) rfl (T_X4_speaksOf_law _ hI2709 (v2711) hr2712 2) ?_
  rintro _ _ ⟨g2714, rfl, hI2715, hF2716, v2717, rfl, hr2718⟩
  refine At.sti ?_
  have hF2719 := Fr.tr hF2713 hF2716 rfl rfl
  refine At.enter rfl ?_
  refine r_istore_n ([(2, .int v2717), (0, .ref 188), (1, .int a1)]) rfl ?_
  refine r_iconst 0 rfl ?_
  refine r_istore_n ([(3, .int 0), (2, .int v2717), (0, .ref 188), (1, .int a1)]) rfl ?_
  refine Ar.fall 14 rfl ?_
  have z_3894 : (0 : Int32).toInt = 0 := rfl
  refine w_loopI (fun n_ l_ g_ => ∃ x3882 : Int32, n_ = 8 - x3882.toInt ∧ HI g_ ∧ Fr F_X1_goOn_188 A_X1_goOn_188 g0 g_ ∧ en_get 0 l_ = some (.ref 188) ∧ en_get 1 l_ = some (.int a1) ∧ en_get 2 l_ = some (.int v2717) ∧ en_get 3 l_ = some (.int x3882) ∧ (0 ≤ x3882.toInt ∧ x3882.toInt ≤ 8)) ?_ (8 - 0) ⟨0, by first | rfl | omega, hI2715, hF2719, rfl, rfl, rfl, rfl, by decide⟩
  rintro n3887 l3886 g3883 ⟨x3882, hm3895, hI3884, hF3885, e3889, e3890, e3891, e3892, r3893⟩ ih3888
  refine At.enter rfl ?_
  refine r_iload_n e3892 ?_
  refine r_aload_n e3889 ?_
  obtain ⟨v3896, hv3896⟩ : ∃ v, gI g0 188 16 = v := ⟨_, rfl⟩
  have rv3896 := RgF.at hI0.2.1 (p := 188) (b := 16) rfl
  rw [hv3896] at rv3896
  dsimp only at rv3896
  refine q_getI (Sh.int hI3884.1 kx_188 rfl) v3896 ((hF3885.1 188 16 (by decide)).trans hv3896) ?_
  have bv3898 := q_bnd x3882
  have bv3899 := q_bnd v3896
  refine r_ics 22 rfl (fun c3897 => ?_) (fun c3897 => ?_)
  · have c3897_ : x3882.toInt ≥ v3896.toInt := en_i_ge_t c3897
    refine At.enter rfl ?_
    refine r_vret ?_
    exact ⟨_, rfl, hI3884, hF3885, rfl⟩
  · have c3897_ : x3882.toInt < v3896.toInt := en_i_ge_f c3897
    refine At.enter rfl ?_
    refine r_aload_n e3889 ?_
    refine q_getR (Sh.ref hI3884.1 kx_188 rfl) ?_
    refine r_iload_n e3892 ?_
    obtain ⟨v3900, hv3900⟩ : ∃ v, eA g0 202 x3882.toInt = v := ⟨_, rfl⟩
    have rv3900 := RgA.at hI0.2.2.1 (Sh.arr hI0.1 ka_202).2 (p := 202) rfl (j := x3882.toInt) (by omega)
    rw [hv3900] at rv3900
    dsimp only at rv3900
    refine q_iald (Sh.arr hI3884.1 ka_202) x3882.toInt rfl (by omega) v3900 ((eA_c (hF3885.2.1 202 (by decide))).trans hv3900) ?_
    refine r_istore _ rfl ?_
    refine r_aload_n (w_p1 (by decide) (Or.inr rfl) e3889) ?_
    refine q_getR (Sh.ref hI3884.1 kx_188 rfl) ?_
    refine r_iload (w_e1 _ _ _) ?_
    obtain ⟨v3901, hv3901⟩ : ∃ v, eA g3883 195 v3900.toInt = v := ⟨_, rfl⟩
    refine q_iald (Sh.arr hI3884.1 ka_195) v3900.toInt rfl (by omega) v3901 hv3901 ?_
    refine r_istore _ rfl ?_
    refine r_aload_n (w_p1 (by decide) (Or.inr rfl) (w_p1 (by decide) (Or.inr rfl) e3889)) ?_
    refine q_getR (Sh.ref hI3884.1 kx_188 rfl) ?_
    refine r_iload (w_e1 _ _ _) ?_
    refine q_inlV 48 rfl [.ref 1, .int v3901] [] (Nat.le_of_ble_eq_true rfl) rfl ?_
    refine Ev.mk rfl rfl ⟨Nat.le_of_ble_eq_true rfl, Or.inr (q_rc hI3884.1 kx_1 rfl)⟩ ?_
    show At _ none _ _ (0, [(0, .ref 1), (1, .int v3901)], [], (_, _)) _
    refine At.enter rfl ?_
    refine r_iload_n rfl ?_
    refine r_ifs 4 rfl (fun c3902 => ?_) (fun c3902 => ?_)
    · have c3902_ : v3901.toInt < 0 := en_k_lt_t c3902
      refine At.enter rfl ?_
      refine r_iconst 0 rfl ?_
      refine Ar.fall 17 rfl ?_
      refine At.enter rfl ?_
      refine q_iretz (by decide) ?_
      refine At.enter rfl ?_
      refine r_iff 51 rfl (by decide) ?_
      refine At.enter rfl ?_
      refine r_goto ?_
      refine At.enter rfl ?_
      refine q_iinc (w_p1 (by decide) (Or.inr rfl) (w_p1 (by decide) (Or.inr rfl) e3892)) (x3882.toInt + 1) rfl (by omega) (fun v3903 hv3903 => ?_)
      refine r_goto ?_
      exact ih3888 (8 - v3903.toInt) _ _ ⟨v3903, by first | rfl | omega, hI3884, hF3885, (w_p1 (by decide) (Or.inr rfl) (w_p1 (by decide) (Or.inr rfl) (w_p1 (by decide) (Or.inr rfl) e3889))), (w_p1 (by decide) (Or.inr rfl) (w_p1 (by decide) (Or.inr rfl) (w_p1 (by decide) (Or.inr rfl) e3890))), (w_p1 (by decide) (Or.inr rfl) (w_p1 (by decide) (Or.inr rfl) (w_p1 (by decide) (Or.inr rfl) e3891))), (w_e1 _ _ _), by omega⟩ ⟨by omega, by omega⟩
    · have c3902_ : v3901.toInt ≥ 0 := en_k_lt_f c3902
      refine At.enter rfl ?_
      refine r_iload_n rfl ?_
      refine r_aload_n rfl ?_
      obtain ⟨v3904, hv3904⟩ : ∃ v, gI g0 1 0 = v := ⟨_, rfl⟩
      have rv3904 := RgF.at hI0.2.1 (p := 1) (b := 0) rfl
      rw [hv3904] at rv3904
      dsimp only at rv3904
      refine q_getI (Sh.int hI3884.1 kx_1 rfl) v3904 ((hF3885.1 1 0 (by decide)).trans hv3904) ?_
      have bv3906 := q_bnd v3901
      have bv3907 := q_bnd v3904
      refine r_ics 12 rfl (fun c3905 => ?_) (fun c3905 => ?_)
      · have c3905_ : v3901.toInt ≥ v3904.toInt := en_i_ge_t c3905
        refine At.enter rfl ?_
        refine r_iconst 0 rfl ?_
        refine Ar.fall 17 rfl ?_
        refine At.enter rfl ?_
        refine q_iretz (by decide) ?_
        refine At.enter rfl ?_
        refine r_iff 51 rfl (by decide) ?_
        refine At.enter rfl ?_
        refine r_goto ?_
        refine At.enter rfl ?_
        refine q_iinc (w_p1 (by decide) (Or.inr rfl) (w_p1 (by decide) (Or.inr rfl) e3892)) (x3882.toInt + 1) rfl (by omega) (fun v3908 hv3908 => ?_)
        refine r_goto ?_
        exact ih3888 (8 - v3908.toInt) _ _ ⟨v3908, by first | rfl | omega, hI3884, hF3885, (w_p1 (by decide) (Or.inr rfl) (w_p1 (by decide) (Or.inr rfl) (w_p1 (by decide) (Or.inr rfl) e3889))), (w_p1 (by decide) (Or.inr rfl) (w_p1 (by decide) (Or.inr rfl) (w_p1 (by decide) (Or.inr rfl) e3890))), (w_p1 (by decide) (Or.inr rfl) (w_p1 (by decide) (Or.inr rfl) (w_p1 (by decide) (Or.inr rfl) e3891))), (w_e1 _ _ _), by omega⟩ ⟨by omega, by omega⟩
      · have c3905_ : v3901.toInt < v3904.toInt := en_i_ge_f c3905
        refine At.enter rfl ?_
        refine r_iconst 1 rfl ?_
        refine r_goto ?_
        refine At.enter rfl ?_
        refine q_iretz (by decide) ?_
        refine At.enter rfl ?_
        refine r_ift (by decide) ?_
        refine At.enter rfl ?_
        refine r_aload_n (w_p1 (by decide) (Or.inr rfl) (w_p1 (by decide) (Or.inr rfl) e3889)) ?_
        refine q_getR (Sh.ref hI3884.1 kx_188 rfl) ?_
        refine r_iload (w_e1 _ _ _) ?_
        obtain ⟨v3909, hv3909⟩ : ∃ v, eA g0 192 v3901.toInt = v := ⟨_, rfl⟩
        refine q_iald (Sh.arr hI3884.1 ka_192) v3901.toInt rfl (by omega) v3909 ((eA_c (hF3885.2.1 192 (by decide))).trans hv3909) ?_
        refine r_istore _ rfl ?_
        refine r_iload (w_e1 _ _ _) ?_
        refine r_aload_n (w_p1 (by decide) (Or.inr rfl) (w_p1 (by decide) (Or.inr rfl) (w_p1 (by decide) (Or.inr rfl) e3889))) ?_
        refine q_getR (Sh.ref hI3884.1 kx_188 rfl) ?_
        refine r_iload (w_p1 (by decide) (Or.inr rfl) (w_p1 (by decide) (Or.inr rfl) (w_e1 _ _ _))) ?_
        refine r_iconst 2 rfl ?_
        refine r_callV 75 rfl [.ref 1, .int v3900, .int 2] [.int v3909] (Nat.le_of_ble_eq_true rfl) rfl (T_X0_about_1 _ hI3884 v3900 2) ?_
        rintro _ _ ⟨g3910, rfl, hI3911, hF3912, v3913, rfl, hr3914⟩
        refine At.sti ?_
        have hF3915 := Fr.tr hF3885 hF3912 rfl rfl
        have zv3916 : (2 : Int32).toInt = 2 := rfl
        refine At.enter rfl ?_
        refine r_ics 78 rfl (fun c3917 => ?_) (fun c3917 => ?_)
        · have c3917_ : v3909.toInt ≠ v3913.toInt := en_i_ne_t c3917
          refine At.enter rfl ?_
          refine r_iconst 0 rfl ?_
          refine Ar.fall 83 rfl ?_
          refine At.enter rfl ?_
          refine r_istore _ rfl ?_
          refine r_iload (w_p1 (by decide) (Or.inr rfl) (w_e1 _ _ _)) ?_
          refine r_iconst (-1) rfl ?_
          refine r_ics 91 rfl (fun c3918 => ?_) (fun c3918 => ?_)
          · have c3918_ : v3909.toInt = (-1) := en_i_eq_t c3918
            refine At.enter rfl ?_
            refine r_iconst 0 rfl ?_
            refine Ar.fall 112 rfl ?_
            refine At.enter rfl ?_
            refine r_istore _ rfl ?_
            refine r_iload (w_e1 _ _ _) ?_
            refine r_ift (by decide) ?_
            refine At.enter rfl ?_
            refine r_iload (w_e1 _ _ _) ?_
            refine r_iff 174 rfl (by decide) ?_
            refine At.enter rfl ?_
            refine r_aload_n (w_p1 (by decide) (Or.inr rfl) (w_p1 (by decide) (Or.inr rfl) (w_p1 (by decide) (Or.inr rfl) (w_p1 (by decide) (Or.inr rfl) (w_p1 (by decide) (Or.inr rfl) e3889))))) ?_
            refine q_getR (Sh.ref hI3911.1 kx_188 rfl) ?_
            refine r_iload (w_p1 (by decide) (Or.inr rfl) (w_p1 (by decide) (Or.inr rfl) (w_p1 (by decide) (Or.inr rfl) (w_p1 (by decide) (Or.inr rfl) (w_e1 _ _ _))))) ?_
            refine r_dup2 ⟨rfl, rfl⟩ ?_
            obtain ⟨v3919, hv3919⟩ : ∃ v, eA g3883 198 v3900.toInt = v := ⟨_, rfl⟩
            refine q_iald (Sh.arr hI3911.1 ka_198) v3900.toInt rfl (by omega) v3919 ((eA_c (hF3912.2.1 198 (by decide))).trans hv3919) ?_
            refine r_iconst 1 rfl ?_
            refine q_iaddO (fun v3920 _ => ?_)
            refine q_iast (Sh.arr hI3911.1 ka_198) (v3900.toInt) rfl (by omega) ?_
            have hI3921 := HI.wA0 hI3911 ka_198 (p := 198) rfl rfl (v3900.toInt) (v3920)
            have hF3922 := Fr.wA (p := 198) (j := v3900.toInt) (v := v3920) hF3915 rfl
            refine r_aload_n (w_p1 (by decide) (Or.inr rfl) (w_p1 (by decide) (Or.inr rfl) (w_p1 (by decide) (Or.inr rfl) (w_p1 (by decide) (Or.inr rfl) (w_p1 (by decide) (Or.inr rfl) e3889))))) ?_
            refine q_getR (Sh.ref hI3921.1 kx_188 rfl) ?_
            refine r_iload (w_p1 (by decide) (Or.inr rfl) (w_p1 (by decide) (Or.inr rfl) (w_p1 (by decide) (Or.inr rfl) (w_p1 (by decide) (Or.inr rfl) (w_e1 _ _ _))))) ?_
            refine r_dup2 ⟨rfl, rfl⟩ ?_
            obtain ⟨v3923, hv3923⟩ : ∃ v, eA g3883 197 v3900.toInt = v := ⟨_, rfl⟩
            refine q_iald (Sh.arr hI3921.1 ka_197) v3900.toInt rfl (by omega) v3923 ((eA_c ((gA_sA_ne (by decide)).trans (hF3912.2.1 197 (by decide)))).trans hv3923) ?_
            refine r_iconst 1 rfl ?_
            refine q_iaddO (fun v3924 _ => ?_)
            refine q_iast (Sh.arr hI3921.1 ka_197) (v3900.toInt) rfl (by omega) ?_
            have hI3925 := HI.wA0 hI3921 ka_197 (p := 197) rfl rfl (v3900.toInt) (v3924)
            have hF3926 := Fr.wA (p := 197) (j := v3900.toInt) (v := v3924) hF3922 rfl
            refine r_goto ?_
            refine At.enter rfl ?_
            refine q_iinc (w_p1 (by decide) (Or.inr rfl) (w_p1 (by decide) (Or.inr rfl) (w_p1 (by decide) (Or.inr rfl) (w_p1 (by decide) (Or.inr rfl) (w_p1 (by decide) (Or.inr rfl) e3892))))) (x3882.toInt + 1) rfl (by omega) (fun v3927 hv3927 => ?_)
            refine r_goto ?_
            exact ih3888 (8 - v3927.toInt) _ _ ⟨v3927, by first | rfl | omega, hI3925, hF3926, (w_p1 (by decide) (Or.inr rfl) (w_p1 (by decide) (Or.inr rfl) (w_p1 (by decide) (Or.inr rfl) (w_p1 (by decide) (Or.inr rfl) (w_p1 (by decide) (Or.inr rfl) (w_p1 (by decide) (Or.inr rfl) e3889)))))), (w_p1 (by decide) (Or.inr rfl) (w_p1 (by decide) (Or.inr rfl) (w_p1 (by decide) (Or.inr rfl) (w_p1 (by decide) (Or.inr rfl) (w_p1 (by decide) (Or.inr rfl) (w_p1 (by decide) (Or.inr rfl) e3890)))))), (w_p1 (by decide) (Or.inr rfl) (w_p1 (by decide) (Or.inr rfl) (w_p1 (by decide) (Or.inr rfl) (w_p1 (by decide) (Or.inr rfl) (w_p1 (by decide) (Or.inr rfl) (w_p1 (by decide) (Or.inr rfl) e3891)))))), (w_e1 _ _ _), by omega⟩ ⟨by omega, by omega⟩
          · have c3918_ : v3909.toInt ≠ (-1) := en_i_eq_f c3918
            refine At.enter rfl ?_
            refine r_iload (w_e1 _ _ _) ?_
            refine r_iff 96 rfl (by decide) ?_
            refine At.enter rfl ?_
            refine r_aload_n (w_p1 (by decide) (Or.inr rfl) (w_p1 (by decide) (Or.inr rfl) (w_p1 (by decide) (Or.inr rfl) (w_p1 (by decide) (Or.inr rfl) e3889)))) ?_
            refine r_iload (w_p1 (by decide) (Or.inr rfl) (w_e1 _ _ _)) ?_
            refine r_iload (w_p1 (by decide) (Or.inr rfl) (w_p1 (by decide) (Or.inr rfl) (w_p1 (by decide) (Or.inr rfl) (w_e1 _ _ _)))) ?_
            refine r_callV 104 rfl [.ref 188, .int v3909, .int v3900] [] (Nat.le_of_ble_eq_true rfl) rfl (T_X1_canHold_188 _ hI3911 v3909 v3900) ?_
            rintro _ _ ⟨g3928, rfl, hI3929, hF3930, v3931, rfl, hr3932⟩
            refine At.sti ?_
            have hF3933 := Fr.tr hF3915 hF3930 rfl rfl
            refine At.enter rfl ?_
            refine r_ifs 107 rfl (fun c3934 => ?_) (fun c3934 => ?_)
            · have c3934_ : v3931.toInt = 0 := en_k_eq_t c3934
              refine At.enter rfl ?_
              refine r_iconst 0 rfl ?_
              refine Ar.fall 112 rfl ?_
              refine At.enter rfl ?_
              refine r_istore _ rfl ?_
              refine r_iload (w_e1 _ _ _) ?_
              refine r_ift (by decide) ?_
              refine At.enter rfl ?_
              refine r_iload (w_e1 _ _ _) ?_
              refine r_iff 174 rfl (by decide) ?_
              refine At.enter rfl ?_
              refine r_aload_n (w_p1 (by decide) (Or.inr rfl) (w_p1 (by decide) (Or.inr rfl) (w_p1 (by decide) (Or.inr rfl) (w_p1 (by decide) (Or.inr rfl) (w_p1 (by decide) (Or.inr rfl) e3889))))) ?_
              refine q_getR (Sh.ref hI3929.1 kx_188 rfl) ?_
              refine r_iload (w_p1 (by decide) (Or.inr rfl) (w_p1 (by decide) (Or.inr rfl) (w_p1 (by decide) (Or.inr rfl) (w_p1 (by decide) (Or.inr rfl) (w_e1 _ _ _))))) ?_
              refine r_dup2 ⟨rfl, rfl⟩ ?_
              obtain ⟨v3935, hv3935⟩ : ∃ v, eA g3883 198 v3900.toInt = v := ⟨_, rfl⟩
              refine q_iald (Sh.arr hI3929.1 ka_198) v3900.toInt rfl (by omega) v3935 ((eA_c ((hF3930.2.1 198 (by decide)).trans (hF3912.2.1 198 (by decide)))).trans hv3935) ?_
              refine r_iconst 1 rfl ?_
              refine q_iaddO (fun v3936 _ => ?_)
              refine q_iast (Sh.arr hI3929.1 ka_198) (v3900.toInt) rfl (by omega) ?_
              have hI3937 := HI.wA0 hI3929 ka_198 (p := 198) rfl rfl (v3900.toInt) (v3936)
              have hF3938 := Fr.wA (p := 198) (j := v3900.toInt) (v := v3936) hF3933 rfl
              refine r_aload_n (w_p1 (by decide) (Or.inr rfl) (w_p1 (by decide) (Or.inr rfl) (w_p1 (by decide) (Or.inr rfl) (w_p1 (by decide) (Or.inr rfl) (w_p1 (by decide) (Or.inr rfl) e3889))))) ?_
              refine q_getR (Sh.ref hI3937.1 kx_188 rfl) ?_
              refine r_iload (w_p1 (by decide) (Or.inr rfl) (w_p1 (by decide) (Or.inr rfl) (w_p1 (by decide) (Or.inr rfl) (w_p1 (by decide) (Or.inr rfl) (w_e1 _ _ _))))) ?_
              refine r_dup2 ⟨rfl, rfl⟩ ?_
              obtain ⟨v3939, hv3939⟩ : ∃ v, eA g3883 197 v3900.toInt = v := ⟨_, rfl⟩
              refine q_iald (Sh.arr hI3937.1 ka_197) v3900.toInt rfl (by omega) v3939 ((eA_c ((gA_sA_ne (by decide)).trans ((hF3930.2.1 197 (by decide)).trans (hF3912.2.1 197 (by decide))))).trans hv3939) ?_
              refine r_iconst 1 rfl ?_
              refine q_iaddO (fun v3940 _ => ?_)
              refine q_iast (Sh.arr hI3937.1 ka_197) (v3900.toInt) rfl (by omega) ?_
              have hI3941 := HI.wA0 hI3937 ka_197 (p := 197) rfl rfl (v3900.toInt) (v3940)
              have hF3942 := Fr.wA (p := 197) (j := v3900.toInt) (v := v3940) hF3938 rfl
              refine r_goto ?_
              refine At.enter rfl ?_
              refine q_iinc (w_p1 (by decide) (Or.inr rfl) (w_p1 (by decide) (Or.inr rfl) (w_p1 (by decide) (Or.inr rfl) (w_p1 (by decide) (Or.inr rfl) (w_p1 (by decide) (Or.inr rfl) e3892))))) (x3882.toInt + 1) rfl (by omega) (fun v3943 hv3943 => ?_)
              refine r_goto ?_
              exact ih3888 (8 - v3943.toInt) _ _ ⟨v3943, by first | rfl | omega, hI3941, hF3942, (w_p1 (by decide) (Or.inr rfl) (w_p1 (by decide) (Or.inr rfl) (w_p1 (by decide) (Or.inr rfl) (w_p1 (by decide) (Or.inr rfl) (w_p1 (by decide) (Or.inr rfl) (w_p1 (by decide) (Or.inr rfl) e3889)))))), (w_p1 (by decide) (Or.inr rfl) (w_p1 (by decide) (Or.inr rfl) (w_p1 (by decide) (Or.inr rfl) (w_p1 (by decide) (Or.inr rfl) (w_p1 (by decide) (Or.inr rfl) (w_p1 (by decide) (Or.inr rfl) e3890)))))), (w_p1 (by decide) (Or.inr rfl) (w_p1 (by decide) (Or.inr rfl) (w_p1 (by decide) (Or.inr rfl) (w_p1 (by decide) (Or.inr rfl) (w_p1 (by decide) (Or.inr rfl) (w_p1 (by decide) (Or.inr rfl) e3891)))))), (w_e1 _ _ _), by omega⟩ ⟨by omega, by omega⟩
            · have c3934_ : v3931.toInt ≠ 0 := en_k_eq_f c3934
              refine At.enter rfl ?_
              refine r_iconst 1 rfl ?_
              refine r_goto ?_
              refine At.enter rfl ?_
              refine r_istore _ rfl ?_
              refine r_iload (w_e1 _ _ _) ?_
              refine r_iff 119 rfl (by decide) ?_
              refine At.enter rfl ?_
              refine r_iload_n (w_p1 (by decide) (Or.inr rfl) (w_p1 (by decide) (Or.inr rfl) (w_p1 (by decide) (Or.inr rfl) (w_p1 (by decide) (Or.inr rfl) (w_p1 (by decide) (Or.inr rfl) e3891))))) ?_
              refine r_ifs 123 rfl (fun c3944 => ?_) (fun c3944 => ?_)
              · have c3944_ : v2717.toInt = 0 := en_k_eq_t c3944
                refine At.enter rfl ?_
                refine r_iload (w_e1 _ _ _) ?_
                refine r_ift (by decide) ?_
                refine At.enter rfl ?_
                refine r_aload_n (w_p1 (by decide) (Or.inr rfl) (w_p1 (by decide) (Or.inr rfl) (w_p1 (by decide) (Or.inr rfl) (w_p1 (by decide) (Or.inr rfl) (w_p1 (by decide) (Or.inr rfl) e3889))))) ?_
                refine r_iconst 1 rfl ?_
                refine q_putI (Sh.int hI3929.1 kx_188 rfl) rfl ?_
                have hI3945 := HI.wI0 hI3929 kx_188 rfl (p := 188) (b := 18) (v := 1) rfl
                have hF3946 := Fr.wI (p := 188) (b := 18) (v := 1) hF3933 rfl
                refine r_aload_n (w_p1 (by decide) (Or.inr rfl) (w_p1 (by decide) (Or.inr rfl) (w_p1 (by decide) (Or.inr rfl) (w_p1 (by decide) (Or.inr rfl) (w_p1 (by decide) (Or.inr rfl) e3889))))) ?_
                refine r_iload (w_p1 (by decide) (Or.inr rfl) (w_p1 (by decide) (Or.inr rfl) (w_p1 (by decide) (Or.inr rfl) (w_e1 _ _ _)))) ?_
                refine r_iload (w_p1 (by decide) (Or.inr rfl) (w_p1 (by decide) (Or.inr rfl) (w_p1 (by decide) (Or.inr rfl) (w_p1 (by decide) (Or.inr rfl) (w_e1 _ _ _))))) ?_
                refine r_callV 212 rfl [.ref 188, .int v3901, .int v3900] [] (Nat.le_of_ble_eq_true rfl) rfl (T_X1_giveUp_188 _ hI3945 v3901 v3900 (by omega)) ?_
                rintro _ _ ⟨g3947, rfl, hI3948, hF3949, rfl⟩
                refine At.stn ?_
                have hF3952 := Fr.tr hF3946 hF3949 rfl rfl
                refine At.enter rfl ?_
                refine r_aload_n (w_p1 (by decide) (Or.inr rfl) (w_p1 (by decide) (Or.inr rfl) (w_p1 (by decide) (Or.inr rfl) (w_p1 (by decide) (Or.inr rfl) (w_p1 (by decide) (Or.inr rfl) e3889))))) ?_
                refine q_getR (Sh.ref hI3948.1 kx_188 rfl) ?_
                refine r_iload (w_p1 (by decide) (Or.inr rfl) (w_p1 (by decide) (Or.inr rfl) (w_p1 (by decide) (Or.inr rfl) (w_p1 (by decide) (Or.inr rfl) (w_e1 _ _ _))))) ?_
                refine r_dup2 ⟨rfl, rfl⟩ ?_
                obtain ⟨v3953, hv3953⟩ : ∃ v, eA g3883 194 v3900.toInt = v := ⟨_, rfl⟩
                refine q_iald (Sh.arr hI3948.1 ka_194) v3900.toInt rfl (by omega) v3953 ((eA_c ((hF3949.2.1 194 (by decide)).trans ((gA_sI).trans ((hF3930.2.1 194 (by decide)).trans (hF3912.2.1 194 (by decide)))))).trans hv3953) ?_
                refine r_iconst 1 rfl ?_
                refine q_isubO (fun v3954 _ => ?_)
                refine q_iast (Sh.arr hI3948.1 ka_194) (v3900.toInt) rfl (by omega) ?_
                have hI3955 := HI.wA0 hI3948 ka_194 (p := 194) rfl rfl (v3900.toInt) (v3954)
                have hF3956 := Fr.wA (p := 194) (j := v3900.toInt) (v := v3954) hF3952 rfl
                refine r_iload (w_p1 (by decide) (Or.inr rfl) (w_e1 _ _ _)) ?_
                refine r_ift (by decide) ?_
                refine At.enter rfl ?_
                refine r_aload_n (w_p1 (by decide) (Or.inr rfl) (w_p1 (by decide) (Or.inr rfl) (w_p1 (by decide) (Or.inr rfl) (w_p1 (by decide) (Or.inr rfl) (w_p1 (by decide) (Or.inr rfl) e3889))))) ?_
                refine r_iload (w_p1 (by decide) (Or.inr rfl) (w_p1 (by decide) (Or.inr rfl) (w_e1 _ _ _))) ?_
                refine r_iload (w_p1 (by decide) (Or.inr rfl) (w_p1 (by decide) (Or.inr rfl) (w_p1 (by decide) (Or.inr rfl) (w_p1 (by decide) (Or.inr rfl) (w_e1 _ _ _))))) ?_
                refine r_callV 247 rfl [.ref 188, .int v3909, .int v3900] [] (Nat.le_of_ble_eq_true rfl) rfl (T_X1_take_188 _ hI3955 v3909 v3900 (by omega)) ?_
                rintro _ _ ⟨g3957, rfl, hI3958, hF3959, rfl⟩
                refine At.stn ?_
                have hF3962 := Fr.tr hF3956 hF3959 rfl rfl
                refine At.enter rfl ?_
                refine q_iinc (w_p1 (by decide) (Or.inr rfl) (w_p1 (by decide) (Or.inr rfl) (w_p1 (by decide) (Or.inr rfl) (w_p1 (by decide) (Or.inr rfl) (w_p1 (by decide) (Or.inr rfl) e3892))))) (x3882.toInt + 1) rfl (by omega) (fun v3963 hv3963 => ?_)
                refine r_goto ?_
                exact ih3888 (8 - v3963.toInt) _ _ ⟨v3963, by first | rfl | omega, hI3958, hF3962, (w_p1 (by decide) (Or.inr rfl) (w_p1 (by decide) (Or.inr rfl) (w_p1 (by decide) (Or.inr rfl) (w_p1 (by decide) (Or.inr rfl) (w_p1 (by decide) (Or.inr rfl) (w_p1 (by decide) (Or.inr rfl) e3889)))))), (w_p1 (by decide) (Or.inr rfl) (w_p1 (by decide) (Or.inr rfl) (w_p1 (by decide) (Or.inr rfl) (w_p1 (by decide) (Or.inr rfl) (w_p1 (by decide) (Or.inr rfl) (w_p1 (by decide) (Or.inr rfl) e3890)))))), (w_p1 (by decide) (Or.inr rfl) (w_p1 (by decide) (Or.inr rfl) (w_p1 (by decide) (Or.inr rfl) (w_p1 (by decide) (Or.inr rfl) (w_p1 (by decide) (Or.inr rfl) (w_p1 (by decide) (Or.inr rfl) e3891)))))), (w_e1 _ _ _), by omega⟩ ⟨by omega, by omega⟩
              · have c3944_ : v2717.toInt ≠ 0 := en_k_eq_f c3944
                refine At.enter rfl ?_
                refine r_aload_n (w_p1 (by decide) (Or.inr rfl) (w_p1 (by decide) (Or.inr rfl) (w_p1 (by decide) (Or.inr rfl) (w_p1 (by decide) (Or.inr rfl) (w_p1 (by decide) (Or.inr rfl) e3889))))) ?_
                refine q_getR (Sh.ref hI3929.1 kx_188 rfl) ?_
                refine r_iconst 2 rfl ?_
                refine r_iload (w_p1 (by decide) (Or.inr rfl) (w_p1 (by decide) (Or.inr rfl) (w_p1 (by decide) (Or.inr rfl) (w_p1 (by decide) (Or.inr rfl) (w_e1 _ _ _))))) ?_
                refine r_iload (w_p1 (by decide) (Or.inr rfl) (w_p1 (by decide) (Or.inr rfl) (w_p1 (by decide) (Or.inr rfl) (w_e1 _ _ _)))) ?_
                refine r_iload_n (w_p1 (by decide) (Or.inr rfl) (w_p1 (by decide) (Or.inr rfl) (w_p1 (by decide) (Or.inr rfl) (w_p1 (by decide) (Or.inr rfl) (w_p1 (by decide) (Or.inr rfl) e3890))))) ?_
                refine r_aload_n (w_p1 (by decide) (Or.inr rfl) (w_p1 (by decide) (Or.inr rfl) (w_p1 (by decide) (Or.inr rfl) (w_p1 (by decide) (Or.inr rfl) (w_p1 (by decide) (Or.inr rfl) e3889))))) ?_
                refine q_getR (Sh.ref hI3929.1 kx_188 rfl) ?_
                refine r_iload (w_p1 (by decide) (Or.inr rfl) (w_p1 (by decide) (Or.inr rfl) (w_p1 (by decide) (Or.inr rfl) (w_p1 (by decide) (Or.inr rfl) (w_e1 _ _ _))))) ?_
                obtain ⟨v3964, hv3964⟩ : ∃ v, eA g3883 198 v3900.toInt = v := ⟨_, rfl⟩
                refine q_iald (Sh.arr hI3929.1 ka_198) v3900.toInt rfl (by omega) v3964 ((eA_c ((hF3930.2.1 198 (by decide)).trans (hF3912.2.1 198 (by decide)))).trans hv3964) ?_
                refine r_aload_n (w_p1 (by decide) (Or.inr rfl) (w_p1 (by decide) (Or.inr rfl) (w_p1 (by decide) (Or.inr rfl) (w_p1 (by decide) (Or.inr rfl) (w_p1 (by decide) (Or.inr rfl) e3889))))) ?_
                refine q_getR (Sh.ref hI3929.1 kx_188 rfl) ?_
                refine r_iload (w_p1 (by decide) (Or.inr rfl) (w_p1 (by decide) (Or.inr rfl) (w_p1 (by decide) (Or.inr rfl) (w_e1 _ _ _)))) ?_
                obtain ⟨v3965, hv3965⟩ : ∃ v, eA g0 189 v3901.toInt = v := ⟨_, rfl⟩
                refine q_iald (Sh.arr hI3929.1 ka_189) v3901.toInt rfl (by omega) v3965 ((eA_c ((hF3930.2.1 189 (by decide)).trans ((hF3912.2.1 189 (by decide)).trans (hF3885.2.1 189 (by decide))))).trans hv3965) ?_
                refine r_aload_n (w_p1 (by decide) (Or.inr rfl) (w_p1 (by decide) (Or.inr rfl) (w_p1 (by decide) (Or.inr rfl) (w_p1 (by decide) (Or.inr rfl) (w_p1 (by decide) (Or.inr rfl) e3889))))) ?_
                refine q_getR (Sh.ref hI3929.1 kx_188 rfl) ?_
                refine r_iload (w_p1 (by decide) (Or.inr rfl) (w_p1 (by decide) (Or.inr rfl) (w_p1 (by decide) (Or.inr rfl) (w_e1 _ _ _)))) ?_
                obtain ⟨v3966, hv3966⟩ : ∃ v, eA g0 190 v3901.toInt = v := ⟨_, rfl⟩
                refine q_iald (Sh.arr hI3929.1 ka_190) v3901.toInt rfl (by omega) v3966 ((eA_c ((hF3930.2.1 190 (by decide)).trans ((hF3912.2.1 190 (by decide)).trans (hF3885.2.1 190 (by decide))))).trans hv3966) ?_
                refine r_callV 157 rfl [.ref 185, .int 2, .int v3900, .int v3901, .int a1, .int v3964, .int v3965, .int v3966] [] (Nat.le_of_ble_eq_true rfl) rfl (T_X3_tells_185 _ hI3929 2 v3900 v3901 a1 v3964 v3965 v3966) ?_
                rintro _ _ ⟨g3967, rfl, hI3968, hF3969, v3970, rfl, hr3971⟩
                refine At.stl ?_
                have hF3972 := Fr.tr hF3933 hF3969 rfl rfl
                refine At.enter rfl ?_
                refine r_lconst 0 rfl ?_
                refine r_lcmp _ rfl ?_
                refine r_ifs 162 rfl (fun c3973 => ?_) (fun c3973 => ?_)
                · have c3973_ : v3970.toInt ≠ 0 := en_j_ne_t c3973
                  refine At.enter rfl ?_
                  refine r_iconst 0 rfl ?_
                  refine Ar.fall 167 rfl ?_
                  refine At.enter rfl ?_
                  refine r_istore _ rfl ?_
                  refine Ar.fall 169 rfl ?_
                  refine At.enter rfl ?_
                  refine r_iload (w_e1 _ _ _) ?_
                  refine r_iff 174 rfl (by decide) ?_
                  refine At.enter rfl ?_
                  refine r_aload_n (w_p1 (by decide) (Or.inr rfl) (w_p1 (by decide) (Or.inr rfl) (w_p1 (by decide) (Or.inr rfl) (w_p1 (by decide) (Or.inr rfl) (w_p1 (by decide) (Or.inr rfl) (w_p1 (by decide) (Or.inr rfl) e3889)))))) ?_
                  refine q_getR (Sh.ref hI3968.1 kx_188 rfl) ?_
                  refine r_iload (w_p1 (by decide) (Or.inr rfl) (w_p1 (by decide) (Or.inr rfl) (w_p1 (by decide) (Or.inr rfl) (w_p1 (by decide) (Or.inr rfl) (w_p1 (by decide) (Or.inr rfl) (w_e1 _ _ _)))))) ?_
                  refine r_dup2 ⟨rfl, rfl⟩ ?_
                  refine q_iald (Sh.arr hI3968.1 ka_198) v3900.toInt rfl (by omega) v3964 ((eA_c ((hF3969.2.1 198 (by decide)).trans ((hF3930.2.1 198 (by decide)).trans (hF3912.2.1 198 (by decide))))).trans hv3964) ?_
                  refine r_iconst 1 rfl ?_
                  refine q_iaddO (fun v3974 _ => ?_)
                  refine q_iast (Sh.arr hI3968.1 ka_198) (v3900.toInt) rfl (by omega) ?_
                  have hI3975 := HI.wA0 hI3968 ka_198 (p := 198) rfl rfl (v3900.toInt) (v3974)
                  have hF3976 := Fr.wA (p := 198) (j := v3900.toInt) (v := v3974) hF3972 rfl
                  refine r_aload_n (w_p1 (by decide) (Or.inr rfl) (w_p1 (by decide) (Or.inr rfl) (w_p1 (by decide) (Or.inr rfl) (w_p1 (by decide) (Or.inr rfl) (w_p1 (by decide) (Or.inr rfl) (w_p1 (by decide) (Or.inr rfl) e3889)))))) ?_
                  refine q_getR (Sh.ref hI3975.1 kx_188 rfl) ?_
                  refine r_iload (w_p1 (by decide) (Or.inr rfl) (w_p1 (by decide) (Or.inr rfl) (w_p1 (by decide) (Or.inr rfl) (w_p1 (by decide) (Or.inr rfl) (w_p1 (by decide) (Or.inr rfl) (w_e1 _ _ _)))))) ?_
                  refine r_dup2 ⟨rfl, rfl⟩ ?_
                  obtain ⟨v3977, hv3977⟩ : ∃ v, eA g3883 197 v3900.toInt = v := ⟨_, rfl⟩
                  refine q_iald (Sh.arr hI3975.1 ka_197) v3900.toInt rfl (by omega) v3977 ((eA_c ((gA_sA_ne (by decide)).trans ((hF3969.2.1 197 (by decide)).trans ((hF3930.2.1 197 (by decide)).trans (hF3912.2.1 197 (by decide)))))).trans hv3977) ?_
                  refine r_iconst 1 rfl ?_
                  refine q_iaddO (fun v3978 _ => ?_)
                  refine q_iast (Sh.arr hI3975.1 ka_197) (v3900.toInt) rfl (by omega) ?_
                  have hI3979 := HI.wA0 hI3975 ka_197 (p := 197) rfl rfl (v3900.toInt) (v3978)
                  have hF3980 := Fr.wA (p := 197) (j := v3900.toInt) (v := v3978) hF3976 rfl
                  refine r_goto ?_
                  refine At.enter rfl ?_
                  refine q_iinc (w_p1 (by decide) (Or.inr rfl) (w_p1 (by decide) (Or.inr rfl) (w_p1 (by decide) (Or.inr rfl) (w_p1 (by decide) (Or.inr rfl) (w_p1 (by decide) (Or.inr rfl) (w_p1 (by decide) (Or.inr rfl) e3892)))))) (x3882.toInt + 1) rfl (by omega) (fun v3981 hv3981 => ?_)
                  refine r_goto ?_
                  exact ih3888 (8 - v3981.toInt) _ _ ⟨v3981, by first | rfl | omega, hI3979, hF3980, (w_p1 (by decide) (Or.inr rfl) (w_p1 (by decide) (Or.inr rfl) (w_p1 (by decide) (Or.inr rfl) (w_p1 (by decide) (Or.inr rfl) (w_p1 (by decide) (Or.inr rfl) (w_p1 (by decide) (Or.inr rfl) (w_p1 (by decide) (Or.inr rfl) e3889))))))), (w_p1 (by decide) (Or.inr rfl) (w_p1 (by decide) (Or.inr rfl) (w_p1 (by decide) (Or.inr rfl) (w_p1 (by decide) (Or.inr rfl) (w_p1 (by decide) (Or.inr rfl) (w_p1 (by decide) (Or.inr rfl) (w_p1 (by decide) (Or.inr rfl) e3890))))))), (w_p1 (by decide) (Or.inr rfl) (w_p1 (by decide) (Or.inr rfl) (w_p1 (by decide) (Or.inr rfl) (w_p1 (by decide) (Or.inr rfl) (w_p1 (by decide) (Or.inr rfl) (w_p1 (by decide) (Or.inr rfl) (w_p1 (by decide) (Or.inr rfl) e3891))))))), (w_e1 _ _ _), by omega⟩ ⟨by omega, by omega⟩
                · have c3973_ : v3970.toInt = 0 := en_j_ne_f c3973
                  refine At.enter rfl ?_
                  refine r_iconst 1 rfl ?_
                  refine r_goto ?_
                  refine At.enter rfl ?_
                  refine r_istore _ rfl ?_
                  refine Ar.fall 169 rfl ?_
                  refine At.enter rfl ?_
                  refine r_iload (w_e1 _ _ _) ?_
                  refine r_ift (by decide) ?_
                  refine At.enter rfl ?_
                  refine r_aload_n (w_p1 (by decide) (Or.inr rfl) (w_p1 (by decide) (Or.inr rfl) (w_p1 (by decide) (Or.inr rfl) (w_p1 (by decide) (Or.inr rfl) (w_p1 (by decide) (Or.inr rfl) (w_p1 (by decide) (Or.inr rfl) e3889)))))) ?_
                  refine r_iconst 1 rfl ?_
                  refine q_putI (Sh.int hI3968.1 kx_188 rfl) rfl ?_
                  have hI3982 := HI.wI0 hI3968 kx_188 rfl (p := 188) (b := 18) (v := 1) rfl
                  have hF3983 := Fr.wI (p := 188) (b := 18) (v := 1) hF3972 rfl
                  refine r_aload_n (w_p1 (by decide) (Or.inr rfl) (w_p1 (by decide) (Or.inr rfl) (w_p1 (by decide) (Or.inr rfl) (w_p1 (by decide) (Or.inr rfl) (w_p1 (by decide) (Or.inr rfl) (w_p1 (by decide) (Or.inr rfl) e3889)))))) ?_
                  refine r_iload (w_p1 (by decide) (Or.inr rfl) (w_p1 (by decide) (Or.inr rfl) (w_p1 (by decide) (Or.inr rfl) (w_p1 (by decide) (Or.inr rfl) (w_e1 _ _ _))))) ?_
                  refine r_iload (w_p1 (by decide) (Or.inr rfl) (w_p1 (by decide) (Or.inr rfl) (w_p1 (by decide) (Or.inr rfl) (w_p1 (by decide) (Or.inr rfl) (w_p1 (by decide) (Or.inr rfl) (w_e1 _ _ _)))))) ?_
                  refine r_callV 212 rfl [.ref 188, .int v3901, .int v3900] [] (Nat.le_of_ble_eq_true rfl) rfl (T_X1_giveUp_188 _ hI3982 v3901 v3900 (by omega)) ?_
                  rintro _ _ ⟨g3984, rfl, hI3985, hF3986, rfl⟩
                  refine At.stn ?_
                  have hF3989 := Fr.tr hF3983 hF3986 rfl rfl
                  refine At.enter rfl ?_
                  refine r_aload_n (w_p1 (by decide) (Or.inr rfl) (w_p1 (by decide) (Or.inr rfl) (w_p1 (by decide) (Or.inr rfl) (w_p1 (by decide) (Or.inr rfl) (w_p1 (by decide) (Or.inr rfl) (w_p1 (by decide) (Or.inr rfl) e3889)))))) ?_
                  refine q_getR (Sh.ref hI3985.1 kx_188 rfl) ?_
                  refine r_iload (w_p1 (by decide) (Or.inr rfl) (w_p1 (by decide) (Or.inr rfl) (w_p1 (by decide) (Or.inr rfl) (w_p1 (by decide) (Or.inr rfl) (w_p1 (by decide) (Or.inr rfl) (w_e1 _ _ _)))))) ?_
                  refine r_dup2 ⟨rfl, rfl⟩ ?_
                  obtain ⟨v3990, hv3990⟩ : ∃ v, eA g3883 194 v3900.toInt = v := ⟨_, rfl⟩
                  refine q_iald (Sh.arr hI3985.1 ka_194) v3900.toInt rfl (by omega) v3990 ((eA_c ((hF3986.2.1 194 (by decide)).trans ((gA_sI).trans ((hF3969.2.1 194 (by decide)).trans ((hF3930.2.1 194 (by decide)).trans (hF3912.2.1 194 (by decide))))))).trans hv3990) ?_
                  refine r_iconst 1 rfl ?_
                  refine q_isubO (fun v3991 _ => ?_)
                  refine q_iast (Sh.arr hI3985.1 ka_194) (v3900.toInt) rfl (by omega) ?_
                  have hI3992 := HI.wA0 hI3985 ka_194 (p := 194) rfl rfl (v3900.toInt) (v3991)
                  have hF3993 := Fr.wA (p := 194) (j := v3900.toInt) (v := v3991) hF3989 rfl
                  refine r_iload (w_p1 (by decide) (Or.inr rfl) (w_p1 (by decide) (Or.inr rfl) (w_e1 _ _ _))) ?_
                  refine r_ift (by decide) ?_
                  refine At.enter rfl ?_
                  refine r_aload_n (w_p1 (by decide) (Or.inr rfl) (w_p1 (by decide) (Or.inr rfl) (w_p1 (by decide) (Or.inr rfl) (w_p1 (by decide) (Or.inr rfl) (w_p1 (by decide) (Or.inr rfl) (w_p1 (by decide) (Or.inr rfl) e3889)))))) ?_
                  refine r_iload (w_p1 (by decide) (Or.inr rfl) (w_p1 (by decide) (Or.inr rfl) (w_p1 (by decide) (Or.inr rfl) (w_e1 _ _ _)))) ?_
                  refine r_iload (w_p1 (by decide) (Or.inr rfl) (w_p1 (by decide) (Or.inr rfl) (w_p1 (by decide) (Or.inr rfl) (w_p1 (by decide) (Or.inr rfl) (w_p1 (by decide) (Or.inr rfl) (w_e1 _ _ _)))))) ?_
                  refine r_callV 247 rfl [.ref 188, .int v3909, .int v3900] [] (Nat.le_of_ble_eq_true rfl) rfl (T_X1_take_188 _ hI3992 v3909 v3900 (by omega)) ?_
                  rintro _ _ ⟨g3994, rfl, hI3995, hF3996, rfl⟩
                  refine At.stn ?_
                  have hF3999 := Fr.tr hF3993 hF3996 rfl rfl
                  refine At.enter rfl ?_
                  refine q_iinc (w_p1 (by decide) (Or.inr rfl) (w_p1 (by decide) (Or.inr rfl) (w_p1 (by decide) (Or.inr rfl) (w_p1 (by decide) (Or.inr rfl) (w_p1 (by decide) (Or.inr rfl) (w_p1 (by decide) (Or.inr rfl) e3892)))))) (x3882.toInt + 1) rfl (by omega) (fun v4000 hv4000 => ?_)
                  refine r_goto ?_
                  exact ih3888 (8 - v4000.toInt) _ _ ⟨v4000, by first | rfl | omega, hI3995, hF3999, (w_p1 (by decide) (Or.inr rfl) (w_p1 (by decide) (Or.inr rfl) (w_p1 (by decide) (Or.inr rfl) (w_p1 (by decide) (Or.inr rfl) (w_p1 (by decide) (Or.inr rfl) (w_p1 (by decide) (Or.inr rfl) (w_p1 (by decide) (Or.inr rfl) e3889))))))), (w_p1 (by decide) (Or.inr rfl) (w_p1 (by decide) (Or.inr rfl) (w_p1 (by decide) (Or.inr rfl) (w_p1 (by decide) (Or.inr rfl) (w_p1 (by decide) (Or.inr rfl) (w_p1 (by decide) (Or.inr rfl) (w_p1 (by decide) (Or.inr rfl) e3890))))))), (w_p1 (by decide) (Or.inr rfl) (w_p1 (by decide) (Or.inr rfl) (w_p1 (by decide) (Or.inr rfl) (w_p1 (by decide) (Or.inr rfl) (w_p1 (by decide) (Or.inr rfl) (w_p1 (by decide) (Or.inr rfl) (w_p1 (by decide) (Or.inr rfl) e3891))))))), (w_e1 _ _ _), by omega⟩ ⟨by omega, by omega⟩
        · have c3917_ : v3909.toInt = v3913.toInt := en_i_ne_f c3917
          refine At.enter rfl ?_
          refine r_iconst 1 rfl ?_
          refine r_goto ?_
          refine At.enter rfl ?_
          refine r_istore _ rfl ?_
          refine r_iload (w_p1 (by decide) (Or.inr rfl) (w_e1 _ _ _)) ?_
          refine r_iconst (-1) rfl ?_
          refine r_ics 91 rfl (fun c4001 => ?_) (fun c4001 => ?_)
          · have c4001_ : v3909.toInt = (-1) := en_i_eq_t c4001
            refine At.enter rfl ?_
            refine r_iconst 0 rfl ?_
            refine Ar.fall 112 rfl ?_
            refine At.enter rfl ?_
            refine r_istore _ rfl ?_
            refine r_iload (w_e1 _ _ _) ?_
            refine r_ift (by decide) ?_
            refine At.enter rfl ?_
            refine r_iload (w_e1 _ _ _) ?_
            refine r_iff 174 rfl (by decide) ?_
            refine At.enter rfl ?_
            refine r_aload_n (w_p1 (by decide) (Or.inr rfl) (w_p1 (by decide) (Or.inr rfl) (w_p1 (by decide) (Or.inr rfl) (w_p1 (by decide) (Or.inr rfl) (w_p1 (by decide) (Or.inr rfl) e3889))))) ?_
            refine q_getR (Sh.ref hI3911.1 kx_188 rfl) ?_
            refine r_iload (w_p1 (by decide) (Or.inr rfl) (w_p1 (by decide) (Or.inr rfl) (w_p1 (by decide) (Or.inr rfl) (w_p1 (by decide) (Or.inr rfl) (w_e1 _ _ _))))) ?_
            refine r_dup2 ⟨rfl, rfl⟩ ?_
            obtain ⟨v4002, hv4002⟩ : ∃ v, eA g3883 198 v3900.toInt = v := ⟨_, rfl⟩
            refine q_iald (Sh.arr hI3911.1 ka_198) v3900.toInt rfl (by omega) v4002 ((eA_c (hF3912.2.1 198 (by decide))).trans hv4002) ?_
            refine r_iconst 1 rfl ?_
            refine q_iaddO (fun v4003 _ => ?_)
            refine q_iast (Sh.arr hI3911.1 ka_198) (v3900.toInt) rfl (by omega) ?_
            have hI4004 := HI.wA0 hI3911 ka_198 (p := 198) rfl rfl (v3900.toInt) (v4003)
            have hF4005 := Fr.wA (p := 198) (j := v3900.toInt) (v := v4003) hF3915 rfl
            refine r_aload_n (w_p1 (by decide) (Or.inr rfl) (w_p1 (by decide) (Or.inr rfl) (w_p1 (by decide) (Or.inr rfl) (w_p1 (by decide) (Or.inr rfl) (w_p1 (by decide) (Or.inr rfl) e3889))))) ?_
            refine q_getR (Sh.ref hI4004.1 kx_188 rfl) ?_
            refine r_iload (w_p1 (by decide) (Or.inr rfl) (w_p1 (by decide) (Or.inr rfl) (w_p1 (by decide) (Or.inr rfl) (w_p1 (by decide) (Or.inr rfl) (w_e1 _ _ _))))) ?_
            refine r_dup2 ⟨rfl, rfl⟩ ?_
            obtain ⟨v4006, hv4006⟩ : ∃ v, eA g3883 197 v3900.toInt = v := ⟨_, rfl⟩
            refine q_iald (Sh.arr hI4004.1 ka_197) v3900.toInt rfl (by omega) v4006 ((eA_c ((gA_sA_ne (by decide)).trans (hF3912.2.1 197 (by decide)))).trans hv4006) ?_
            refine r_iconst 1 rfl ?_
            refine q_iaddO (fun v4007 _ => ?_)
            refine q_iast (Sh.arr hI4004.1 ka_197) (v3900.toInt) rfl (by omega) ?_
            have hI4008 := HI.wA0 hI4004 ka_197 (p := 197) rfl rfl (v3900.toInt) (v4007)
            have hF4009 := Fr.wA (p := 197) (j := v3900.toInt) (v := v4007) hF4005 rfl
            refine r_goto ?_
            refine At.enter rfl ?_
            refine q_iinc (w_p1 (by decide) (Or.inr rfl) (w_p1 (by decide) (Or.inr rfl) (w_p1 (by decide) (Or.inr rfl) (w_p1 (by decide) (Or.inr rfl) (w_p1 (by decide) (Or.inr rfl) e3892))))) (x3882.toInt + 1) rfl (by omega) (fun v4010 hv4010 => ?_)
            refine r_goto ?_
            exact ih3888 (8 - v4010.toInt) _ _ ⟨v4010, by first | rfl | omega, hI4008, hF4009, (w_p1 (by decide) (Or.inr rfl) (w_p1 (by decide) (Or.inr rfl) (w_p1 (by decide) (Or.inr rfl) (w_p1 (by decide) (Or.inr rfl) (w_p1 (by decide) (Or.inr rfl) (w_p1 (by decide) (Or.inr rfl) e3889)))))), (w_p1 (by decide) (Or.inr rfl) (w_p1 (by decide) (Or.inr rfl) (w_p1 (by decide) (Or.inr rfl) (w_p1 (by decide) (Or.inr rfl) (w_p1 (by decide) (Or.inr rfl) (w_p1 (by decide) (Or.inr rfl) e3890)))))), (w_p1 (by decide) (Or.inr rfl) (w_p1 (by decide) (Or.inr rfl) (w_p1 (by decide) (Or.inr rfl) (w_p1 (by decide) (Or.inr rfl) (w_p1 (by decide) (Or.inr rfl) (w_p1 (by decide) (Or.inr rfl) e3891)))))), (w_e1 _ _ _), by omega⟩ ⟨by omega, by omega⟩
          · have c4001_ : v3909.toInt ≠ (-1) := en_i_eq_f c4001
            refine At.enter rfl ?_
            refine r_iload (w_e1 _ _ _) ?_
            refine r_ift (by decide) ?_
            refine At.enter rfl ?_
            refine r_iconst 1 rfl ?_
            refine r_goto ?_
            refine At.enter rfl ?_
            refine r_istore _ rfl ?_
            refine r_iload (w_e1 _ _ _) ?_
            refine r_iff 119 rfl (by decide) ?_
            refine At.enter rfl ?_
            refine r_iload_n (w_p1 (by decide) (Or.inr rfl) (w_p1 (by decide) (Or.inr rfl) (w_p1 (by decide) (Or.inr rfl) (w_p1 (by decide) (Or.inr rfl) (w_p1 (by decide) (Or.inr rfl) e3891))))) ?_
            refine r_ifs 123 rfl (fun c4011 => ?_) (fun c4011 => ?_)
            · have c4011_ : v2717.toInt = 0 := en_k_eq_t c4011
              refine At.enter rfl ?_
              refine r_iload (w_e1 _ _ _) ?_
              refine r_ift (by decide) ?_
              refine At.enter rfl ?_
              refine r_aload_n (w_p1 (by decide) (Or.inr rfl) (w_p1 (by decide) (Or.inr rfl) (w_p1 (by decide) (Or.inr rfl) (w_p1 (by decide) (Or.inr rfl) (w_p1 (by decide) (Or.inr rfl) e3889))))) ?_
              refine r_iconst 1 rfl ?_
              refine q_putI (Sh.int hI3911.1 kx_188 rfl) rfl ?_
              have hI4012 := HI.wI0 hI3911 kx_188 rfl (p := 188) (b := 18) (v := 1) rfl
              have hF4013 := Fr.wI (p := 188) (b := 18) (v := 1) hF3915 rfl
              refine r_aload_n (w_p1 (by decide) (Or.inr rfl) (w_p1 (by decide) (Or.inr rfl) (w_p1 (by decide) (Or.inr rfl) (w_p1 (by decide) (Or.inr rfl) (w_p1 (by decide) (Or.inr rfl) e3889))))) ?_
              refine r_iload (w_p1 (by decide) (Or.inr rfl) (w_p1 (by decide) (Or.inr rfl) (w_p1 (by decide) (Or.inr rfl) (w_e1 _ _ _)))) ?_
              refine r_iload (w_p1 (by decide) (Or.inr rfl) (w_p1 (by decide) (Or.inr rfl) (w_p1 (by decide) (Or.inr rfl) (w_p1 (by decide) (Or.inr rfl) (w_e1 _ _ _))))) ?_
              refine r_callV 212 rfl [.ref 188, .int v3901, .int v3900] [] (Nat.le_of_ble_eq_true rfl) rfl (T_X1_giveUp_188 _ hI4012 v3901 v3900 (by omega)) ?_
              rintro _ _ ⟨g4014, rfl, hI4015, hF4016, rfl⟩
              refine At.stn ?_
              have hF4019 := Fr.tr hF4013 hF4016 rfl rfl
              refine At.enter rfl ?_
              refine r_aload_n (w_p1 (by decide) (Or.inr rfl) (w_p1 (by decide) (Or.inr rfl) (w_p1 (by decide) (Or.inr rfl) (w_p1 (by decide) (Or.inr rfl) (w_p1 (by decide) (Or.inr rfl) e3889))))) ?_
              refine q_getR (Sh.ref hI4015.1 kx_188 rfl) ?_
              refine r_iload (w_p1 (by decide) (Or.inr rfl) (w_p1 (by decide) (Or.inr rfl) (w_p1 (by decide) (Or.inr rfl) (w_p1 (by decide) (Or.inr rfl) (w_e1 _ _ _))))) ?_
              refine r_dup2 ⟨rfl, rfl⟩ ?_
              obtain ⟨v4020, hv4020⟩ : ∃ v, eA g3883 194 v3900.toInt = v := ⟨_, rfl⟩
              refine q_iald (Sh.arr hI4015.1 ka_194) v3900.toInt rfl (by omega) v4020 ((eA_c ((hF4016.2.1 194 (by decide)).trans ((gA_sI).trans (hF3912.2.1 194 (by decide))))).trans hv4020) ?_
              refine r_iconst 1 rfl ?_
              refine q_isubO (fun v4021 _ => ?_)
              refine q_iast (Sh.arr hI4015.1 ka_194) (v3900.toInt) rfl (by omega) ?_
              have hI4022 := HI.wA0 hI4015 ka_194 (p := 194) rfl rfl (v3900.toInt) (v4021)
              have hF4023 := Fr.wA (p := 194) (j := v3900.toInt) (v := v4021) hF4019 rfl
              refine r_iload (w_p1 (by decide) (Or.inr rfl) (w_e1 _ _ _)) ?_
              refine r_iff 228 rfl (by decide) ?_
              refine At.enter rfl ?_
              refine r_aload_n (w_p1 (by decide) (Or.inr rfl) (w_p1 (by decide) (Or.inr rfl) (w_p1 (by decide) (Or.inr rfl) (w_p1 (by decide) (Or.inr rfl) (w_p1 (by decide) (Or.inr rfl) e3889))))) ?_
              refine q_getR (Sh.ref hI4022.1 kx_188 rfl) ?_
              refine r_iload (w_p1 (by decide) (Or.inr rfl) (w_p1 (by decide) (Or.inr rfl) (w_p1 (by decide) (Or.inr rfl) (w_p1 (by decide) (Or.inr rfl) (w_e1 _ _ _))))) ?_
              refine r_iload_n (w_p1 (by decide) (Or.inr rfl) (w_p1 (by decide) (Or.inr rfl) (w_p1 (by decide) (Or.inr rfl) (w_p1 (by decide) (Or.inr rfl) (w_p1 (by decide) (Or.inr rfl) e3890))))) ?_
              refine q_iast (Sh.arr hI4022.1 ka_196) (v3900.toInt) rfl (by omega) ?_
              have hI4024 := HI.wA0 hI4022 ka_196 (p := 196) rfl rfl (v3900.toInt) (a1)
              have hF4025 := Fr.wA (p := 196) (j := v3900.toInt) (v := a1) hF4023 rfl
              refine r_goto ?_
              refine At.enter rfl ?_
              refine q_iinc (w_p1 (by decide) (Or.inr rfl) (w_p1 (by decide) (Or.inr rfl) (w_p1 (by decide) (Or.inr rfl) (w_p1 (by decide) (Or.inr rfl) (w_p1 (by decide) (Or.inr rfl) e3892))))) (x3882.toInt + 1) rfl (by omega) (fun v4026 hv4026 => ?_)
              refine r_goto ?_
              exact ih3888 (8 - v4026.toInt) _ _ ⟨v4026, by first | rfl | omega, hI4024, hF4025, (w_p1 (by decide) (Or.inr rfl) (w_p1 (by decide) (Or.inr rfl) (w_p1 (by decide) (Or.inr rfl) (w_p1 (by decide) (Or.inr rfl) (w_p1 (by decide) (Or.inr rfl) (w_p1 (by decide) (Or.inr rfl) e3889)))))), (w_p1 (by decide) (Or.inr rfl) (w_p1 (by decide) (Or.inr rfl) (w_p1 (by decide) (Or.inr rfl) (w_p1 (by decide) (Or.inr rfl) (w_p1 (by decide) (Or.inr rfl) (w_p1 (by decide) (Or.inr rfl) e3890)))))), (w_p1 (by decide) (Or.inr rfl) (w_p1 (by decide) (Or.inr rfl) (w_p1 (by decide) (Or.inr rfl) (w_p1 (by decide) (Or.inr rfl) (w_p1 (by decide) (Or.inr rfl) (w_p1 (by decide) (Or.inr rfl) e3891)))))), (w_e1 _ _ _), by omega⟩ ⟨by omega, by omega⟩
            · have c4011_ : v2717.toInt ≠ 0 := en_k_eq_f c4011
              refine At.enter rfl ?_
              refine r_aload_n (w_p1 (by decide) (Or.inr rfl) (w_p1 (by decide) (Or.inr rfl) (w_p1 (by decide) (Or.inr rfl) (w_p1 (by decide) (Or.inr rfl) (w_p1 (by decide) (Or.inr rfl) e3889))))) ?_
              refine q_getR (Sh.ref hI3911.1 kx_188 rfl) ?_
              refine r_iconst 2 rfl ?_
              refine r_iload (w_p1 (by decide) (Or.inr rfl) (w_p1 (by decide) (Or.inr rfl) (w_p1 (by decide) (Or.inr rfl) (w_p1 (by decide) (Or.inr rfl) (w_e1 _ _ _))))) ?_
              refine r_iload (w_p1 (by decide) (Or.inr rfl) (w_p1 (by decide) (Or.inr rfl) (w_p1 (by decide) (Or.inr rfl) (w_e1 _ _ _)))) ?_
              refine r_iload_n (w_p1 (by decide) (Or.inr rfl) (w_p1 (by decide) (Or.inr rfl) (w_p1 (by decide) (Or.inr rfl) (w_p1 (by decide) (Or.inr rfl) (w_p1 (by decide) (Or.inr rfl) e3890))))) ?_
              refine r_aload_n (w_p1 (by decide) (Or.inr rfl) (w_p1 (by decide) (Or.inr rfl) (w_p1 (by decide) (Or.inr rfl) (w_p1 (by decide) (Or.inr rfl) (w_p1 (by decide) (Or.inr rfl) e3889))))) ?_
              refine q_getR (Sh.ref hI3911.1 kx_188 rfl) ?_
              refine r_iload (w_p1 (by decide) (Or.inr rfl) (w_p1 (by decide) (Or.inr rfl) (w_p1 (by decide) (Or.inr rfl) (w_p1 (by decide) (Or.inr rfl) (w_e1 _ _ _))))) ?_
              obtain ⟨v4027, hv4027⟩ : ∃ v, eA g3883 198 v3900.toInt = v := ⟨_, rfl⟩
              refine q_iald (Sh.arr hI3911.1 ka_198) v3900.toInt rfl (by omega) v4027 ((eA_c (hF3912.2.1 198 (by decide))).trans hv4027) ?_
              refine r_aload_n (w_p1 (by decide) (Or.inr rfl) (w_p1 (by decide) (Or.inr rfl) (w_p1 (by decide) (Or.inr rfl) (w_p1 (by decide) (Or.inr rfl) (w_p1 (by decide) (Or.inr rfl) e3889))))) ?_
              refine q_getR (Sh.ref hI3911.1 kx_188 rfl) ?_
              refine r_iload (w_p1 (by decide) (Or.inr rfl) (w_p1 (by decide) (Or.inr rfl) (w_p1 (by decide) (Or.inr rfl) (w_e1 _ _ _)))) ?_
              obtain ⟨v4028, hv4028⟩ : ∃ v, eA g0 189 v3901.toInt = v := ⟨_, rfl⟩
              refine q_iald (Sh.arr hI3911.1 ka_189) v3901.toInt rfl (by omega) v4028 ((eA_c ((hF3912.2.1 189 (by decide)).trans (hF3885.2.1 189 (by decide)))).trans hv4028) ?_
              refine r_aload_n (w_p1 (by decide) (Or.inr rfl) (w_p1 (by decide) (Or.inr rfl) (w_p1 (by decide) (Or.inr rfl) (w_p1 (by decide) (Or.inr rfl) (w_p1 (by decide) (Or.inr rfl) e3889))))) ?_
              refine q_getR (Sh.ref hI3911.1 kx_188 rfl) ?_
              refine r_iload (w_p1 (by decide) (Or.inr rfl) (w_p1 (by decide) (Or.inr rfl) (w_p1 (by decide) (Or.inr rfl) (w_e1 _ _ _)))) ?_
              obtain ⟨v4029, hv4029⟩ : ∃ v, eA g0 190 v3901.toInt = v := ⟨_, rfl⟩
              refine q_iald (Sh.arr hI3911.1 ka_190) v3901.toInt rfl (by omega) v4029 ((eA_c ((hF3912.2.1 190 (by decide)).trans (hF3885.2.1 190 (by decide)))).trans hv4029) ?_
              refine r_callV 157 rfl [.ref 185, .int 2, .int v3900, .int v3901, .int a1, .int v4027, .int v4028, .int v4029] [] (Nat.le_of_ble_eq_true rfl) rfl (T_X3_tells_185 _ hI3911 2 v3900 v3901 a1 v4027 v4028 v4029) ?_
              rintro _ _ ⟨g4030, rfl, hI4031, hF4032, v4033, rfl, hr4034⟩
              refine At.stl ?_
              have hF4035 := Fr.tr hF3915 hF4032 rfl rfl
              refine At.enter rfl ?_
              refine r_lconst 0 rfl ?_
              refine r_lcmp _ rfl ?_
              refine r_ifs 162 rfl (fun c4036 => ?_) (fun c4036 => ?_)
              · have c4036_ : v4033.toInt ≠ 0 := en_j_ne_t c4036
                refine At.enter rfl ?_
                refine r_iconst 0 rfl ?_
                refine Ar.fall 167 rfl ?_
                refine At.enter rfl ?_
                refine r_istore _ rfl ?_
                refine Ar.fall 169 rfl ?_
                refine At.enter rfl ?_
                refine r_iload (w_e1 _ _ _) ?_
                refine r_iff 174 rfl (by decide) ?_
                refine At.enter rfl ?_
                refine r_aload_n (w_p1 (by decide) (Or.inr rfl) (w_p1 (by decide) (Or.inr rfl) (w_p1 (by decide) (Or.inr rfl) (w_p1 (by decide) (Or.inr rfl) (w_p1 (by decide) (Or.inr rfl) (w_p1 (by decide) (Or.inr rfl) e3889)))))) ?_
                refine q_getR (Sh.ref hI4031.1 kx_188 rfl) ?_
                refine r_iload (w_p1 (by decide) (Or.inr rfl) (w_p1 (by decide) (Or.inr rfl) (w_p1 (by decide) (Or.inr rfl) (w_p1 (by decide) (Or.inr rfl) (w_p1 (by decide) (Or.inr rfl) (w_e1 _ _ _)))))) ?_
                refine r_dup2 ⟨rfl, rfl⟩ ?_
                refine q_iald (Sh.arr hI4031.1 ka_198) v3900.toInt rfl (by omega) v4027 ((eA_c ((hF4032.2.1 198 (by decide)).trans (hF3912.2.1 198 (by decide)))).trans hv4027) ?_
                refine r_iconst 1 rfl ?_
                refine q_iaddO (fun v4037 _ => ?_)
                refine q_iast (Sh.arr hI4031.1 ka_198) (v3900.toInt) rfl (by omega) ?_
                have hI4038 := HI.wA0 hI4031 ka_198 (p := 198) rfl rfl (v3900.toInt) (v4037)
                have hF4039 := Fr.wA (p := 198) (j := v3900.toInt) (v := v4037) hF4035 rfl
                refine r_aload_n (w_p1 (by decide) (Or.inr rfl) (w_p1 (by decide) (Or.inr rfl) (w_p1 (by decide) (Or.inr rfl) (w_p1 (by decide) (Or.inr rfl) (w_p1 (by decide) (Or.inr rfl) (w_p1 (by decide) (Or.inr rfl) e3889)))))) ?_
                refine q_getR (Sh.ref hI4038.1 kx_188 rfl) ?_
                refine r_iload (w_p1 (by decide) (Or.inr rfl) (w_p1 (by decide) (Or.inr rfl) (w_p1 (by decide) (Or.inr rfl) (w_p1 (by decide) (Or.inr rfl) (w_p1 (by decide) (Or.inr rfl) (w_e1 _ _ _)))))) ?_
                refine r_dup2 ⟨rfl, rfl⟩ ?_
                obtain ⟨v4040, hv4040⟩ : ∃ v, eA g3883 197 v3900.toInt = v := ⟨_, rfl⟩
                refine q_iald (Sh.arr hI4038.1 ka_197) v3900.toInt rfl (by omega) v4040 ((eA_c ((gA_sA_ne (by decide)).trans ((hF4032.2.1 197 (by decide)).trans (hF3912.2.1 197 (by decide))))).trans hv4040) ?_
                refine r_iconst 1 rfl ?_
                refine q_iaddO (fun v4041 _ => ?_)
                refine q_iast (Sh.arr hI4038.1 ka_197) (v3900.toInt) rfl (by omega) ?_
                have hI4042 := HI.wA0 hI4038 ka_197 (p := 197) rfl rfl (v3900.toInt) (v4041)
                have hF4043 := Fr.wA (p := 197) (j := v3900.toInt) (v := v4041) hF4039 rfl
                refine r_goto ?_
                refine At.enter rfl ?_
                refine q_iinc (w_p1 (by decide) (Or.inr rfl) (w_p1 (by decide) (Or.inr rfl) (w_p1 (by decide) (Or.inr rfl) (w_p1 (by decide) (Or.inr rfl) (w_p1 (by decide) (Or.inr rfl) (w_p1 (by decide) (Or.inr rfl) e3892)))))) (x3882.toInt + 1) rfl (by omega) (fun v4044 hv4044 => ?_)
                refine r_goto ?_
                exact ih3888 (8 - v4044.toInt) _ _ ⟨v4044, by first | rfl | omega, hI4042, hF4043, (w_p1 (by decide) (Or.inr rfl) (w_p1 (by decide) (Or.inr rfl) (w_p1 (by decide) (Or.inr rfl) (w_p1 (by decide) (Or.inr rfl) (w_p1 (by decide) (Or.inr rfl) (w_p1 (by decide) (Or.inr rfl) (w_p1 (by decide) (Or.inr rfl) e3889))))))), (w_p1 (by decide) (Or.inr rfl) (w_p1 (by decide) (Or.inr rfl) (w_p1 (by decide) (Or.inr rfl) (w_p1 (by decide) (Or.inr rfl) (w_p1 (by decide) (Or.inr rfl) (w_p1 (by decide) (Or.inr rfl) (w_p1 (by decide) (Or.inr rfl) e3890))))))), (w_p1 (by decide) (Or.inr rfl) (w_p1 (by decide) (Or.inr rfl) (w_p1 (by decide) (Or.inr rfl) (w_p1 (by decide) (Or.inr rfl) (w_p1 (by decide) (Or.inr rfl) (w_p1 (by decide) (Or.inr rfl) (w_p1 (by decide) (Or.inr rfl) e3891))))))), (w_e1 _ _ _), by omega⟩ ⟨by omega, by omega⟩
              · have c4036_ : v4033.toInt = 0 := en_j_ne_f c4036
                refine At.enter rfl ?_
                refine r_iconst 1 rfl ?_
                refine r_goto ?_
                refine At.enter rfl ?_
                refine r_istore _ rfl ?_
                refine Ar.fall 169 rfl ?_
                refine At.enter rfl ?_
                refine r_iload (w_e1 _ _ _) ?_
                refine r_ift (by decide) ?_
                refine At.enter rfl ?_
                refine r_aload_n (w_p1 (by decide) (Or.inr rfl) (w_p1 (by decide) (Or.inr rfl) (w_p1 (by decide) (Or.inr rfl) (w_p1 (by decide) (Or.inr rfl) (w_p1 (by decide) (Or.inr rfl) (w_p1 (by decide) (Or.inr rfl) e3889)))))) ?_
                refine r_iconst 1 rfl ?_
                refine q_putI (Sh.int hI4031.1 kx_188 rfl) rfl ?_
                have hI4045 := HI.wI0 hI4031 kx_188 rfl (p := 188) (b := 18) (v := 1) rfl
                have hF4046 := Fr.wI (p := 188) (b := 18) (v := 1) hF4035 rfl
                refine r_aload_n (w_p1 (by decide) (Or.inr rfl) (w_p1 (by decide) (Or.inr rfl) (w_p1 (by decide) (Or.inr rfl) (w_p1 (by decide) (Or.inr rfl) (w_p1 (by decide) (Or.inr rfl) (w_p1 (by decide) (Or.inr rfl) e3889)))))) ?_
                refine r_iload (w_p1 (by decide) (Or.inr rfl) (w_p1 (by decide) (Or.inr rfl) (w_p1 (by decide) (Or.inr rfl) (w_p1 (by decide) (Or.inr rfl) (w_e1 _ _ _))))) ?_
                refine r_iload (w_p1 (by decide) (Or.inr rfl) (w_p1 (by decide) (Or.inr rfl) (w_p1 (by decide) (Or.inr rfl) (w_p1 (by decide) (Or.inr rfl) (w_p1 (by decide) (Or.inr rfl) (w_e1 _ _ _)))))) ?_
                refine r_callV 212 rfl [.ref 188, .int v3901, .int v3900] [] (Nat.le_of_ble_eq_true rfl) rfl (T_X1_giveUp_188 _ hI4045 v3901 v3900 (by omega)) ?_
                rintro _ _ ⟨g4047, rfl, hI4048, hF4049, rfl⟩
                refine At.stn ?_
                have hF4052 := Fr.tr hF4046 hF4049 rfl rfl
                refine At.enter rfl ?_
                refine r_aload_n (w_p1 (by decide) (Or.inr rfl) (w_p1 (by decide) (Or.inr rfl) (w_p1 (by decide) (Or.inr rfl) (w_p1 (by decide) (Or.inr rfl) (w_p1 (by decide) (Or.inr rfl) (w_p1 (by decide) (Or.inr rfl) e3889)))))) ?_
                refine q_getR (Sh.ref hI4048.1 kx_188 rfl) ?_
                refine r_iload (w_p1 (by decide) (Or.inr rfl) (w_p1 (by decide) (Or.inr rfl) (w_p1 (by decide) (Or.inr rfl) (w_p1 (by decide) (Or.inr rfl) (w_p1 (by decide) (Or.inr rfl) (w_e1 _ _ _)))))) ?_
                refine r_dup2 ⟨rfl, rfl⟩ ?_
                obtain ⟨v4053, hv4053⟩ : ∃ v, eA g3883 194 v3900.toInt = v := ⟨_, rfl⟩
                refine q_iald (Sh.arr hI4048.1 ka_194) v3900.toInt rfl (by omega) v4053 ((eA_c ((hF4049.2.1 194 (by decide)).trans ((gA_sI).trans ((hF4032.2.1 194 (by decide)).trans (hF3912.2.1 194 (by decide)))))).trans hv4053) ?_
                refine r_iconst 1 rfl ?_
                refine q_isubO (fun v4054 _ => ?_)
                refine q_iast (Sh.arr hI4048.1 ka_194) (v3900.toInt) rfl (by omega) ?_
                have hI4055 := HI.wA0 hI4048 ka_194 (p := 194) rfl rfl (v3900.toInt) (v4054)
                have hF4056 := Fr.wA (p := 194) (j := v3900.toInt) (v := v4054) hF4052 rfl
                refine r_iload (w_p1 (by decide) (Or.inr rfl) (w_p1 (by decide) (Or.inr rfl) (w_e1 _ _ _))) ?_
                refine r_iff 228 rfl (by decide) ?_
                refine At.enter rfl ?_
                refine r_aload_n (w_p1 (by decide) (Or.inr rfl) (w_p1 (by decide) (Or.inr rfl) (w_p1 (by decide) (Or.inr rfl) (w_p1 (by decide) (Or.inr rfl) (w_p1 (by decide) (Or.inr rfl) (w_p1 (by decide) (Or.inr rfl) e3889)))))) ?_
                refine q_getR (Sh.ref hI4055.1 kx_188 rfl) ?_
                refine r_iload (w_p1 (by decide) (Or.inr rfl) (w_p1 (by decide) (Or.inr rfl) (w_p1 (by decide) (Or.inr rfl) (w_p1 (by decide) (Or.inr rfl) (w_p1 (by decide) (Or.inr rfl) (w_e1 _ _ _)))))) ?_
                refine r_iload_n (w_p1 (by decide) (Or.inr rfl) (w_p1 (by decide) (Or.inr rfl) (w_p1 (by decide) (Or.inr rfl) (w_p1 (by decide) (Or.inr rfl) (w_p1 (by decide) (Or.inr rfl) (w_p1 (by decide) (Or.inr rfl) e3890)))))) ?_
                refine q_iast (Sh.arr hI4055.1 ka_196) (v3900.toInt) rfl (by omega) ?_
                have hI4057 := HI.wA0 hI4055 ka_196 (p := 196) rfl rfl (v3900.toInt) (a1)
                have hF4058 := Fr.wA (p := 196) (j := v3900.toInt) (v := a1) hF4056 rfl
                refine r_goto ?_
                refine At.enter rfl ?_
                refine q_iinc (w_p1 (by decide) (Or.inr rfl) (w_p1 (by decide) (Or.inr rfl) (w_p1 (by decide) (Or.inr rfl) (w_p1 (by decide) (Or.inr rfl) (w_p1 (by decide) (Or.inr rfl) (w_p1 (by decide) (Or.inr rfl) e3892)))))) (x3882.toInt + 1) rfl (by omega) (fun v4059 hv4059 => ?_)
                refine r_goto ?_
                exact ih3888 (8 - v4059.toInt) _ _ ⟨v4059, by first | rfl | omega, hI4057, hF4058, (w_p1 (by decide) (Or.inr rfl) (w_p1 (by decide) (Or.inr rfl) (w_p1 (by decide) (Or.inr rfl) (w_p1 (by decide) (Or.inr rfl) (w_p1 (by decide) (Or.inr rfl) (w_p1 (by decide) (Or.inr rfl) (w_p1 (by decide) (Or.inr rfl) e3889))))))), (w_p1 (by decide) (Or.inr rfl) (w_p1 (by decide) (Or.inr rfl) (w_p1 (by decide) (Or.inr rfl) (w_p1 (by decide) (Or.inr rfl) (w_p1 (by decide) (Or.inr rfl) (w_p1 (by decide) (Or.inr rfl) (w_p1 (by decide) (Or.inr rfl) e3890))))))), (w_p1 (by decide) (Or.inr rfl) (w_p1 (by decide) (Or.inr rfl) (w_p1 (by decide) (Or.inr rfl) (w_p1 (by decide) (Or.inr rfl) (w_p1 (by decide) (Or.inr rfl) (w_p1 (by decide) (Or.inr rfl) (w_p1 (by decide) (Or.inr rfl) e3891))))))), (w_e1 _ _ _), by omega⟩ ⟨by omega, by omega⟩

def F_X1_begin_188 : List (Nat × Nat) := []
def A_X1_begin_188 : List Nat := [194, 195, 196, 197, 198, 199, 200]
set_option maxRecDepth 100000 in
set_option maxHeartbeats 4000000 in
theorem T_X1_begin_188 (d : Nat) {N : Nat} {g0 : List en_E} (hI0 : HI g0) : Ev (d + 2) 23 [.ref 188] (g0, N) (fun w h' => ∃ g', h' = (g', N) ∧ HI g' ∧ Fr F_X1_begin_188 A_X1_begin_188 g0 g' ∧ w = none) := by
  have hF0 : Fr F_X1_begin_188 A_X1_begin_188 g0 g0 := Fr.rf
  refine Ev.mk rfl rfl ⟨Nat.le_of_ble_eq_true rfl, Or.inr (q_rc hI0.1 kx_188 rfl)⟩ ?_
  show At _ none _ _ (0, [(0, .ref 188)], [], (_, _)) _
  refine At.enter rfl ?_
  refine r_aload_n rfl ?_
  refine q_getR (Sh.ref hI0.1 kx_188 rfl) ?_
  refine r_iconst (-1) rfl ?_
  refine q_inlS 8 rfl [.ref 195, .int (-1)] [] (Nat.le_of_ble_eq_true rfl) rfl ?_
  refine Ev.mk rfl rfl ⟨Nat.le_of_ble_eq_true rfl, Or.inl rfl⟩ ?_
  show At _ none _ _ (0, [(0, .ref 195), (1, .int (-1))], [], (_, _)) _
  refine At.enter rfl ?_
  refine r_iconst 0 rfl ?_
  refine r_istore_n ([(2, .int 0), (0, .ref 195), (1, .int (-1))]) rfl ?_
  refine r_aload_n rfl ?_
  refine r_alen (Sh.arr hI0.1 ka_195).1 (by decide) 8 (by unfold en_sz; dsimp only; rw [(Sh.arr hI0.1 ka_195).2]; rfl) ?_
  refine r_istore_n ([(3, .int 8), (2, .int 0), (0, .ref 195), (1, .int (-1))]) rfl ?_
  refine Ar.fall 5 rfl ?_
  have z_11715 : (0 : Int32).toInt = 0 := rfl
  refine w_loopI (fun n_ l_ g_ => ∃ x11703 : Int32, n_ = 8 - x11703.toInt ∧ HI g_ ∧ Fr F_X1_begin_188 A_X1_begin_188 g0 g_ ∧ en_get 0 l_ = some (.ref 195) ∧ en_get 1 l_ = some (.int (-1)) ∧ en_get 2 l_ = some (.int x11703) ∧ en_get 3 l_ = some (.int 8) ∧ (0 ≤ x11703.toInt ∧ x11703.toInt ≤ 8)) ?_ (8 - 0) ⟨0, by first | rfl | omega, hI0, hF0, rfl, rfl, rfl, rfl, by decide⟩
  rintro n11708 l11707 g11704 ⟨x11703, hm11716, hI11705, hF11706, e11710, e11711, e11712, e11713, r11714⟩ ih11709
  refine At.enter rfl ?_
  refine r_iload_n e11712 ?_
  refine r_iload_n e11713 ?_
  refine r_ics 10 rfl (fun c11717 => ?_) (fun c11717 => ?_)
  · have c11717_ : x11703.toInt ≥ 8 := en_i_ge_t c11717
    refine At.enter rfl ?_
    refine q_vret ?_
    refine At.enter rfl ?_
    refine r_aload_n rfl ?_
    refine q_getR (Sh.ref hI11705.1 kx_188 rfl) ?_
    refine r_iconst (-1) rfl ?_
    refine q_inlS 16 rfl [.ref 196, .int (-1)] [] (Nat.le_of_ble_eq_true rfl) rfl ?_
    refine Ev.mk rfl rfl ⟨Nat.le_of_ble_eq_true rfl, Or.inl rfl⟩ ?_
    show At _ none _ _ (0, [(0, .ref 196), (1, .int (-1))], [], (_, _)) _
    refine At.enter rfl ?_
    refine r_iconst 0 rfl ?_
    refine r_istore_n ([(2, .int 0), (0, .ref 196), (1, .int (-1))]) rfl ?_
    refine r_aload_n rfl ?_
    refine r_alen (Sh.arr hI11705.1 ka_196).1 (by decide) 8 (by unfold en_sz; dsimp only; rw [(Sh.arr hI11705.1 ka_196).2]; rfl) ?_
    refine r_istore_n ([(3, .int 8), (2, .int 0), (0, .ref 196), (1, .int (-1))]) rfl ?_
    refine Ar.fall 5 rfl ?_
    have z_12896 : (0 : Int32).toInt = 0 := rfl
    refine w_loopI (fun n_ l_ g_ => ∃ x12884 : Int32, n_ = 8 - x12884.toInt ∧ HI g_ ∧ Fr F_X1_begin_188 A_X1_begin_188 g0 g_ ∧ en_get 0 l_ = some (.ref 196) ∧ en_get 1 l_ = some (.int (-1)) ∧ en_get 2 l_ = some (.int x12884) ∧ en_get 3 l_ = some (.int 8) ∧ (0 ≤ x12884.toInt ∧ x12884.toInt ≤ 8)) ?_ (8 - 0) ⟨0, by first | rfl | omega, hI11705, hF11706, rfl, rfl, rfl, rfl, by decide⟩
    rintro n12889 l12888 g12885 ⟨x12884, hm12897, hI12886, hF12887, e12891, e12892, e12893, e12894, r12895⟩ ih12890
    refine At.enter rfl ?_
    refine r_iload_n e12893 ?_
    refine r_iload_n e12894 ?_
    refine r_ics 10 rfl (fun c12898 => ?_) (fun c12898 => ?_)
    · have c12898_ : x12884.toInt ≥ 8 := en_i_ge_t c12898
      refine At.enter rfl ?_
      refine q_vret ?_
      refine At.enter rfl ?_
      refine r_aload_n rfl ?_
      refine q_getR (Sh.ref hI12886.1 kx_188 rfl) ?_
      refine r_iconst 0 rfl ?_
      refine q_inlS 24 rfl [.ref 198, .int 0] [] (Nat.le_of_ble_eq_true rfl) rfl ?_
      refine Ev.mk rfl rfl ⟨Nat.le_of_ble_eq_true rfl, Or.inl rfl⟩ ?_
      show At _ none _ _ (0, [(0, .ref 198), (1, .int 0)], [], (_, _)) _
      refine At.enter rfl ?_
      refine r_iconst 0 rfl ?_
      refine r_istore_n ([(2, .int 0), (0, .ref 198), (1, .int 0)]) rfl ?_
      refine r_aload_n rfl ?_
      refine r_alen (Sh.arr hI12886.1 ka_198).1 (by decide) 8 (by unfold en_sz; dsimp only; rw [(Sh.arr hI12886.1 ka_198).2]; rfl) ?_
      refine r_istore_n ([(3, .int 8), (2, .int 0), (0, .ref 198), (1, .int 0)]) rfl ?_
      refine Ar.fall 5 rfl ?_
      have z_13485 : (0 : Int32).toInt = 0 := rfl
      refine w_loopI (fun n_ l_ g_ => ∃ x13473 : Int32, n_ = 8 - x13473.toInt ∧ HI g_ ∧ Fr F_X1_begin_188 A_X1_begin_188 g0 g_ ∧ en_get 0 l_ = some (.ref 198) ∧ en_get 1 l_ = some (.int 0) ∧ en_get 2 l_ = some (.int x13473) ∧ en_get 3 l_ = some (.int 8) ∧ (0 ≤ x13473.toInt ∧ x13473.toInt ≤ 8)) ?_ (8 - 0) ⟨0, by first | rfl | omega, hI12886, hF12887, rfl, rfl, rfl, rfl, by decide⟩
      rintro n13478 l13477 g13474 ⟨x13473, hm13486, hI13475, hF13476, e13480, e13481, e13482, e13483, r13484⟩ ih13479
      refine At.enter rfl ?_
      refine r_iload_n e13482 ?_
      refine r_iload_n e13483 ?_
      refine r_ics 10 rfl (fun c13487 => ?_) (fun c13487 => ?_)
      · have c13487_ : x13473.toInt ≥ 8 := en_i_ge_t c13487
        refine At.enter rfl ?_
        refine q_vret ?_
        refine At.enter rfl ?_
        refine r_aload_n rfl ?_
        refine q_getR (Sh.ref hI13475.1 kx_188 rfl) ?_
        refine r_iconst 0 rfl ?_
        refine q_inlS 32 rfl [.ref 197, .int 0] [] (Nat.le_of_ble_eq_true rfl) rfl ?_
        refine Ev.mk rfl rfl ⟨Nat.le_of_ble_eq_true rfl, Or.inl rfl⟩ ?_
        show At _ none _ _ (0, [(0, .ref 197), (1, .int 0)], [], (_, _)) _
        refine At.enter rfl ?_
        refine r_iconst 0 rfl ?_
        refine r_istore_n ([(2, .int 0), (0, .ref 197), (1, .int 0)]) rfl ?_
        refine r_aload_n rfl ?_
        refine r_alen (Sh.arr hI13475.1 ka_197).1 (by decide) 8 (by unfold en_sz; dsimp only; rw [(Sh.arr hI13475.1 ka_197).2]; rfl) ?_
        refine r_istore_n ([(3, .int 8), (2, .int 0), (0, .ref 197), (1, .int 0)]) rfl ?_
        refine Ar.fall 5 rfl ?_
        have z_13778 : (0 : Int32).toInt = 0 := rfl
        refine w_loopI (fun n_ l_ g_ => ∃ x13766 : Int32, n_ = 8 - x13766.toInt ∧ HI g_ ∧ Fr F_X1_begin_188 A_X1_begin_188 g0 g_ ∧ en_get 0 l_ = some (.ref 197) ∧ en_get 1 l_ = some (.int 0) ∧ en_get 2 l_ = some (.int x13766) ∧ en_get 3 l_ = some (.int 8) ∧ (0 ≤ x13766.toInt ∧ x13766.toInt ≤ 8)) ?_ (8 - 0) ⟨0, by first | rfl | omega, hI13475, hF13476, rfl, rfl, rfl, rfl, by decide⟩
        rintro n13771 l13770 g13767 ⟨x13766, hm13779, hI13768, hF13769, e13773, e13774, e13775, e13776, r13777⟩ ih13772
        refine At.enter rfl ?_
        refine r_iload_n e13775 ?_
        refine r_iload_n e13776 ?_
        refine r_ics 10 rfl (fun c13780 => ?_) (fun c13780 => ?_)
        · have c13780_ : x13766.toInt ≥ 8 := en_i_ge_t c13780
          refine At.enter rfl ?_
          refine q_vret ?_
          refine At.enter rfl ?_
          refine r_aload_n rfl ?_
          refine q_getR (Sh.ref hI13768.1 kx_188 rfl) ?_
          refine r_iconst 0 rfl ?_
          refine q_inlS 40 rfl [.ref 199, .int 0] [] (Nat.le_of_ble_eq_true rfl) rfl ?_
          refine Ev.mk rfl rfl ⟨Nat.le_of_ble_eq_true rfl, Or.inl rfl⟩ ?_
          show At _ none _ _ (0, [(0, .ref 199), (1, .int 0)], [], (_, _)) _
          refine At.enter rfl ?_
          refine r_iconst 0 rfl ?_
          refine r_istore_n ([(2, .int 0), (0, .ref 199), (1, .int 0)]) rfl ?_
          refine r_aload_n rfl ?_
          refine r_alen (Sh.arr hI13768.1 ka_199).1 (by decide) 12 (by unfold en_sz; dsimp only; rw [(Sh.arr hI13768.1 ka_199).2]; rfl) ?_
          refine r_istore_n ([(3, .int 12), (2, .int 0), (0, .ref 199), (1, .int 0)]) rfl ?_
          refine Ar.fall 5 rfl ?_
          have z_13929 : (0 : Int32).toInt = 0 := rfl
          refine w_loopI (fun n_ l_ g_ => ∃ x13917 : Int32, n_ = 12 - x13917.toInt ∧ HI g_ ∧ Fr F_X1_begin_188 A_X1_begin_188 g0 g_ ∧ en_get 0 l_ = some (.ref 199) ∧ en_get 1 l_ = some (.int 0) ∧ en_get 2 l_ = some (.int x13917) ∧ en_get 3 l_ = some (.int 12) ∧ (0 ≤ x13917.toInt ∧ x13917.toInt ≤ 12)) ?_ (12 - 0) ⟨0, by first | rfl | omega, hI13768, hF13769, rfl, rfl, rfl, rfl, by decide⟩
          rintro n13922 l13921 g13918 ⟨x13917, hm13930, hI13919, hF13920, e13924, e13925, e13926, e13927, r13928⟩ ih13923
          refine At.enter rfl ?_
          refine r_iload_n e13926 ?_
          refine r_iload_n e13927 ?_
          refine r_ics 10 rfl (fun c13931 => ?_) (fun c13931 => ?_)
          · have c13931_ : x13917.toInt ≥ 12 := en_i_ge_t c13931
            refine At.enter rfl ?_
            refine q_vret ?_
            refine At.enter rfl ?_
            refine r_aload_n rfl ?_
            refine q_getR (Sh.ref hI13919.1 kx_188 rfl) ?_
            refine r_iconst 0 rfl ?_
            refine q_inlS 48 rfl [.ref 200, .int 0] [] (Nat.le_of_ble_eq_true rfl) rfl ?_
            refine Ev.mk rfl rfl ⟨Nat.le_of_ble_eq_true rfl, Or.inl rfl⟩ ?_
            show At _ none _ _ (0, [(0, .ref 200), (1, .int 0)], [], (_, _)) _
            refine At.enter rfl ?_
            refine r_iconst 0 rfl ?_
            refine r_istore_n ([(2, .int 0), (0, .ref 200), (1, .int 0)]) rfl ?_
            refine r_aload_n rfl ?_
            refine r_alen (Sh.arr hI13919.1 ka_200).1 (by decide) 12 (by unfold en_sz; dsimp only; rw [(Sh.arr hI13919.1 ka_200).2]; rfl) ?_
            refine r_istore_n ([(3, .int 12), (2, .int 0), (0, .ref 200), (1, .int 0)]) rfl ?_
            refine Ar.fall 5 rfl ?_
            have z_14003 : (0 : Int32).toInt = 0 := rfl
            refine w_loopI (fun n_ l_ g_ => ∃ x13991 : Int32, n_ = 12 - x13991.toInt ∧ HI g_ ∧ Fr F_X1_begin_188 A_X1_begin_188 g0 g_ ∧ en_get 0 l_ = some (.ref 200) ∧ en_get 1 l_ = some (.int 0) ∧ en_get 2 l_ = some (.int x13991) ∧ en_get 3 l_ = some (.int 12) ∧ (0 ≤ x13991.toInt ∧ x13991.toInt ≤ 12)) ?_ (12 - 0) ⟨0, by first | rfl | omega, hI13919, hF13920, rfl, rfl, rfl, rfl, by decide⟩
            rintro n13996 l13995 g13992 ⟨x13991, hm14004, hI13993, hF13994, e13998, e13999, e14000, e14001, r14002⟩ ih13997
            refine At.enter rfl ?_
            refine r_iload_n e14000 ?_
            refine r_iload_n e14001 ?_
            refine r_ics 10 rfl (fun c14005 => ?_) (fun c14005 => ?_)
            · have c14005_ : x13991.toInt ≥ 12 := en_i_ge_t c14005
              refine At.enter rfl ?_
              refine q_vret ?_
              refine At.enter rfl ?_
              refine r_aload_n rfl ?_
              refine q_getR (Sh.ref hI13993.1 kx_188 rfl) ?_
              refine r_iconst 0 rfl ?_
              refine r_aload_n rfl ?_
              refine q_getR (Sh.ref hI13993.1 kx_188 rfl) ?_
              refine r_iconst 0 rfl ?_
              refine r_bipush 8 rfl ?_
              have zv14006 : (0 : Int32).toInt = 0 := rfl
              have zv14007 : (0 : Int32).toInt = 0 := rfl
              have zv14008 : (8 : Int32).toInt = 8 := rfl
              refine q_cpy rfl (Nat.le_of_ble_eq_true rfl) (Sh.arr hI13993.1 ka_193) (Sh.arr hI13993.1 ka_194) ⟨by omega, by omega, by omega, by omega, by omega⟩ ?_
              have hI14009 := HI.cpy0 hI13993 ka_193 ka_194 rfl rfl ((0 : Int32).toInt.toNat) ((0 : Int32).toInt.toNat) ((8 : Int32).toInt.toNat) (by omega) (by omega)
              have hF14010 := Fr.cpy (p0 := 193) (p1 := 194) hF13994 rfl ((0 : Int32).toInt.toNat) ((0 : Int32).toInt.toNat) ((8 : Int32).toInt.toNat)
              refine r_vret ?_
              exact ⟨_, rfl, hI14009, hF14010, rfl⟩
            · have c14005_ : x13991.toInt < 12 := en_i_ge_f c14005
              refine At.enter rfl ?_
              refine r_aload_n e13998 ?_
              refine r_iload_n e14000 ?_
              refine r_iload_n e13999 ?_
              refine q_iast (Sh.arr hI13993.1 ka_200) (x13991.toInt) rfl (by omega) ?_
              have hI14011 := HI.wA0 hI13993 ka_200 (p := 200) rfl rfl (x13991.toInt) (0)
              have hF14012 := Fr.wA (p := 200) (j := x13991.toInt) (v := 0) hF13994 rfl
              refine q_iinc e14000 (x13991.toInt + 1) rfl (by omega) (fun v14013 hv14013 => ?_)
              refine r_goto ?_
              exact ih13997 (12 - v14013.toInt) _ _ ⟨v14013, by first | rfl | omega, hI14011, hF14012, (w_p1 (by decide) (Or.inr rfl) e13998), (w_p1 (by decide) (Or.inr rfl) e13999), (w_e1 _ _ _), (w_p1 (by decide) (Or.inr rfl) e14001), by omega⟩ ⟨by omega, by omega⟩
          · have c13931_ : x13917.toInt < 12 := en_i_ge_f c13931
            refine At.enter rfl ?_
            refine r_aload_n e13924 ?_
            refine r_iload_n e13926 ?_
            refine r_iload_n e13925 ?_
            refine q_iast (Sh.arr hI13919.1 ka_199) (x13917.toInt) rfl (by omega) ?_
            have hI14014 := HI.wA0 hI13919 ka_199 (p := 199) rfl rfl (x13917.toInt) (0)
            have hF14015 := Fr.wA (p := 199) (j := x13917.toInt) (v := 0) hF13920 rfl
            refine q_iinc e13926 (x13917.toInt + 1) rfl (by omega) (fun v14016 hv14016 => ?_)
            refine r_goto ?_
            exact ih13923 (12 - v14016.toInt) _ _ ⟨v14016, by first | rfl | omega, hI14014, hF14015, (w_p1 (by decide) (Or.inr rfl) e13924), (w_p1 (by decide) (Or.inr rfl) e13925), (w_e1 _ _ _), (w_p1 (by decide) (Or.inr rfl) e13927), by omega⟩ ⟨by omega, by omega⟩
        · have c13780_ : x13766.toInt < 8 := en_i_ge_f c13780
          refine At.enter rfl ?_
          refine r_aload_n e13773 ?_
          refine r_iload_n e13775 ?_
          refine r_iload_n e13774 ?_
          refine q_iast (Sh.arr hI13768.1 ka_197) (x13766.toInt) rfl (by omega) ?_
          have hI14017 := HI.wA0 hI13768 ka_197 (p := 197) rfl rfl (x13766.toInt) (0)
          have hF14018 := Fr.wA (p := 197) (j := x13766.toInt) (v := 0) hF13769 rfl
          refine q_iinc e13775 (x13766.toInt + 1) rfl (by omega) (fun v14019 hv14019 => ?_)
          refine r_goto ?_
          exact ih13772 (8 - v14019.toInt) _ _ ⟨v14019, by first | rfl | omega, hI14017, hF14018, (w_p1 (by decide) (Or.inr rfl) e13773), (w_p1 (by decide) (Or.inr rfl) e13774), (w_e1 _ _ _), (w_p1 (by decide) (Or.inr rfl) e13776), by omega⟩ ⟨by omega, by omega⟩
      · have c13487_ : x13473.toInt < 8 := en_i_ge_f c13487
        refine At.enter rfl ?_
        refine r_aload_n e13480 ?_
        refine r_iload_n e13482 ?_
        refine r_iload_n e13481 ?_
        refine q_iast (Sh.arr hI13475.1 ka_198) (x13473.toInt) rfl (by omega) ?_
        have hI14020 := HI.wA0 hI13475 ka_198 (p := 198) rfl rfl (x13473.toInt) (0)
        have hF14021 := Fr.wA (p := 198) (j := x13473.toInt) (v := 0) hF13476 rfl
        refine q_iinc e13482 (x13473.toInt + 1) rfl (by omega) (fun v14022 hv14022 => ?_)
        refine r_goto ?_
        exact ih13479 (8 - v14022.toInt) _ _ ⟨v14022, by first | rfl | omega, hI14020, hF14021, (w_p1 (by decide) (Or.inr rfl) e13480), (w_p1 (by decide) (Or.inr rfl) e13481), (w_e1 _ _ _), (w_p1 (by decide) (Or.inr rfl) e13483), by omega⟩ ⟨by omega, by omega⟩
    · have c12898_ : x12884.toInt < 8 := en_i_ge_f c12898
      refine At.enter rfl ?_
      refine r_aload_n e12891 ?_
      refine r_iload_n e12893 ?_
      refine r_iload_n e12892 ?_
      refine q_iast (Sh.arr hI12886.1 ka_196) (x12884.toInt) rfl (by omega) ?_
      have hI14023 := HI.wA0 hI12886 ka_196 (p := 196) rfl rfl (x12884.toInt) ((-1))
      have hF14024 := Fr.wA (p := 196) (j := x12884.toInt) (v := (-1)) hF12887 rfl
      refine q_iinc e12893 (x12884.toInt + 1) rfl (by omega) (fun v14025 hv14025 => ?_)
      refine r_goto ?_
      exact ih12890 (8 - v14025.toInt) _ _ ⟨v14025, by first | rfl | omega, hI14023, hF14024, (w_p1 (by decide) (Or.inr rfl) e12891), (w_p1 (by decide) (Or.inr rfl) e12892), (w_e1 _ _ _), (w_p1 (by decide) (Or.inr rfl) e12894), by omega⟩ ⟨by omega, by omega⟩
  · have c11717_ : x11703.toInt < 8 := en_i_ge_f c11717
    refine At.enter rfl ?_
    refine r_aload_n e11710 ?_
    refine r_iload_n e11712 ?_
    refine r_iload_n e11711 ?_
    refine q_iast (Sh.arr hI11705.1 ka_195) (x11703.toInt) rfl (by omega) ?_
    have hI14026 := HI.wA0 hI11705 ka_195 (p := 195) rfl rfl (x11703.toInt) ((-1))
    have hF14027 := Fr.wA (p := 195) (j := x11703.toInt) (v := (-1)) hF11706 rfl
    refine q_iinc e11712 (x11703.toInt + 1) rfl (by omega) (fun v14028 hv14028 => ?_)
    refine r_goto ?_
    exact ih11709 (8 - v14028.toInt) _ _ ⟨v14028, by first | rfl | omega, hI14026, hF14027, (w_p1 (by decide) (Or.inr rfl) e11710), (w_p1 (by decide) (Or.inr rfl) e11711), (w_e1 _ _ _), (w_p1 (by decide) (Or.inr rfl) e11713), by omega⟩ ⟨by omega, by omega⟩

def F_X1_runWhole_188 : List (Nat × Nat) := [(185, 3), (188, 16), (188, 18)]
def A_X1_runWhole_188 : List Nat := [194, 195, 196, 197, 198, 199, 200, 202, 203]
set_option maxRecDepth 100000 in
set_option maxHeartbeats 4000000 in
theorem T_X1_runWhole_188 (d : Nat) {N : Nat} {g0 : List en_E} (hI0 : HI g0) : Ev (d + 5) 18 [.ref 188] (g0, N) (fun w h' => ∃ g', h' = (g', N) ∧ HI g' ∧ Fr F_X1_runWhole_188 A_X1_runWhole_188 g0 g' ∧ w = none) := by
  have hF0 : Fr F_X1_runWhole_188 A_X1_runWhole_188 g0 g0 := Fr.rf
  refine Ev.mk rfl rfl ⟨Nat.le_of_ble_eq_true rfl, Or.inr (q_rc hI0.1 kx_188 rfl)⟩ ?_
  show At _ none _ _ (0, [(0, .ref 188)], [], (_, _)) _
  refine At.enter rfl ?_
  refine r_aload_n rfl ?_
  refine r_callV 4 rfl [.ref 188] [] (Nat.le_of_ble_eq_true rfl) rfl (T_X1_begin_188 _ hI0) ?_
  rintro _ _ ⟨g843, rfl, hI844, hF845, rfl⟩
  refine At.stn ?_
  have hF848 := Fr.tr hF0 hF845 rfl rfl
  refine At.enter rfl ?_
  refine r_iconst 0 rfl ?_
  refine r_istore_n ([(1, .int 0), (0, .ref 188)]) rfl ?_
  refine Ar.fall 6 rfl ?_
  have z_1237 : (0 : Int32).toInt = 0 := rfl
  refine w_loopI (fun n_ l_ g_ => ∃ x1227 : Int32, n_ = 100 - x1227.toInt ∧ HI g_ ∧ Fr F_X1_runWhole_188 A_X1_runWhole_188 g0 g_ ∧ en_get 0 l_ = some (.ref 188) ∧ en_get 1 l_ = some (.int x1227) ∧ (0 ≤ x1227.toInt ∧ x1227.toInt ≤ 100)) ?_ (100 - 0) ⟨0, by first | rfl | omega, hI844, hF848, rfl, rfl, by decide⟩
  rintro n1232 l1231 g1228 ⟨x1227, hm1238, hI1229, hF1230, e1234, e1235, r1236⟩ ih1233
  refine At.enter rfl ?_
  refine r_iload_n e1235 ?_
  refine r_bipush 100 rfl ?_
  refine r_ics 12 rfl (fun c1239 => ?_) (fun c1239 => ?_)
  · have c1239_ : x1227.toInt ≥ 100 := en_i_ge_t c1239
    refine At.enter rfl ?_
    refine r_vret ?_
    exact ⟨_, rfl, hI1229, hF1230, rfl⟩
  · have c1239_ : x1227.toInt < 100 := en_i_ge_f c1239
    refine At.enter rfl ?_
    refine r_aload_n e1234 ?_
    refine r_iload_n e1235 ?_
    refine r_callV 17 rfl [.ref 188, .int x1227] [] (Nat.le_of_ble_eq_true rfl) rfl (T_X1_arrive_188 _ hI1229 x1227) ?_
    rintro _ _ ⟨g1240, rfl, hI1241, hF1242, rfl⟩
    refine At.stn ?_
    have hF1245 := Fr.tr hF1230 hF1242 rfl rfl
    refine At.enter rfl ?_
    refine r_aload_n e1234 ?_
    refine r_iload_n e1235 ?_
    refine r_callV 22 rfl [.ref 188, .int x1227] [] (Nat.le_of_ble_eq_true rfl) rfl (T_X1_lineUp_188 _ hI1241 x1227) ?_
    rintro _ _ ⟨g1246, rfl, hI1247, hF1248, rfl⟩
    refine At.stn ?_
    have hF1251 := Fr.tr hF1245 hF1248 rfl rfl
    refine At.enter rfl ?_
    refine r_aload_n e1234 ?_
    refine r_iload_n e1235 ?_
    refine r_callV 27 rfl [.ref 188, .int x1227] [] (Nat.le_of_ble_eq_true rfl) rfl (T_X1_goOn_188 _ hI1247 x1227) ?_
    rintro _ _ ⟨g1252, rfl, hI1253, hF1254, rfl⟩
    refine At.stn ?_
    have hF1257 := Fr.tr hF1251 hF1254 rfl rfl
    refine At.enter rfl ?_
    refine r_aload_n e1234 ?_
    refine q_getR (Sh.ref hI1253.1 kx_188 rfl) ?_
    refine r_iconst 0 rfl ?_
    refine r_aload_n e1234 ?_
    refine q_getR (Sh.ref hI1253.1 kx_188 rfl) ?_
    refine r_iload_n e1235 ?_
    refine r_bipush 8 rfl ?_
    refine q_imul (x1227.toInt * 8) rfl (by omega) (fun v1258 hv1258 => ?_)
    refine r_bipush 8 rfl ?_
    have zv1259 : (0 : Int32).toInt = 0 := rfl
    have zv1260 : (8 : Int32).toInt = 8 := rfl
    refine q_cpy rfl (Nat.le_of_ble_eq_true rfl) (Sh.arr hI1253.1 ka_195) (Sh.arr hI1253.1 ka_203) ⟨by omega, by omega, by omega, by omega, by omega⟩ ?_
    have hI1261 := HI.cpy0 hI1253 ka_195 ka_203 rfl rfl ((0 : Int32).toInt.toNat) ((v1258 : Int32).toInt.toNat) ((8 : Int32).toInt.toNat) (by omega) (by omega)
    have hF1262 := Fr.cpy (p0 := 195) (p1 := 203) hF1257 rfl ((0 : Int32).toInt.toNat) ((v1258 : Int32).toInt.toNat) ((8 : Int32).toInt.toNat)
    refine q_iinc e1235 (x1227.toInt + 1) rfl (by omega) (fun v1263 hv1263 => ?_)
    refine r_goto ?_
    exact ih1233 (100 - v1263.toInt) _ _ ⟨v1263, by first | rfl | omega, hI1261, hF1262, (w_p1 (by decide) (Or.inr rfl) e1234), (w_e1 _ _ _), by omega⟩ ⟨by omega, by omega⟩

def F_X1_comeByNoon_188 : List (Nat × Nat) := []
def A_X1_comeByNoon_188 : List Nat := []
set_option maxRecDepth 100000 in
set_option maxHeartbeats 4000000 in
theorem T_X1_comeByNoon_188 (d : Nat) {N : Nat} {g0 : List en_E} (hI0 : HI g0) : Ev (d + 1) 32 [.ref 188] (g0, N) (fun w h' => ∃ g', h' = (g', N) ∧ HI g' ∧ Fr F_X1_comeByNoon_188 A_X1_comeByNoon_188 g0 g' ∧ ∃ r : Int32, w = some (.int r) ∧ True) := by
  have hF0 : Fr F_X1_comeByNoon_188 A_X1_comeByNoon_188 g0 g0 := Fr.rf
  refine Ev.mk rfl rfl ⟨Nat.le_of_ble_eq_true rfl, Or.inr (q_rc hI0.1 kx_188 rfl)⟩ ?_
  show At _ none _ _ (0, [(0, .ref 188)], [], (_, _)) _
  refine At.enter rfl ?_
  refine r_iconst 0 rfl ?_
  refine r_istore_n ([(1, .int 0), (0, .ref 188)]) rfl ?_
  refine r_iconst 0 rfl ?_
  refine r_istore_n ([(2, .int 0), (1, .int 0), (0, .ref 188)]) rfl ?_
  refine Ar.fall 4 rfl ?_
  have z_1193 : (0 : Int32).toInt = 0 := rfl
  have z_1194 : (0 : Int32).toInt = 0 := rfl
  refine w_loopI (fun n_ l_ g_ => ∃ x1181 : Int32, ∃ x1182 : Int32, n_ = 8 - x1182.toInt ∧ HI g_ ∧ Fr F_X1_comeByNoon_188 A_X1_comeByNoon_188 g0 g_ ∧ en_get 0 l_ = some (.ref 188) ∧ en_get 1 l_ = some (.int x1181) ∧ en_get 2 l_ = some (.int x1182) ∧ (0 ≤ x1182.toInt ∧ x1182.toInt ≤ 8)) ?_ (8 - 0) ⟨0, 0, by first | rfl | omega, hI0, hF0, rfl, rfl, rfl, by decide⟩
  rintro n1187 l1186 g1183 ⟨x1181, x1182, hm1195, hI1184, hF1185, e1189, e1190, e1191, r1192⟩ ih1188
  refine At.enter rfl ?_
  refine r_iload_n e1191 ?_
  refine r_aload_n e1189 ?_
  refine q_getR (Sh.ref hI1184.1 kx_188 rfl) ?_
  obtain ⟨v1196, hv1196⟩ : ∃ v, gI g0 1 4 = v := ⟨_, rfl⟩
  have rv1196 := RgF.at hI0.2.1 (p := 1) (b := 4) rfl
  rw [hv1196] at rv1196
  dsimp only at rv1196
  refine q_getI (Sh.int hI1184.1 kx_1 rfl) v1196 ((hF1185.1 1 4 (by decide)).trans hv1196) ?_
  have bv1198 := q_bnd x1182
  have bv1199 := q_bnd v1196
  refine r_ics 15 rfl (fun c1197 => ?_) (fun c1197 => ?_)
  · have c1197_ : x1182.toInt ≥ v1196.toInt := en_i_ge_t c1197
    refine At.enter rfl ?_
    refine r_iload_n e1190 ?_
    refine r_ireti ?_
    exact ⟨_, rfl, hI1184, hF1185, _, rfl, trivial⟩
  · have c1197_ : x1182.toInt < v1196.toInt := en_i_ge_f c1197
    refine At.enter rfl ?_
    refine r_aload_n e1189 ?_
    refine q_getR (Sh.ref hI1184.1 kx_188 rfl) ?_
    refine r_iload_n e1191 ?_
    obtain ⟨v1200, hv1200⟩ : ∃ v, eA g0 196 x1182.toInt = v := ⟨_, rfl⟩
    refine q_iald (Sh.arr hI1184.1 ka_196) x1182.toInt rfl (by omega) v1200 ((eA_c (hF1185.2.1 196 (by decide))).trans hv1200) ?_
    refine r_iconst (-1) rfl ?_
    refine r_ics 25 rfl (fun c1201 => ?_) (fun c1201 => ?_)
    · have c1201_ : v1200.toInt = (-1) := en_i_eq_t c1201
      refine At.enter rfl ?_
      refine q_iinc e1191 (x1182.toInt + 1) rfl (by omega) (fun v1202 hv1202 => ?_)
      refine r_goto ?_
      have bv1203 := q_bnd x1181
      exact ih1188 (8 - v1202.toInt) _ _ ⟨x1181, v1202, by first | rfl | omega, hI1184, hF1185, (w_p1 (by decide) (Or.inr rfl) e1189), (w_p1 (by decide) (Or.inr rfl) e1190), (w_e1 _ _ _), by omega⟩ ⟨by omega, by omega⟩
    · have c1201_ : v1200.toInt ≠ (-1) := en_i_eq_f c1201
      refine At.enter rfl ?_
      refine r_aload_n e1189 ?_
      refine q_getR (Sh.ref hI1184.1 kx_188 rfl) ?_
      refine r_iload_n e1191 ?_
      refine q_iald (Sh.arr hI1184.1 ka_196) x1182.toInt rfl (by omega) v1200 ((eA_c (hF1185.2.1 196 (by decide))).trans hv1200) ?_
      refine r_aload_n e1189 ?_
      refine q_getR (Sh.ref hI1184.1 kx_188 rfl) ?_
      obtain ⟨v1204, hv1204⟩ : ∃ v, gI g0 1 10 = v := ⟨_, rfl⟩
      refine q_getI (Sh.int hI1184.1 kx_1 rfl) v1204 ((hF1185.1 1 10 (by decide)).trans hv1204) ?_
      have bv1206 := q_bnd v1200
      have bv1207 := q_bnd v1204
      refine r_ics 41 rfl (fun c1205 => ?_) (fun c1205 => ?_)
      · have c1205_ : v1200.toInt > v1204.toInt := en_i_gt_t c1205
        refine At.enter rfl ?_
        refine q_iinc e1191 (x1182.toInt + 1) rfl (by omega) (fun v1208 hv1208 => ?_)
        refine r_goto ?_
        have bv1209 := q_bnd x1181
        exact ih1188 (8 - v1208.toInt) _ _ ⟨x1181, v1208, by first | rfl | omega, hI1184, hF1185, (w_p1 (by decide) (Or.inr rfl) e1189), (w_p1 (by decide) (Or.inr rfl) e1190), (w_e1 _ _ _), by omega⟩ ⟨by omega, by omega⟩
      · have c1205_ : v1200.toInt ≤ v1204.toInt := en_i_gt_f c1205
        refine At.enter rfl ?_
        refine q_iincO e1190 (fun v1210 _ => ?_)
        refine Ar.fall 44 rfl ?_
        refine At.enter rfl ?_
        refine q_iinc (w_p1 (by decide) (Or.inr rfl) e1191) (x1182.toInt + 1) rfl (by omega) (fun v1211 hv1211 => ?_)
        refine r_goto ?_
        have bv1212 := q_bnd v1210
        exact ih1188 (8 - v1211.toInt) _ _ ⟨v1210, v1211, by first | rfl | omega, hI1184, hF1185, (w_p1 (by decide) (Or.inr rfl) (w_p1 (by decide) (Or.inr rfl) e1189)), (w_p1 (by decide) (Or.inr rfl) (w_e1 _ _ _)), (w_e1 _ _ _), by omega⟩ ⟨by omega, by omega⟩

def F_X1_failures_188 : List (Nat × Nat) := []
def A_X1_failures_188 : List Nat := []
set_option maxRecDepth 100000 in
set_option maxHeartbeats 4000000 in
theorem T_X1_failures_188 (d : Nat) {N : Nat} {g0 : List en_E} (hI0 : HI g0) : Ev (d + 1) 33 [.ref 188] (g0, N) (fun w h' => ∃ g', h' = (g', N) ∧ HI g' ∧ Fr F_X1_failures_188 A_X1_failures_188 g0 g' ∧ ∃ r : Int32, w = some (.int r) ∧ True) := by
  have hF0 : Fr F_X1_failures_188 A_X1_failures_188 g0 g0 := Fr.rf
  refine Ev.mk rfl rfl ⟨Nat.le_of_ble_eq_true rfl, Or.inr (q_rc hI0.1 kx_188 rfl)⟩ ?_
  show At _ none _ _ (0, [(0, .ref 188)], [], (_, _)) _
  refine At.enter rfl ?_
  refine r_iconst 0 rfl ?_
  refine r_istore_n ([(1, .int 0), (0, .ref 188)]) rfl ?_
  refine r_iconst 0 rfl ?_
  refine r_istore_n ([(2, .int 0), (1, .int 0), (0, .ref 188)]) rfl ?_
  refine Ar.fall 4 rfl ?_
  have z_853 : (0 : Int32).toInt = 0 := rfl
  have z_854 : (0 : Int32).toInt = 0 := rfl
  refine w_loopI (fun n_ l_ g_ => ∃ x841 : Int32, ∃ x842 : Int32, n_ = 8 - x842.toInt ∧ HI g_ ∧ Fr F_X1_failures_188 A_X1_failures_188 g0 g_ ∧ en_get 0 l_ = some (.ref 188) ∧ en_get 1 l_ = some (.int x841) ∧ en_get 2 l_ = some (.int x842) ∧ (0 ≤ x842.toInt ∧ x842.toInt ≤ 8)) ?_ (8 - 0) ⟨0, 0, by first | rfl | omega, hI0, hF0, rfl, rfl, rfl, by decide⟩
  rintro n847 l846 g843 ⟨x841, x842, hm855, hI844, hF845, e849, e850, e851, r852⟩ ih848
  refine At.enter rfl ?_
  refine r_iload_n e851 ?_
  refine r_aload_n e849 ?_
  refine q_getR (Sh.ref hI844.1 kx_188 rfl) ?_
  obtain ⟨v856, hv856⟩ : ∃ v, gI g0 1 4 = v := ⟨_, rfl⟩
  have rv856 := RgF.at hI0.2.1 (p := 1) (b := 4) rfl
  rw [hv856] at rv856
  dsimp only at rv856
  refine q_getI (Sh.int hI844.1 kx_1 rfl) v856 ((hF845.1 1 4 (by decide)).trans hv856) ?_
  have bv858 := q_bnd x842
  have bv859 := q_bnd v856
  refine r_ics 15 rfl (fun c857 => ?_) (fun c857 => ?_)
  · have c857_ : x842.toInt ≥ v856.toInt := en_i_ge_t c857
    refine At.enter rfl ?_
    refine r_iload_n e850 ?_
    refine r_ireti ?_
    exact ⟨_, rfl, hI844, hF845, _, rfl, trivial⟩
  · have c857_ : x842.toInt < v856.toInt := en_i_ge_f c857
    refine At.enter rfl ?_
    refine r_aload_n e849 ?_
    refine q_getR (Sh.ref hI844.1 kx_188 rfl) ?_
    refine r_iload_n e851 ?_
    obtain ⟨v860, hv860⟩ : ∃ v, eA g0 196 x842.toInt = v := ⟨_, rfl⟩
    refine q_iald (Sh.arr hI844.1 ka_196) x842.toInt rfl (by omega) v860 ((eA_c (hF845.2.1 196 (by decide))).trans hv860) ?_
    refine r_iconst (-1) rfl ?_
    refine r_ics 25 rfl (fun c861 => ?_) (fun c861 => ?_)
    · have c861_ : v860.toInt ≠ (-1) := en_i_ne_t c861
      refine At.enter rfl ?_
      refine q_iinc e851 (x842.toInt + 1) rfl (by omega) (fun v862 hv862 => ?_)
      refine r_goto ?_
      have bv863 := q_bnd x841
      exact ih848 (8 - v862.toInt) _ _ ⟨x841, v862, by first | rfl | omega, hI844, hF845, (w_p1 (by decide) (Or.inr rfl) e849), (w_p1 (by decide) (Or.inr rfl) e850), (w_e1 _ _ _), by omega⟩ ⟨by omega, by omega⟩
    · have c861_ : v860.toInt = (-1) := en_i_ne_f c861
      refine At.enter rfl ?_
      refine q_iincO e850 (fun v864 _ => ?_)
      refine Ar.fall 28 rfl ?_
      refine At.enter rfl ?_
      refine q_iinc (w_p1 (by decide) (Or.inr rfl) e851) (x842.toInt + 1) rfl (by omega) (fun v865 hv865 => ?_)
      refine r_goto ?_
      have bv866 := q_bnd v864
      exact ih848 (8 - v865.toInt) _ _ ⟨v864, v865, by first | rfl | omega, hI844, hF845, (w_p1 (by decide) (Or.inr rfl) (w_p1 (by decide) (Or.inr rfl) e849)), (w_p1 (by decide) (Or.inr rfl) (w_e1 _ _ _)), (w_e1 _ _ _), by omega⟩ ⟨by omega, by omega⟩

def F_X1_handsToWant_204 : List (Nat × Nat) := []
def A_X1_handsToWant_204 : List Nat := []
set_option maxRecDepth 100000 in
set_option maxHeartbeats 4000000 in
theorem T_X1_handsToWant_204 (d : Nat) {N : Nat} {g0 : List en_E} (hI0 : HI g0) (a1 : Int32) : Ev (d + 2) 17 [.ref 204, .int a1] (g0, N) (fun w h' => ∃ g', h' = (g', N) ∧ HI g' ∧ Fr F_X1_handsToWant_204 A_X1_handsToWant_204 g0 g' ∧ ∃ r : Int32, w = some (.int r) ∧ ((-1) ≤ r.toInt ∧ r.toInt ≤ 11)) := by
  have hF0 : Fr F_X1_handsToWant_204 A_X1_handsToWant_204 g0 g0 := Fr.rf
  refine Ev.mk rfl rfl ⟨Nat.le_of_ble_eq_true rfl, Or.inr (q_rc hI0.1 kx_204 rfl)⟩ ?_
  show At _ none _ _ (0, [(0, .ref 204), (1, .int a1)], [], (_, _)) _
  refine At.enter rfl ?_
  refine r_aload_n rfl ?_
  refine q_getR (Sh.ref hI0.1 kx_204 rfl) ?_
  refine r_iload_n rfl ?_
  refine r_iconst 1 rfl ?_
  refine r_callV 9 rfl [.ref 1, .int a1, .int 1] [] (Nat.le_of_ble_eq_true rfl) rfl (T_X0_about_1 _ hI0 a1 1) ?_
  rintro _ _ ⟨g295, rfl, hI296, hF297, v298, rfl, hr299⟩
  refine At.sti ?_
  have hF300 := Fr.tr hF0 hF297 rfl rfl
  have zv301 : (1 : Int32).toInt = 1 := rfl
  refine At.enter rfl ?_
  refine r_istore_n ([(2, .int v298), (0, .ref 204), (1, .int a1)]) rfl ?_
  refine r_aload_n rfl ?_
  refine q_getR (Sh.ref hI296.1 kx_204 rfl) ?_
  refine r_iload_n rfl ?_
  refine r_iconst 2 rfl ?_
  refine r_callV 19 rfl [.ref 1, .int a1, .int 2] [] (Nat.le_of_ble_eq_true rfl) rfl (T_X0_about_1 _ hI296 a1 2) ?_
  rintro _ _ ⟨g302, rfl, hI303, hF304, v305, rfl, hr306⟩
  refine At.sti ?_
  have hF307 := Fr.tr hF300 hF304 rfl rfl
  have zv308 : (2 : Int32).toInt = 2 := rfl
  refine At.enter rfl ?_
  refine r_istore_n ([(3, .int v305), (2, .int v298), (0, .ref 204), (1, .int a1)]) rfl ?_
  refine r_iconst 0 rfl ?_
  refine r_istore ([(4, .int 0), (3, .int v305), (2, .int v298), (0, .ref 204), (1, .int a1)]) rfl ?_
  refine Ar.fall 23 rfl ?_
  have z_431 : (0 : Int32).toInt = 0 := rfl
  refine w_loopI (fun n_ l_ g_ => ∃ x417 : Int32, ∃ x418 : Int32, n_ = 12 - x418.toInt ∧ HI g_ ∧ Fr F_X1_handsToWant_204 A_X1_handsToWant_204 g0 g_ ∧ en_get 0 l_ = some (.ref 204) ∧ en_get 1 l_ = some (.int a1) ∧ en_get 2 l_ = some (.int x417) ∧ en_get 3 l_ = some (.int v305) ∧ en_get 4 l_ = some (.int x418) ∧ (0 ≤ x418.toInt ∧ x418.toInt ≤ 12)) ?_ (12 - 0) ⟨v298, 0, by first | rfl | omega, hI303, hF307, rfl, rfl, rfl, rfl, rfl, by decide⟩
  rintro n423 l422 g419 ⟨x417, x418, hm432, hI420, hF421, e425, e426, e427, e428, e429, r430⟩ ih424
  refine At.enter rfl ?_
  refine r_iload e429 ?_
  refine r_bipush 12 rfl ?_
  refine r_ics 30 rfl (fun c433 => ?_) (fun c433 => ?_)
  · have c433_ : x418.toInt ≥ 12 := en_i_ge_t c433
    refine At.enter rfl ?_
    refine r_iconst (-1) rfl ?_
    refine r_ireti ?_
    exact ⟨_, rfl, hI420, hF421, _, rfl, by decide⟩
  · have c433_ : x418.toInt < 12 := en_i_ge_f c433
    refine At.enter rfl ?_
    refine r_aload_n e425 ?_
    refine q_getR (Sh.ref hI420.1 kx_204 rfl) ?_
    refine r_iload_n e427 ?_
    refine q_inlV 38 rfl [.ref 1, .int x417] [] (Nat.le_of_ble_eq_true rfl) rfl ?_
    refine Ev.mk rfl rfl ⟨Nat.le_of_ble_eq_true rfl, Or.inr (q_rc hI420.1 kx_1 rfl)⟩ ?_
    show At _ none _ _ (0, [(0, .ref 1), (1, .int x417)], [], (_, _)) _
    refine At.enter rfl ?_
    refine r_iload_n rfl ?_
    refine r_ifs 4 rfl (fun c434 => ?_) (fun c434 => ?_)
    · have c434_ : x417.toInt < 0 := en_k_lt_t c434
      refine At.enter rfl ?_
      refine r_iconst 0 rfl ?_
      refine Ar.fall 17 rfl ?_
      refine At.enter rfl ?_
      refine q_iretz (by decide) ?_
      refine At.enter rfl ?_
      refine r_ift (by decide) ?_
      refine At.enter rfl ?_
      refine r_iconst (-1) rfl ?_
      refine r_ireti ?_
      exact ⟨_, rfl, hI420, hF421, _, rfl, by decide⟩
    · have c434_ : x417.toInt ≥ 0 := en_k_lt_f c434
      refine At.enter rfl ?_
      refine r_iload_n rfl ?_
      refine r_aload_n rfl ?_
      obtain ⟨v435, hv435⟩ : ∃ v, gI g0 1 0 = v := ⟨_, rfl⟩
      have rv435 := RgF.at hI0.2.1 (p := 1) (b := 0) rfl
      rw [hv435] at rv435
      dsimp only at rv435
      refine q_getI (Sh.int hI420.1 kx_1 rfl) v435 ((hF421.1 1 0 (by decide)).trans hv435) ?_
      have bv437 := q_bnd x417
      have bv438 := q_bnd v435
      refine r_ics 12 rfl (fun c436 => ?_) (fun c436 => ?_)
      · have c436_ : x417.toInt ≥ v435.toInt := en_i_ge_t c436
        refine At.enter rfl ?_
        refine r_iconst 0 rfl ?_
        refine Ar.fall 17 rfl ?_
        refine At.enter rfl ?_
        refine q_iretz (by decide) ?_
        refine At.enter rfl ?_
        refine r_ift (by decide) ?_
        refine At.enter rfl ?_
        refine r_iconst (-1) rfl ?_
        refine r_ireti ?_
        exact ⟨_, rfl, hI420, hF421, _, rfl, by decide⟩
      · have c436_ : x417.toInt < v435.toInt := en_i_ge_f c436
        refine At.enter rfl ?_
        refine r_iconst 1 rfl ?_
        refine r_goto ?_
        refine At.enter rfl ?_
        refine q_iretz (by decide) ?_
        refine At.enter rfl ?_
        refine r_iff 41 rfl (by decide) ?_
        refine At.enter rfl ?_
        refine r_iload_n e427 ?_
        refine r_iload_n e428 ?_
        refine r_ics 46 rfl (fun c439 => ?_) (fun c439 => ?_)
        · have c439_ : x417.toInt ≠ v305.toInt := en_i_ne_t c439
          refine At.enter rfl ?_
          refine r_aload_n e425 ?_
          refine q_getR (Sh.ref hI420.1 kx_204 rfl) ?_
          refine r_iload_n e427 ?_
          obtain ⟨v440, hv440⟩ : ∃ v, eA g0 208 x417.toInt = v := ⟨_, rfl⟩
          refine q_iald (Sh.arr hI420.1 ka_208) x417.toInt rfl (by omega) v440 ((eA_c (hF421.2.1 208 (by decide))).trans hv440) ?_
          refine r_istore_n _ rfl ?_
          refine q_iinc (w_p1 (by decide) (Or.inr rfl) e429) (x418.toInt + 1) rfl (by omega) (fun v441 hv441 => ?_)
          refine r_goto ?_
          have bv442 := q_bnd v440
          exact ih424 (12 - v441.toInt) _ _ ⟨v440, v441, by first | rfl | omega, hI420, hF421, (w_p1 (by decide) (Or.inr rfl) (w_p1 (by decide) (Or.inr rfl) e425)), (w_p1 (by decide) (Or.inr rfl) (w_p1 (by decide) (Or.inr rfl) e426)), (w_p1 (by decide) (Or.inr rfl) (w_e1 _ _ _)), (w_p1 (by decide) (Or.inr rfl) (w_p1 (by decide) (Or.inr rfl) e428)), (w_e1 _ _ _), by omega⟩ ⟨by omega, by omega⟩
        · have c439_ : x417.toInt = v305.toInt := en_i_ne_f c439
          refine At.enter rfl ?_
          refine r_iload e429 ?_
          refine r_ireti ?_
          exact ⟨_, rfl, hI420, hF421, _, rfl, by omega⟩

def F_X1_layOut_204 : List (Nat × Nat) := []
def A_X1_layOut_204 : List Nat := [205, 206, 207, 208, 209]
set_option maxRecDepth 100000 in
set_option maxHeartbeats 4000000 in
theorem T_X1_layOut_204 (d : Nat) {N : Nat} {g0 : List en_E} (hI0 : HI g0) (a1 : Int32) : Ev (d + 4) 16 [.ref 204, .int a1] (g0, N) (fun w h' => ∃ g', h' = (g', N) ∧ HI g' ∧ Fr F_X1_layOut_204 A_X1_layOut_204 g0 g' ∧ w = none) := by
  have hF0 : Fr F_X1_layOut_204 A_X1_layOut_204 g0 g0 := Fr.rf
  refine Ev.mk rfl rfl ⟨Nat.le_of_ble_eq_true rfl, Or.inr (q_rc hI0.1 kx_204 rfl)⟩ ?_
  show At _ none _ _ (0, [(0, .ref 204), (1, .int a1)], [], (_, _)) _
  refine At.enter rfl ?_
  refine r_aload_n rfl ?_
  refine q_getR (Sh.ref hI0.1 kx_204 rfl) ?_
  refine q_getR (Sh.ref hI0.1 kx_1 rfl) ?_
  refine r_iconst 0 rfl ?_
  refine r_aload_n rfl ?_
  refine q_getR (Sh.ref hI0.1 kx_204 rfl) ?_
  refine r_iconst 0 rfl ?_
  refine r_bipush 12 rfl ?_
  have zv4403 : (0 : Int32).toInt = 0 := rfl
  have zv4404 : (0 : Int32).toInt = 0 := rfl
  have zv4405 : (12 : Int32).toInt = 12 := rfl
  refine q_cpy rfl (Nat.le_of_ble_eq_true rfl) (Sh.arr hI0.1 ka_3) (Sh.arr hI0.1 ka_205) ⟨by omega, by omega, by omega, by omega, by omega⟩ ?_
  have hI4406 := HI.cpy0 hI0 ka_3 ka_205 rfl rfl ((0 : Int32).toInt.toNat) ((0 : Int32).toInt.toNat) ((12 : Int32).toInt.toNat) (by omega) (by omega)
  have hF4407 := Fr.cpy (p0 := 3) (p1 := 205) hF0 rfl ((0 : Int32).toInt.toNat) ((0 : Int32).toInt.toNat) ((12 : Int32).toInt.toNat)
  refine r_aload_n rfl ?_
  refine q_getR (Sh.ref hI4406.1 kx_204 rfl) ?_
  refine q_getR (Sh.ref hI4406.1 kx_1 rfl) ?_
  refine r_iconst 0 rfl ?_
  refine r_aload_n rfl ?_
  refine q_getR (Sh.ref hI4406.1 kx_204 rfl) ?_
  refine r_iconst 0 rfl ?_
  refine r_bipush 12 rfl ?_
  have zv4408 : (0 : Int32).toInt = 0 := rfl
  have zv4409 : (0 : Int32).toInt = 0 := rfl
  have zv4410 : (12 : Int32).toInt = 12 := rfl
  refine q_cpy rfl (Nat.le_of_ble_eq_true rfl) (Sh.arr hI4406.1 ka_4) (Sh.arr hI4406.1 ka_206) ⟨by omega, by omega, by omega, by omega, by omega⟩ ?_
  have hI4411 := HI.cpy0 hI4406 ka_4 ka_206 rfl rfl ((0 : Int32).toInt.toNat) ((0 : Int32).toInt.toNat) ((12 : Int32).toInt.toNat) (by omega) (by omega)
  have hF4412 := Fr.cpy (p0 := 4) (p1 := 206) hF4407 rfl ((0 : Int32).toInt.toNat) ((0 : Int32).toInt.toNat) ((12 : Int32).toInt.toNat)
  refine r_iconst 0 rfl ?_
  refine r_istore_n ([(2, .int 0), (0, .ref 204), (1, .int a1)]) rfl ?_
  refine Ar.fall 38 rfl ?_
  have z_6386 : (0 : Int32).toInt = 0 := rfl
  refine w_loopI (fun n_ l_ g_ => ∃ x6375 : Int32, n_ = 12 - x6375.toInt ∧ HI g_ ∧ Fr F_X1_layOut_204 A_X1_layOut_204 g0 g_ ∧ en_get 0 l_ = some (.ref 204) ∧ en_get 1 l_ = some (.int a1) ∧ en_get 2 l_ = some (.int x6375) ∧ (0 ≤ x6375.toInt ∧ x6375.toInt ≤ 12)) ?_ (12 - 0) ⟨0, by first | rfl | omega, hI4411, hF4412, rfl, rfl, rfl, by decide⟩
  rintro n6380 l6379 g6376 ⟨x6375, hm6387, hI6377, hF6378, e6382, e6383, e6384, r6385⟩ ih6381
  refine At.enter rfl ?_
  refine r_iload_n e6384 ?_
  refine r_aload_n e6382 ?_
  refine q_getR (Sh.ref hI6377.1 kx_204 rfl) ?_
  obtain ⟨v6388, hv6388⟩ : ∃ v, gI g0 1 0 = v := ⟨_, rfl⟩
  have rv6388 := RgF.at hI0.2.1 (p := 1) (b := 0) rfl
  rw [hv6388] at rv6388
  dsimp only at rv6388
  refine q_getI (Sh.int hI6377.1 kx_1 rfl) v6388 ((hF6378.1 1 0 (by decide)).trans hv6388) ?_
  have bv6390 := q_bnd x6375
  have bv6391 := q_bnd v6388
  refine r_ics 49 rfl (fun c6389 => ?_) (fun c6389 => ?_)
  · have c6389_ : x6375.toInt ≥ v6388.toInt := en_i_ge_t c6389
    refine At.enter rfl ?_
    refine r_iconst 0 rfl ?_
    refine r_istore_n _ rfl ?_
    refine Ar.fall 72 rfl ?_
    have z_6571 : (0 : Int32).toInt = 0 := rfl
    refine w_loopI (fun n_ l_ g_ => ∃ x6560 : Int32, n_ = 8 - x6560.toInt ∧ HI g_ ∧ Fr F_X1_layOut_204 A_X1_layOut_204 g0 g_ ∧ en_get 0 l_ = some (.ref 204) ∧ en_get 1 l_ = some (.int a1) ∧ en_get 2 l_ = some (.int x6560) ∧ (0 ≤ x6560.toInt ∧ x6560.toInt ≤ 8)) ?_ (8 - 0) ⟨0, by first | rfl | omega, hI6377, hF6378, (w_p1 (by decide) (Or.inr rfl) e6382), (w_p1 (by decide) (Or.inr rfl) e6383), (w_e1 _ _ _), by decide⟩
    rintro n6565 l6564 g6561 ⟨x6560, hm6572, hI6562, hF6563, e6567, e6568, e6569, r6570⟩ ih6566
    refine At.enter rfl ?_
    refine r_iload_n e6569 ?_
    refine r_aload_n e6567 ?_
    refine q_getR (Sh.ref hI6562.1 kx_204 rfl) ?_
    obtain ⟨v6573, hv6573⟩ : ∃ v, gI g0 1 4 = v := ⟨_, rfl⟩
    have rv6573 := RgF.at hI0.2.1 (p := 1) (b := 4) rfl
    rw [hv6573] at rv6573
    dsimp only at rv6573
    refine q_getI (Sh.int hI6562.1 kx_1 rfl) v6573 ((hF6563.1 1 4 (by decide)).trans hv6573) ?_
    have bv6575 := q_bnd x6560
    have bv6576 := q_bnd v6573
    refine r_ics 83 rfl (fun c6574 => ?_) (fun c6574 => ?_)
    · have c6574_ : x6560.toInt ≥ v6573.toInt := en_i_ge_t c6574
      refine At.enter rfl ?_
      refine r_vret ?_
      exact ⟨_, rfl, hI6562, hF6563, rfl⟩
    · have c6574_ : x6560.toInt < v6573.toInt := en_i_ge_f c6574
      refine At.enter rfl ?_
      refine r_aload_n e6567 ?_
      refine q_getR (Sh.ref hI6562.1 kx_204 rfl) ?_
      refine r_iload_n e6569 ?_
      refine r_aload_n e6567 ?_
      refine q_getR (Sh.ref hI6562.1 kx_204 rfl) ?_
      refine r_iload_n e6569 ?_
      refine r_iconst 3 rfl ?_
      refine r_callV 97 rfl [.ref 1, .int x6560, .int 3] [.int x6560, .ref 207] (Nat.le_of_ble_eq_true rfl) rfl (T_X0_about_1 _ hI6562 x6560 3) ?_
      rintro _ _ ⟨g6577, rfl, hI6578, hF6579, v6580, rfl, hr6581⟩
      refine At.sti ?_
      have hF6582 := Fr.tr hF6563 hF6579 rfl rfl
      have zv6583 : (3 : Int32).toInt = 3 := rfl
      refine At.enter rfl ?_
      refine q_iast (Sh.arr hI6578.1 ka_207) (x6560.toInt) rfl (by omega) ?_
      have hI6584 := HI.wA0 hI6578 ka_207 (p := 207) rfl rfl (x6560.toInt) (v6580)
      have hF6585 := Fr.wA (p := 207) (j := x6560.toInt) (v := v6580) hF6582 rfl
      refine r_aload_n e6567 ?_
      refine q_getR (Sh.ref hI6584.1 kx_204 rfl) ?_
      refine r_iload_n e6569 ?_
      refine r_aload_n e6567 ?_
      refine r_iload_n e6569 ?_
      refine r_callV 108 rfl [.ref 204, .int x6560] [.int x6560, .ref 209] (Nat.le_of_ble_eq_true rfl) rfl (T_X1_handsToWant_204 _ hI6584 x6560) ?_
      rintro _ _ ⟨g6586, rfl, hI6587, hF6588, v6589, rfl, hr6590⟩
      refine At.sti ?_
      have hF6591 := Fr.tr hF6585 hF6588 rfl rfl
      refine At.enter rfl ?_
      refine q_iast (Sh.arr hI6587.1 ka_209) (x6560.toInt) rfl (by omega) ?_
      have hI6592 := HI.wA0 hI6587 ka_209 (p := 209) rfl rfl (x6560.toInt) (v6589)
      have hF6593 := Fr.wA (p := 209) (j := x6560.toInt) (v := v6589) hF6591 rfl
      refine q_iinc e6569 (x6560.toInt + 1) rfl (by omega) (fun v6594 hv6594 => ?_)
      refine r_goto ?_
      exact ih6566 (8 - v6594.toInt) _ _ ⟨v6594, by first | rfl | omega, hI6592, hF6593, (w_p1 (by decide) (Or.inr rfl) e6567), (w_p1 (by decide) (Or.inr rfl) e6568), (w_e1 _ _ _), by omega⟩ ⟨by omega, by omega⟩
  · have c6389_ : x6375.toInt < v6388.toInt := en_i_ge_f c6389
    refine At.enter rfl ?_
    refine r_aload_n e6382 ?_
    refine q_getR (Sh.ref hI6377.1 kx_204 rfl) ?_
    refine r_iload_n e6384 ?_
    refine r_aload_n e6382 ?_
    refine q_getR (Sh.ref hI6377.1 kx_204 rfl) ?_
    refine r_iload_n e6384 ?_
    refine r_iload_n e6383 ?_
    refine r_callV 63 rfl [.ref 1, .int x6375, .int a1] [.int x6375, .ref 208] (Nat.le_of_ble_eq_true rfl) rfl (T_X0_nextPast_1 _ hI6377 x6375 a1) ?_
    rintro _ _ ⟨g6595, rfl, hI6596, hF6597, v6598, rfl, hr6599⟩
    refine At.sti ?_
    have hF6600 := Fr.tr hF6378 hF6597 rfl rfl
    refine At.enter rfl ?_
    refine q_iast (Sh.arr hI6596.1 ka_208) (x6375.toInt) rfl (by omega) ?_
    have hI6601 := HI.wA0 hI6596 ka_208 (p := 208) rfl rfl (x6375.toInt) (v6598)
    have hF6602 := Fr.wA (p := 208) (j := x6375.toInt) (v := v6598) hF6600 rfl
    refine q_iinc e6384 (x6375.toInt + 1) rfl (by omega) (fun v6603 hv6603 => ?_)
    refine r_goto ?_
    exact ih6381 (12 - v6603.toInt) _ _ ⟨v6603, by first | rfl | omega, hI6601, hF6602, (w_p1 (by decide) (Or.inr rfl) e6382), (w_p1 (by decide) (Or.inr rfl) e6383), (w_e1 _ _ _), by omega⟩ ⟨by omega, by omega⟩

def F_X1_canHold_204 : List (Nat × Nat) := []
def A_X1_canHold_204 : List Nat := []
set_option maxRecDepth 100000 in
set_option maxHeartbeats 4000000 in
theorem T_X1_canHold_204 (d : Nat) {N : Nat} {g0 : List en_E} (hI0 : HI g0) (a1 : Int32) (a2 : Int32) : Ev (d + 2) 26 [.ref 204, .int a1, .int a2] (g0, N) (fun w h' => ∃ g', h' = (g', N) ∧ HI g' ∧ Fr F_X1_canHold_204 A_X1_canHold_204 g0 g' ∧ ∃ r : Int32, w = some (.int r) ∧ (0 ≤ r.toInt ∧ r.toInt ≤ 1)) := by
  have hF0 : Fr F_X1_canHold_204 A_X1_canHold_204 g0 g0 := Fr.rf
  refine Ev.mk rfl rfl ⟨Nat.le_of_ble_eq_true rfl, Or.inr (q_rc hI0.1 kx_204 rfl)⟩ ?_
  show At _ none _ _ (0, [(0, .ref 204), (1, .int a1), (2, .int a2)], [], (_, _)) _
  refine At.enter rfl ?_
  refine r_aload_n rfl ?_
  refine q_getR (Sh.ref hI0.1 kx_204 rfl) ?_
  refine r_iload_n rfl ?_
  refine q_inlV 8 rfl [.ref 1, .int a1] [] (Nat.le_of_ble_eq_true rfl) rfl ?_
  refine Ev.mk rfl rfl ⟨Nat.le_of_ble_eq_true rfl, Or.inr (q_rc hI0.1 kx_1 rfl)⟩ ?_
  show At _ none _ _ (0, [(0, .ref 1), (1, .int a1)], [], (_, _)) _
  refine At.enter rfl ?_
  refine r_iload_n rfl ?_
  refine r_ifs 4 rfl (fun c47 => ?_) (fun c47 => ?_)
  · have c47_ : a1.toInt < 0 := en_k_lt_t c47
    refine At.enter rfl ?_
    refine r_iconst 0 rfl ?_
    refine Ar.fall 17 rfl ?_
    refine At.enter rfl ?_
    refine q_iretz (by decide) ?_
    refine At.enter rfl ?_
    refine r_ift (by decide) ?_
    refine At.enter rfl ?_
    refine r_iconst 0 rfl ?_
    refine Ar.fall 57 rfl ?_
    refine At.enter rfl ?_
    refine r_iretz (by decide) ?_
    exact ⟨_, rfl, hI0, hF0, _, rfl, by decide⟩
  · have c47_ : a1.toInt ≥ 0 := en_k_lt_f c47
    refine At.enter rfl ?_
    refine r_iload_n rfl ?_
    refine r_aload_n rfl ?_
    obtain ⟨v48, hv48⟩ : ∃ v, gI g0 1 0 = v := ⟨_, rfl⟩
    have rv48 := RgF.at hI0.2.1 (p := 1) (b := 0) rfl
    rw [hv48] at rv48
    dsimp only at rv48
    refine q_getI (Sh.int hI0.1 kx_1 rfl) v48 hv48 ?_
    have bv50 := q_bnd a1
    have bv51 := q_bnd v48
    refine r_ics 12 rfl (fun c49 => ?_) (fun c49 => ?_)
    · have c49_ : a1.toInt ≥ v48.toInt := en_i_ge_t c49
      refine At.enter rfl ?_
      refine r_iconst 0 rfl ?_
      refine Ar.fall 17 rfl ?_
      refine At.enter rfl ?_
      refine q_iretz (by decide) ?_
      refine At.enter rfl ?_
      refine r_ift (by decide) ?_
      refine At.enter rfl ?_
      refine r_iconst 0 rfl ?_
      refine Ar.fall 57 rfl ?_
      refine At.enter rfl ?_
      refine r_iretz (by decide) ?_
      exact ⟨_, rfl, hI0, hF0, _, rfl, by decide⟩
    · have c49_ : a1.toInt < v48.toInt := en_i_ge_f c49
      refine At.enter rfl ?_
      refine r_iconst 1 rfl ?_
      refine r_goto ?_
      refine At.enter rfl ?_
      refine q_iretz (by decide) ?_
      refine At.enter rfl ?_
      refine r_iff 11 rfl (by decide) ?_
      refine At.enter rfl ?_
      refine r_aload_n rfl ?_
      refine q_getR (Sh.ref hI0.1 kx_204 rfl) ?_
      refine r_iload_n rfl ?_
      obtain ⟨v52, hv52⟩ : ∃ v, eA g0 215 a1.toInt = v := ⟨_, rfl⟩
      refine q_iald (Sh.arr hI0.1 ka_215) a1.toInt rfl (by omega) v52 hv52 ?_
      refine r_aload_n rfl ?_
      refine q_getR (Sh.ref hI0.1 kx_204 rfl) ?_
      obtain ⟨v53, hv53⟩ : ∃ v, gI g0 1 11 = v := ⟨_, rfl⟩
      refine q_getI (Sh.int hI0.1 kx_1 rfl) v53 hv53 ?_
      have bv55 := q_bnd v52
      have bv56 := q_bnd v53
      refine r_ics 27 rfl (fun c54 => ?_) (fun c54 => ?_)
      · have c54_ : v52.toInt ≥ v53.toInt := en_i_ge_t c54
        refine At.enter rfl ?_
        refine r_iconst 0 rfl ?_
        refine Ar.fall 57 rfl ?_
        refine At.enter rfl ?_
        refine r_iretz (by decide) ?_
        exact ⟨_, rfl, hI0, hF0, _, rfl, by decide⟩
      · have c54_ : v52.toInt < v53.toInt := en_i_ge_f c54
        refine At.enter rfl ?_
        refine r_aload_n rfl ?_
        refine q_getR (Sh.ref hI0.1 kx_204 rfl) ?_
        refine r_iload_n rfl ?_
        obtain ⟨v57, hv57⟩ : ∃ v, eA g0 216 a1.toInt = v := ⟨_, rfl⟩
        refine q_iald (Sh.arr hI0.1 ka_216) a1.toInt rfl (by omega) v57 hv57 ?_
        refine r_aload_n rfl ?_
        refine q_getR (Sh.ref hI0.1 kx_204 rfl) ?_
        refine r_iload_n rfl ?_
        refine r_iconst 0 rfl ?_
        refine r_callV 42 rfl [.ref 1, .int a2, .int 0] [.int v57] (Nat.le_of_ble_eq_true rfl) rfl (T_X0_about_1 _ hI0 a2 0) ?_
        rintro _ _ ⟨g58, rfl, hI59, hF60, v61, rfl, hr62⟩
        refine At.sti ?_
        have hF63 := Fr.tr hF0 hF60 rfl rfl
        have zv64 : (0 : Int32).toInt = 0 := rfl
        refine At.enter rfl ?_
        refine q_iaddO (fun v65 _ => ?_)
        refine r_aload_n rfl ?_
        refine q_getR (Sh.ref hI59.1 kx_204 rfl) ?_
        refine r_iload_n rfl ?_
        obtain ⟨v66, hv66⟩ : ∃ v, eA g0 205 a1.toInt = v := ⟨_, rfl⟩
        refine q_iald (Sh.arr hI59.1 ka_205) a1.toInt rfl (by omega) v66 ((eA_c (hF60.2.1 205 (by decide))).trans hv66) ?_
        have bv68 := q_bnd v65
        have bv69 := q_bnd v66
        refine r_ics 52 rfl (fun c67 => ?_) (fun c67 => ?_)
        · have c67_ : v65.toInt > v66.toInt := en_i_gt_t c67
          refine At.enter rfl ?_
          refine r_iconst 0 rfl ?_
          refine Ar.fall 57 rfl ?_
          refine At.enter rfl ?_
          refine r_iretz (by decide) ?_
          exact ⟨_, rfl, hI59, hF63, _, rfl, by decide⟩
        · have c67_ : v65.toInt ≤ v66.toInt := en_i_gt_f c67
          refine At.enter rfl ?_
          refine r_iconst 1 rfl ?_
          refine r_goto ?_
          refine At.enter rfl ?_
          refine r_iretz (by decide) ?_
          exact ⟨_, rfl, hI59, hF63, _, rfl, by decide⟩

def F_X1_take_204 : List (Nat × Nat) := [(204, 18)]
def A_X1_take_204 : List Nat := [211, 214, 215, 216]
set_option maxRecDepth 100000 in
set_option maxHeartbeats 4000000 in
theorem T_X1_take_204 (d : Nat) {N : Nat} {g0 : List en_E} (hI0 : HI g0) (a1 : Int32) (a2 : Int32) (h_a2 : 0 ≤ a2.toInt ∧ a2.toInt ≤ 7) : Ev (d + 2) 27 [.ref 204, .int a1, .int a2] (g0, N) (fun w h' => ∃ g', h' = (g', N) ∧ HI g' ∧ Fr F_X1_take_204 A_X1_take_204 g0 g' ∧ w = none) := by
  have hF0 : Fr F_X1_take_204 A_X1_take_204 g0 g0 := Fr.rf
  refine Ev.mk rfl rfl ⟨Nat.le_of_ble_eq_true rfl, Or.inr (q_rc hI0.1 kx_204 rfl)⟩ ?_
  show At _ none _ _ (0, [(0, .ref 204), (1, .int a1), (2, .int a2)], [], (_, _)) _
  refine At.enter rfl ?_
  refine r_aload_n rfl ?_
  refine q_getR (Sh.ref hI0.1 kx_204 rfl) ?_
  refine r_iload_n rfl ?_
  refine q_inlV 8 rfl [.ref 1, .int a1] [] (Nat.le_of_ble_eq_true rfl) rfl ?_
  refine Ev.mk rfl rfl ⟨Nat.le_of_ble_eq_true rfl, Or.inr (q_rc hI0.1 kx_1 rfl)⟩ ?_
  show At _ none _ _ (0, [(0, .ref 1), (1, .int a1)], [], (_, _)) _
  refine At.enter rfl ?_
  refine r_iload_n rfl ?_
  refine r_ifs 4 rfl (fun c53 => ?_) (fun c53 => ?_)
  · have c53_ : a1.toInt < 0 := en_k_lt_t c53
    refine At.enter rfl ?_
    refine r_iconst 0 rfl ?_
    refine Ar.fall 17 rfl ?_
    refine At.enter rfl ?_
    refine q_iretz (by decide) ?_
    refine At.enter rfl ?_
    refine r_ift (by decide) ?_
    refine At.enter rfl ?_
    refine r_vret ?_
    exact ⟨_, rfl, hI0, hF0, rfl⟩
  · have c53_ : a1.toInt ≥ 0 := en_k_lt_f c53
    refine At.enter rfl ?_
    refine r_iload_n rfl ?_
    refine r_aload_n rfl ?_
    obtain ⟨v54, hv54⟩ : ∃ v, gI g0 1 0 = v := ⟨_, rfl⟩
    have rv54 := RgF.at hI0.2.1 (p := 1) (b := 0) rfl
    rw [hv54] at rv54
    dsimp only at rv54
    refine q_getI (Sh.int hI0.1 kx_1 rfl) v54 hv54 ?_
    have bv56 := q_bnd a1
    have bv57 := q_bnd v54
    refine r_ics 12 rfl (fun c55 => ?_) (fun c55 => ?_)
    · have c55_ : a1.toInt ≥ v54.toInt := en_i_ge_t c55
      refine At.enter rfl ?_
      refine r_iconst 0 rfl ?_
      refine Ar.fall 17 rfl ?_
      refine At.enter rfl ?_
      refine q_iretz (by decide) ?_
      refine At.enter rfl ?_
      refine r_ift (by decide) ?_
      refine At.enter rfl ?_
      refine r_vret ?_
      exact ⟨_, rfl, hI0, hF0, rfl⟩
    · have c55_ : a1.toInt < v54.toInt := en_i_ge_f c55
      refine At.enter rfl ?_
      refine r_iconst 1 rfl ?_
      refine r_goto ?_
      refine At.enter rfl ?_
      refine q_iretz (by decide) ?_
      refine At.enter rfl ?_
      refine r_iff 11 rfl (by decide) ?_
      refine At.enter rfl ?_
      refine r_aload_n rfl ?_
      refine q_getR (Sh.ref hI0.1 kx_204 rfl) ?_
      refine r_iload_n rfl ?_
      refine r_iload_n rfl ?_
      refine q_iast (Sh.arr hI0.1 ka_211) (a2.toInt) rfl (by omega) ?_
      have hI58 := HI.wA0 hI0 ka_211 (p := 211) rfl rfl (a2.toInt) (a1)
      have hF59 := Fr.wA (p := 211) (j := a2.toInt) (v := a1) hF0 rfl
      refine r_aload_n rfl ?_
      refine q_getR (Sh.ref hI58.1 kx_204 rfl) ?_
      refine r_iload_n rfl ?_
      refine r_iconst 0 rfl ?_
      refine q_iast (Sh.arr hI58.1 ka_214) (a2.toInt) rfl (by omega) ?_
      have hI60 := HI.wA0 hI58 ka_214 (p := 214) rfl rfl (a2.toInt) (0)
      have hF61 := Fr.wA (p := 214) (j := a2.toInt) (v := 0) hF59 rfl
      refine r_aload_n rfl ?_
      refine r_iconst 1 rfl ?_
      refine q_putI (Sh.int hI60.1 kx_204 rfl) rfl ?_
      have hI62 := HI.wI0 hI60 kx_204 rfl (p := 204) (b := 18) (v := 1) rfl
      have hF63 := Fr.wI (p := 204) (b := 18) (v := 1) hF61 rfl
      refine r_aload_n rfl ?_
      refine q_getR (Sh.ref hI62.1 kx_204 rfl) ?_
      refine r_iload_n rfl ?_
      refine r_dup2 ⟨rfl, rfl⟩ ?_
      obtain ⟨v64, hv64⟩ : ∃ v, eA g0 215 a1.toInt = v := ⟨_, rfl⟩
      refine q_iald (Sh.arr hI62.1 ka_215) a1.toInt rfl (by omega) v64 ((eA_c ((gA_sI).trans ((gA_sA_ne (by decide)).trans (gA_sA_ne (by decide))))).trans hv64) ?_
      refine r_iconst 1 rfl ?_
      refine q_iaddO (fun v65 _ => ?_)
      refine q_iast (Sh.arr hI62.1 ka_215) (a1.toInt) rfl (by omega) ?_
      have hI66 := HI.wA0 hI62 ka_215 (p := 215) rfl rfl (a1.toInt) (v65)
      have hF67 := Fr.wA (p := 215) (j := a1.toInt) (v := v65) hF63 rfl
      refine r_aload_n rfl ?_
      refine q_getR (Sh.ref hI66.1 kx_204 rfl) ?_
      refine r_iload_n rfl ?_
      refine r_dup2 ⟨rfl, rfl⟩ ?_
      obtain ⟨v68, hv68⟩ : ∃ v, eA g0 216 a1.toInt = v := ⟨_, rfl⟩
      refine q_iald (Sh.arr hI66.1 ka_216) a1.toInt rfl (by omega) v68 ((eA_c ((gA_sA_ne (by decide)).trans ((gA_sI).trans ((gA_sA_ne (by decide)).trans (gA_sA_ne (by decide)))))).trans hv68) ?_
      refine r_aload_n rfl ?_
      refine q_getR (Sh.ref hI66.1 kx_204 rfl) ?_
      refine r_iload_n rfl ?_
      refine r_iconst 0 rfl ?_
      refine r_callV 56 rfl [.ref 1, .int a2, .int 0] [.int v68, .int a1, .ref 216] (Nat.le_of_ble_eq_true rfl) rfl (T_X0_about_1 _ hI66 a2 0) ?_
      rintro _ _ ⟨g69, rfl, hI70, hF71, v72, rfl, hr73⟩
      refine At.sti ?_
      have hF74 := Fr.tr hF67 hF71 rfl rfl
      have zv75 : (0 : Int32).toInt = 0 := rfl
      refine At.enter rfl ?_
      refine q_iaddO (fun v76 _ => ?_)
      refine q_iast (Sh.arr hI70.1 ka_216) (a1.toInt) rfl (by omega) ?_
      have hI77 := HI.wA0 hI70 ka_216 (p := 216) rfl rfl (a1.toInt) (v76)
      have hF78 := Fr.wA (p := 216) (j := a1.toInt) (v := v76) hF74 rfl
      refine Ar.fall 58 rfl ?_
      refine At.enter rfl ?_
      refine r_vret ?_
      exact ⟨_, rfl, hI77, hF78, rfl⟩
