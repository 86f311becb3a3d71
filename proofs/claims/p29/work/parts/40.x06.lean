def F_X1_handsToWant_188 : List (Nat × Nat) := []
def A_X1_handsToWant_188 : List Nat := []
set_option maxRecDepth 100000 in
set_option maxHeartbeats 4000000 in
theorem T_X1_handsToWant_188 (d : Nat) {N : Nat} {g0 : List en_E} (hI0 : HI g0) (a1 : Int32) : Ev (d + 2) 17 [.ref 188, .int a1] (g0, N) (fun w h' => ∃ g', h' = (g', N) ∧ HI g' ∧ Fr F_X1_handsToWant_188 A_X1_handsToWant_188 g0 g' ∧ ∃ r : Int32, w = some (.int r) ∧ ((-1) ≤ r.toInt ∧ r.toInt ≤ 11)) := by
  have hF0 : Fr F_X1_handsToWant_188 A_X1_handsToWant_188 g0 g0 := Fr.rf
  refine Ev.mk rfl rfl ⟨Nat.le_of_ble_eq_true rfl, Or.inr (q_rc hI0.1 kx_188 rfl)⟩ ?_
  show At _ none _ _ (0, [(0, .ref 188), (1, .int a1)], [], (_, _)) _
  refine At.enter rfl ?_
  refine r_aload_n rfl ?_
  refine q_getR (Sh.ref hI0.1 kx_188 rfl) ?_
  refine r_iload_n rfl ?_
  refine r_iconst 1 rfl ?_
  refine r_callV 9 rfl [.ref 1, .int a1, .int 1] [] (Nat.le_of_ble_eq_true rfl) rfl (T_X0_about_1 _ hI0 a1 1) ?_
  rintro _ _ ⟨g303, rfl, hI304, hF305, v306, rfl, hr307⟩
  refine At.sti ?_
  have ks310 := hr307.2.2
  have hr309 : _ ∧ _ := ⟨hr307.1, hr307.2.1⟩
  have hF308 := Fr.tr hF0 hF305 rfl rfl
  have zv311 : (1 : Int32).toInt = 1 := rfl
  refine At.enter rfl ?_
  refine r_istore_n ([(2, .int v306), (0, .ref 188), (1, .int a1)]) rfl ?_
  refine r_aload_n rfl ?_
  refine q_getR (Sh.ref hI304.1 kx_188 rfl) ?_
  refine r_iload_n rfl ?_
  refine r_iconst 2 rfl ?_
  refine r_callV 19 rfl [.ref 1, .int a1, .int 2] [] (Nat.le_of_ble_eq_true rfl) rfl (T_X0_about_1 _ hI304 a1 2) ?_
  rintro _ _ ⟨g312, rfl, hI313, hF314, v315, rfl, hr316⟩
  refine At.sti ?_
  have ks319 := hr316.2.2
  have hr318 : _ ∧ _ := ⟨hr316.1, hr316.2.1⟩
  have hF317 := Fr.tr hF308 hF314 rfl rfl
  have zv320 : (2 : Int32).toInt = 2 := rfl
  refine At.enter rfl ?_
  refine r_istore_n ([(3, .int v315), (2, .int v306), (0, .ref 188), (1, .int a1)]) rfl ?_
  refine r_iconst 0 rfl ?_
  refine r_istore ([(4, .int 0), (3, .int v315), (2, .int v306), (0, .ref 188), (1, .int a1)]) rfl ?_
  refine Ar.fall 23 rfl ?_
  have z_443 : (0 : Int32).toInt = 0 := rfl
  refine w_loopI (fun n_ l_ g_ => ∃ x429 : Int32, ∃ x430 : Int32, n_ = 12 - x430.toInt ∧ HI g_ ∧ Fr F_X1_handsToWant_188 A_X1_handsToWant_188 g0 g_ ∧ en_get 0 l_ = some (.ref 188) ∧ en_get 1 l_ = some (.int a1) ∧ en_get 2 l_ = some (.int x429) ∧ en_get 3 l_ = some (.int v315) ∧ en_get 4 l_ = some (.int x430) ∧ (0 ≤ x430.toInt ∧ x430.toInt ≤ 12)) ?_ (12 - 0) ⟨v306, 0, by first | rfl | omega, hI313, hF317, rfl, rfl, rfl, rfl, rfl, by decide⟩
  rintro n435 l434 g431 ⟨x429, x430, hm444, hI432, hF433, e437, e438, e439, e440, e441, r442⟩ ih436
  refine At.enter rfl ?_
  refine r_iload e441 ?_
  refine r_bipush 12 rfl ?_
  refine r_ics 30 rfl (fun c445 => ?_) (fun c445 => ?_)
  · have c445_ : x430.toInt ≥ 12 := en_i_ge_t c445
    refine At.enter rfl ?_
    refine r_iconst (-1) rfl ?_
    refine r_ireti ?_
    exact ⟨_, rfl, hI432, hF433, _, rfl, by decide⟩
  · have c445_ : x430.toInt < 12 := en_i_ge_f c445
    refine At.enter rfl ?_
    refine r_aload_n e437 ?_
    refine q_getR (Sh.ref hI432.1 kx_188 rfl) ?_
    refine r_iload_n e439 ?_
    refine q_inlV 38 rfl [.ref 1, .int x429] [] (Nat.le_of_ble_eq_true rfl) rfl ?_
    refine Ev.mk rfl rfl ⟨Nat.le_of_ble_eq_true rfl, Or.inr (q_rc hI432.1 kx_1 rfl)⟩ ?_
    show At _ none _ _ (0, [(0, .ref 1), (1, .int x429)], [], (_, _)) _
    refine At.enter rfl ?_
    refine r_iload_n rfl ?_
    refine r_ifs 4 rfl (fun c446 => ?_) (fun c446 => ?_)
    · have c446_ : x429.toInt < 0 := en_k_lt_t c446
      refine At.enter rfl ?_
      refine r_iconst 0 rfl ?_
      refine Ar.fall 17 rfl ?_
      refine At.enter rfl ?_
      refine q_iretz (by decide) ?_
      refine At.enter rfl ?_
      refine r_ift (by decide) ?_
      refine At.enter rfl ?_
      refine r_iconst (-1) rfl ?_
      refine r_ireti ?_
      exact ⟨_, rfl, hI432, hF433, _, rfl, by decide⟩
    · have c446_ : x429.toInt ≥ 0 := en_k_lt_f c446
      refine At.enter rfl ?_
      refine r_iload_n rfl ?_
      refine r_aload_n rfl ?_
      obtain ⟨v447, hv447⟩ : ∃ v, gI g0 1 0 = v := ⟨_, rfl⟩
      have rv447 := RgF.at hI0.2.1 (p := 1) (b := 0) rfl
      rw [hv447] at rv447
      dsimp only at rv447
      refine q_getI (Sh.int hI432.1 kx_1 rfl) v447 ((hF433.1 1 0 (by decide)).trans hv447) ?_
      have bv449 := q_bnd x429
      have bv450 := q_bnd v447
      refine r_ics 12 rfl (fun c448 => ?_) (fun c448 => ?_)
      · have c448_ : x429.toInt ≥ v447.toInt := en_i_ge_t c448
        refine At.enter rfl ?_
        refine r_iconst 0 rfl ?_
        refine Ar.fall 17 rfl ?_
        refine At.enter rfl ?_
        refine q_iretz (by decide) ?_
        refine At.enter rfl ?_
        refine r_ift (by decide) ?_
        refine At.enter rfl ?_
        refine r_iconst (-1) rfl ?_
        refine r_ireti ?_
        exact ⟨_, rfl, hI432, hF433, _, rfl, by decide⟩
      · have c448_ : x429.toInt < v447.toInt := en_i_ge_f c448
        refine At.enter rfl ?_
        refine r_iconst 1 rfl ?_
        refine r_goto ?_
        refine At.enter rfl ?_
        refine q_iretz (by decide) ?_
        refine At.enter rfl ?_
        refine r_iff 41 rfl (by decide) ?_
        refine At.enter rfl ?_
        refine r_iload_n e439 ?_
        refine r_iload_n e440 ?_
        refine r_ics 46 rfl (fun c451 => ?_) (fun c451 => ?_)
        · have c451_ : x429.toInt ≠ v315.toInt := en_i_ne_t c451
          refine At.enter rfl ?_
          refine r_aload_n e437 ?_
          refine q_getR (Sh.ref hI432.1 kx_188 rfl) ?_
          refine r_iload_n e439 ?_
          obtain ⟨v452, hv452⟩ : ∃ v, eA g0 192 x429.toInt = v := ⟨_, rfl⟩
          refine q_iald (Sh.arr hI432.1 ka_192) x429.toInt rfl (by omega) v452 ((eA_c (hF433.2.1 192 (by decide))).trans hv452) ?_
          refine r_istore_n _ rfl ?_
          refine q_iinc (w_p1 (by decide) (Or.inr rfl) e441) (x430.toInt + 1) rfl (by omega) (fun v453 hv453 => ?_)
          refine r_goto ?_
          have bv454 := q_bnd v452
          exact ih436 (12 - v453.toInt) _ _ ⟨v452, v453, by first | rfl | omega, hI432, hF433, (w_p1 (by decide) (Or.inr rfl) (w_p1 (by decide) (Or.inr rfl) e437)), (w_p1 (by decide) (Or.inr rfl) (w_p1 (by decide) (Or.inr rfl) e438)), (w_p1 (by decide) (Or.inr rfl) (w_e1 _ _ _)), (w_p1 (by decide) (Or.inr rfl) (w_p1 (by decide) (Or.inr rfl) e440)), (w_e1 _ _ _), by omega⟩ ⟨by omega, by omega⟩
        · have c451_ : x429.toInt = v315.toInt := en_i_ne_f c451
          refine At.enter rfl ?_
          refine r_iload e441 ?_
          refine r_ireti ?_
          exact ⟨_, rfl, hI432, hF433, _, rfl, by omega⟩

def F_X1_layOut_188 : List (Nat × Nat) := []
def A_X1_layOut_188 : List Nat := [189, 190, 191, 192, 193]
set_option maxRecDepth 100000 in
set_option maxHeartbeats 4000000 in
theorem T_X1_layOut_188 (d : Nat) {N : Nat} {g0 : List en_E} (hI0 : HI g0) (a1 : Int32) : Ev (d + 4) 16 [.ref 188, .int a1] (g0, N) (fun w h' => ∃ g', h' = (g', N) ∧ HI g' ∧ Fr F_X1_layOut_188 A_X1_layOut_188 g0 g' ∧ w = none) := by
  have hF0 : Fr F_X1_layOut_188 A_X1_layOut_188 g0 g0 := Fr.rf
  refine Ev.mk rfl rfl ⟨Nat.le_of_ble_eq_true rfl, Or.inr (q_rc hI0.1 kx_188 rfl)⟩ ?_
  show At _ none _ _ (0, [(0, .ref 188), (1, .int a1)], [], (_, _)) _
  refine At.enter rfl ?_
  refine r_aload_n rfl ?_
  refine q_getR (Sh.ref hI0.1 kx_188 rfl) ?_
  refine q_getR (Sh.ref hI0.1 kx_1 rfl) ?_
  refine r_iconst 0 rfl ?_
  refine r_aload_n rfl ?_
  refine q_getR (Sh.ref hI0.1 kx_188 rfl) ?_
  refine r_iconst 0 rfl ?_
  refine r_bipush 12 rfl ?_
  have zv4723 : (0 : Int32).toInt = 0 := rfl
  have zv4724 : (0 : Int32).toInt = 0 := rfl
  have zv4725 : (12 : Int32).toInt = 12 := rfl
  refine q_cpy rfl (Nat.le_of_ble_eq_true rfl) (Sh.arr hI0.1 ka_3) (Sh.arr hI0.1 ka_189) ⟨by omega, by omega, by omega, by omega, by omega⟩ ?_
  have hI4726 := HI.cpy0 hI0 ka_3 ka_189 rfl rfl ((0 : Int32).toInt.toNat) ((0 : Int32).toInt.toNat) ((12 : Int32).toInt.toNat) (by omega) (by omega)
  have hF4727 := Fr.cpy (p0 := 3) (p1 := 189) hF0 rfl ((0 : Int32).toInt.toNat) ((0 : Int32).toInt.toNat) ((12 : Int32).toInt.toNat)
  refine r_aload_n rfl ?_
  refine q_getR (Sh.ref hI4726.1 kx_188 rfl) ?_
  refine q_getR (Sh.ref hI4726.1 kx_1 rfl) ?_
  refine r_iconst 0 rfl ?_
  refine r_aload_n rfl ?_
  refine q_getR (Sh.ref hI4726.1 kx_188 rfl) ?_
  refine r_iconst 0 rfl ?_
  refine r_bipush 12 rfl ?_
  have zv4728 : (0 : Int32).toInt = 0 := rfl
  have zv4729 : (0 : Int32).toInt = 0 := rfl
  have zv4730 : (12 : Int32).toInt = 12 := rfl
  refine q_cpy rfl (Nat.le_of_ble_eq_true rfl) (Sh.arr hI4726.1 ka_4) (Sh.arr hI4726.1 ka_190) ⟨by omega, by omega, by omega, by omega, by omega⟩ ?_
  have hI4731 := HI.cpy0 hI4726 ka_4 ka_190 rfl rfl ((0 : Int32).toInt.toNat) ((0 : Int32).toInt.toNat) ((12 : Int32).toInt.toNat) (by omega) (by omega)
  have hF4732 := Fr.cpy (p0 := 4) (p1 := 190) hF4727 rfl ((0 : Int32).toInt.toNat) ((0 : Int32).toInt.toNat) ((12 : Int32).toInt.toNat)
  refine r_iconst 0 rfl ?_
  refine r_istore_n ([(2, .int 0), (0, .ref 188), (1, .int a1)]) rfl ?_
  refine Ar.fall 38 rfl ?_
  have z_6850 : (0 : Int32).toInt = 0 := rfl
  refine w_loopI (fun n_ l_ g_ => ∃ x6839 : Int32, n_ = 12 - x6839.toInt ∧ HI g_ ∧ Fr F_X1_layOut_188 A_X1_layOut_188 g0 g_ ∧ en_get 0 l_ = some (.ref 188) ∧ en_get 1 l_ = some (.int a1) ∧ en_get 2 l_ = some (.int x6839) ∧ (0 ≤ x6839.toInt ∧ x6839.toInt ≤ 12)) ?_ (12 - 0) ⟨0, by first | rfl | omega, hI4731, hF4732, rfl, rfl, rfl, by decide⟩
  rintro n6844 l6843 g6840 ⟨x6839, hm6851, hI6841, hF6842, e6846, e6847, e6848, r6849⟩ ih6845
  refine At.enter rfl ?_
  refine r_iload_n e6848 ?_
  refine r_aload_n e6846 ?_
  refine q_getR (Sh.ref hI6841.1 kx_188 rfl) ?_
  obtain ⟨v6852, hv6852⟩ : ∃ v, gI g0 1 0 = v := ⟨_, rfl⟩
  have rv6852 := RgF.at hI0.2.1 (p := 1) (b := 0) rfl
  rw [hv6852] at rv6852
  dsimp only at rv6852
  refine q_getI (Sh.int hI6841.1 kx_1 rfl) v6852 ((hF6842.1 1 0 (by decide)).trans hv6852) ?_
  have bv6854 := q_bnd x6839
  have bv6855 := q_bnd v6852
  refine r_ics 49 rfl (fun c6853 => ?_) (fun c6853 => ?_)
  · have c6853_ : x6839.toInt ≥ v6852.toInt := en_i_ge_t c6853
    refine At.enter rfl ?_
    refine r_iconst 0 rfl ?_
    refine r_istore_n _ rfl ?_
    refine Ar.fall 72 rfl ?_
    have z_7049 : (0 : Int32).toInt = 0 := rfl
    refine w_loopI (fun n_ l_ g_ => ∃ x7038 : Int32, n_ = 8 - x7038.toInt ∧ HI g_ ∧ Fr F_X1_layOut_188 A_X1_layOut_188 g0 g_ ∧ en_get 0 l_ = some (.ref 188) ∧ en_get 1 l_ = some (.int a1) ∧ en_get 2 l_ = some (.int x7038) ∧ (0 ≤ x7038.toInt ∧ x7038.toInt ≤ 8)) ?_ (8 - 0) ⟨0, by first | rfl | omega, hI6841, hF6842, (w_p1 (by decide) (Or.inr rfl) e6846), (w_p1 (by decide) (Or.inr rfl) e6847), (w_e1 _ _ _), by decide⟩
    rintro n7043 l7042 g7039 ⟨x7038, hm7050, hI7040, hF7041, e7045, e7046, e7047, r7048⟩ ih7044
    refine At.enter rfl ?_
    refine r_iload_n e7047 ?_
    refine r_aload_n e7045 ?_
    refine q_getR (Sh.ref hI7040.1 kx_188 rfl) ?_
    obtain ⟨v7051, hv7051⟩ : ∃ v, gI g0 1 4 = v := ⟨_, rfl⟩
    have rv7051 := RgF.at hI0.2.1 (p := 1) (b := 4) rfl
    rw [hv7051] at rv7051
    dsimp only at rv7051
    refine q_getI (Sh.int hI7040.1 kx_1 rfl) v7051 ((hF7041.1 1 4 (by decide)).trans hv7051) ?_
    have bv7053 := q_bnd x7038
    have bv7054 := q_bnd v7051
    refine r_ics 83 rfl (fun c7052 => ?_) (fun c7052 => ?_)
    · have c7052_ : x7038.toInt ≥ v7051.toInt := en_i_ge_t c7052
      refine At.enter rfl ?_
      refine r_vret ?_
      exact ⟨_, rfl, hI7040, hF7041, rfl⟩
    · have c7052_ : x7038.toInt < v7051.toInt := en_i_ge_f c7052
      refine At.enter rfl ?_
      refine r_aload_n e7045 ?_
      refine q_getR (Sh.ref hI7040.1 kx_188 rfl) ?_
      refine r_iload_n e7047 ?_
      refine r_aload_n e7045 ?_
      refine q_getR (Sh.ref hI7040.1 kx_188 rfl) ?_
      refine r_iload_n e7047 ?_
      refine r_iconst 3 rfl ?_
      refine r_callV 97 rfl [.ref 1, .int x7038, .int 3] [.int x7038, .ref 191] (Nat.le_of_ble_eq_true rfl) rfl (T_X0_about_1 _ hI7040 x7038 3) ?_
      rintro _ _ ⟨g7055, rfl, hI7056, hF7057, v7058, rfl, hr7059⟩
      refine At.sti ?_
      have ks7062 := hr7059.2.2
      have hr7061 : _ ∧ _ := ⟨hr7059.1, hr7059.2.1⟩
      have hF7060 := Fr.tr hF7041 hF7057 rfl rfl
      have zv7063 : (3 : Int32).toInt = 3 := rfl
      refine At.enter rfl ?_
      refine q_iast (Sh.arr hI7056.1 ka_191) (x7038.toInt) rfl (by omega) ?_
      have hI7064 := HI.wA0 hI7056 ka_191 (p := 191) rfl rfl (x7038.toInt) (v7058)
      have hF7065 := Fr.wA (p := 191) (j := x7038.toInt) (v := v7058) hF7060 rfl
      refine r_aload_n e7045 ?_
      refine q_getR (Sh.ref hI7064.1 kx_188 rfl) ?_
      refine r_iload_n e7047 ?_
      refine r_aload_n e7045 ?_
      refine r_iload_n e7047 ?_
      refine r_callV 108 rfl [.ref 188, .int x7038] [.int x7038, .ref 193] (Nat.le_of_ble_eq_true rfl) rfl (T_X1_handsToWant_188 _ hI7064 x7038) ?_
      rintro _ _ ⟨g7066, rfl, hI7067, hF7068, v7069, rfl, hr7070⟩
      refine At.sti ?_
      have hF7071 := Fr.tr hF7065 hF7068 rfl rfl
      refine At.enter rfl ?_
      refine q_iast (Sh.arr hI7067.1 ka_193) (x7038.toInt) rfl (by omega) ?_
      have hI7072 := HI.wA0 hI7067 ka_193 (p := 193) rfl rfl (x7038.toInt) (v7069)
      have hF7073 := Fr.wA (p := 193) (j := x7038.toInt) (v := v7069) hF7071 rfl
      refine q_iinc e7047 (x7038.toInt + 1) rfl (by omega) (fun v7074 hv7074 => ?_)
      refine r_goto ?_
      exact ih7044 (8 - v7074.toInt) _ _ ⟨v7074, by first | rfl | omega, hI7072, hF7073, (w_p1 (by decide) (Or.inr rfl) e7045), (w_p1 (by decide) (Or.inr rfl) e7046), (w_e1 _ _ _), by omega⟩ ⟨by omega, by omega⟩
  · have c6853_ : x6839.toInt < v6852.toInt := en_i_ge_f c6853
    refine At.enter rfl ?_
    refine r_aload_n e6846 ?_
    refine q_getR (Sh.ref hI6841.1 kx_188 rfl) ?_
    refine r_iload_n e6848 ?_
    refine r_aload_n e6846 ?_
    refine q_getR (Sh.ref hI6841.1 kx_188 rfl) ?_
    refine r_iload_n e6848 ?_
    refine r_iload_n e6847 ?_
    refine r_callV 63 rfl [.ref 1, .int x6839, .int a1] [.int x6839, .ref 192] (Nat.le_of_ble_eq_true rfl) rfl (T_X0_nextPast_1 _ hI6841 x6839 a1) ?_
    rintro _ _ ⟨g7075, rfl, hI7076, hF7077, v7078, rfl, hr7079⟩
    refine At.sti ?_
    have hF7080 := Fr.tr hF6842 hF7077 rfl rfl
    refine At.enter rfl ?_
    refine q_iast (Sh.arr hI7076.1 ka_192) (x6839.toInt) rfl (by omega) ?_
    have hI7081 := HI.wA0 hI7076 ka_192 (p := 192) rfl rfl (x6839.toInt) (v7078)
    have hF7082 := Fr.wA (p := 192) (j := x6839.toInt) (v := v7078) hF7080 rfl
    refine q_iinc e6848 (x6839.toInt + 1) rfl (by omega) (fun v7083 hv7083 => ?_)
    refine r_goto ?_
    exact ih6845 (12 - v7083.toInt) _ _ ⟨v7083, by first | rfl | omega, hI7081, hF7082, (w_p1 (by decide) (Or.inr rfl) e6846), (w_p1 (by decide) (Or.inr rfl) e6847), (w_e1 _ _ _), by omega⟩ ⟨by omega, by omega⟩

def F_X1_canHold_188 : List (Nat × Nat) := []
def A_X1_canHold_188 : List Nat := []
theorem ma_X0_about_1_189 : memA A_X0_about_1 189 = false := by decide
set_option maxRecDepth 100000 in
set_option maxHeartbeats 4000000 in
theorem T_X1_canHold_188 (d : Nat) {N : Nat} {g0 : List en_E} (hI0 : HI g0) (a1 : Int32) (a2 : Int32) : Ev (d + 2) 26 [.ref 188, .int a1, .int a2] (g0, N) (fun w h' => ∃ g', h' = (g', N) ∧ HI g' ∧ Fr F_X1_canHold_188 A_X1_canHold_188 g0 g' ∧ ∃ r : Int32, w = some (.int r) ∧ (0 ≤ r.toInt ∧ r.toInt ≤ 1)) := by
  have hF0 : Fr F_X1_canHold_188 A_X1_canHold_188 g0 g0 := Fr.rf
  refine Ev.mk rfl rfl ⟨Nat.le_of_ble_eq_true rfl, Or.inr (q_rc hI0.1 kx_188 rfl)⟩ ?_
  show At _ none _ _ (0, [(0, .ref 188), (1, .int a1), (2, .int a2)], [], (_, _)) _
  refine At.enter rfl ?_
  refine r_aload_n rfl ?_
  refine q_getR (Sh.ref hI0.1 kx_188 rfl) ?_
  refine r_iload_n rfl ?_
  refine q_inlV 8 rfl [.ref 1, .int a1] [] (Nat.le_of_ble_eq_true rfl) rfl ?_
  refine Ev.mk rfl rfl ⟨Nat.le_of_ble_eq_true rfl, Or.inr (q_rc hI0.1 kx_1 rfl)⟩ ?_
  show At _ none _ _ (0, [(0, .ref 1), (1, .int a1)], [], (_, _)) _
  refine At.enter rfl ?_
  refine r_iload_n rfl ?_
  refine r_ifs 4 rfl (fun c51 => ?_) (fun c51 => ?_)
  · have c51_ : a1.toInt < 0 := en_k_lt_t c51
    refine At.enter rfl ?_
    refine r_iconst 0 rfl ?_
    refine Ar.fall 17 rfl ?_
    refine At.enter rfl ?_
    refine q_iretz (by decide) ?_
    refine At.enter rfl ?_
    refine r_ift (by decide) ?_
    refine At.enter rfl ?_
    refine r_iconst 0 rfl ?_
    refine Ar.fall 57 rfl ?_
    refine At.enter rfl ?_
    refine r_iretz (by decide) ?_
    exact ⟨_, rfl, hI0, hF0, _, rfl, by decide⟩
  · have c51_ : a1.toInt ≥ 0 := en_k_lt_f c51
    refine At.enter rfl ?_
    refine r_iload_n rfl ?_
    refine r_aload_n rfl ?_
    obtain ⟨v52, hv52⟩ : ∃ v, gI g0 1 0 = v := ⟨_, rfl⟩
    have rv52 := RgF.at hI0.2.1 (p := 1) (b := 0) rfl
    rw [hv52] at rv52
    dsimp only at rv52
    refine q_getI (Sh.int hI0.1 kx_1 rfl) v52 hv52 ?_
    have bv54 := q_bnd a1
    have bv55 := q_bnd v52
    refine r_ics 12 rfl (fun c53 => ?_) (fun c53 => ?_)
    · have c53_ : a1.toInt ≥ v52.toInt := en_i_ge_t c53
      refine At.enter rfl ?_
      refine r_iconst 0 rfl ?_
      refine Ar.fall 17 rfl ?_
      refine At.enter rfl ?_
      refine q_iretz (by decide) ?_
      refine At.enter rfl ?_
      refine r_ift (by decide) ?_
      refine At.enter rfl ?_
      refine r_iconst 0 rfl ?_
      refine Ar.fall 57 rfl ?_
      refine At.enter rfl ?_
      refine r_iretz (by decide) ?_
      exact ⟨_, rfl, hI0, hF0, _, rfl, by decide⟩
    · have c53_ : a1.toInt < v52.toInt := en_i_ge_f c53
      refine At.enter rfl ?_
      refine r_iconst 1 rfl ?_
      refine r_goto ?_
      refine At.enter rfl ?_
      refine q_iretz (by decide) ?_
      refine At.enter rfl ?_
      refine r_iff 11 rfl (by decide) ?_
      refine At.enter rfl ?_
      refine r_aload_n rfl ?_
      refine q_getR (Sh.ref hI0.1 kx_188 rfl) ?_
      refine r_iload_n rfl ?_
      obtain ⟨v56, hv56⟩ : ∃ v, eA g0 199 a1.toInt = v := ⟨_, rfl⟩
      refine q_iald (Sh.arr hI0.1 ka_199) a1.toInt rfl (by omega) v56 hv56 ?_
      refine r_aload_n rfl ?_
      refine q_getR (Sh.ref hI0.1 kx_188 rfl) ?_
      obtain ⟨v57, hv57⟩ : ∃ v, gI g0 1 11 = v := ⟨_, rfl⟩
      refine q_getI (Sh.int hI0.1 kx_1 rfl) v57 hv57 ?_
      have bv59 := q_bnd v56
      have bv60 := q_bnd v57
      refine r_ics 27 rfl (fun c58 => ?_) (fun c58 => ?_)
      · have c58_ : v56.toInt ≥ v57.toInt := en_i_ge_t c58
        refine At.enter rfl ?_
        refine r_iconst 0 rfl ?_
        refine Ar.fall 57 rfl ?_
        refine At.enter rfl ?_
        refine r_iretz (by decide) ?_
        exact ⟨_, rfl, hI0, hF0, _, rfl, by decide⟩
      · have c58_ : v56.toInt < v57.toInt := en_i_ge_f c58
        refine At.enter rfl ?_
        refine r_aload_n rfl ?_
        refine q_getR (Sh.ref hI0.1 kx_188 rfl) ?_
        refine r_iload_n rfl ?_
        obtain ⟨v61, hv61⟩ : ∃ v, eA g0 200 a1.toInt = v := ⟨_, rfl⟩
        refine q_iald (Sh.arr hI0.1 ka_200) a1.toInt rfl (by omega) v61 hv61 ?_
        refine r_aload_n rfl ?_
        refine q_getR (Sh.ref hI0.1 kx_188 rfl) ?_
        refine r_iload_n rfl ?_
        refine r_iconst 0 rfl ?_
        refine r_callV 42 rfl [.ref 1, .int a2, .int 0] [.int v61] (Nat.le_of_ble_eq_true rfl) rfl (T_X0_about_1 _ hI0 a2 0) ?_
        rintro _ _ ⟨g62, rfl, hI63, hF64, v65, rfl, hr66⟩
        refine At.sti ?_
        have ks69 := hr66.2.2
        have hr68 : _ ∧ _ := ⟨hr66.1, hr66.2.1⟩
        have hF67 := Fr.tr hF0 hF64 rfl rfl
        have zv70 : (0 : Int32).toInt = 0 := rfl
        refine At.enter rfl ?_
        refine q_iaddO (fun v71 _ => ?_)
        refine r_aload_n rfl ?_
        refine q_getR (Sh.ref hI63.1 kx_188 rfl) ?_
        refine r_iload_n rfl ?_
        obtain ⟨v72, hv72⟩ : ∃ v, eA g0 189 a1.toInt = v := ⟨_, rfl⟩
        refine q_iald (Sh.arr hI63.1 ka_189) a1.toInt rfl (by omega) v72 ((eA_c (hF64.2.1 189 ma_X0_about_1_189)).trans hv72) ?_
        have bv74 := q_bnd v71
        have bv75 := q_bnd v72
        refine r_ics 52 rfl (fun c73 => ?_) (fun c73 => ?_)
        · have c73_ : v71.toInt > v72.toInt := en_i_gt_t c73
          refine At.enter rfl ?_
          refine r_iconst 0 rfl ?_
          refine Ar.fall 57 rfl ?_
          refine At.enter rfl ?_
          refine r_iretz (by decide) ?_
          exact ⟨_, rfl, hI63, hF67, _, rfl, by decide⟩
        · have c73_ : v71.toInt ≤ v72.toInt := en_i_gt_f c73
          refine At.enter rfl ?_
          refine r_iconst 1 rfl ?_
          refine r_goto ?_
          refine At.enter rfl ?_
          refine r_iretz (by decide) ?_
          exact ⟨_, rfl, hI63, hF67, _, rfl, by decide⟩
