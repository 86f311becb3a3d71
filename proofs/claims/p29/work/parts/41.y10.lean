def F_X10_home_0 : List (Nat × Nat) := [(185, 3), (204, 16), (204, 18), (222, 2), (222, 3), (222, 4), (222, 5)]
def A_X10_home_0 : List Nat := [205, 206, 207, 208, 209, 210, 211, 212, 213, 214, 215, 216, 218]
set_option maxRecDepth 100000 in
set_option maxHeartbeats 4000000 in
theorem T_X10_home_0 (d : Nat) {N : Nat} {g0 : List en_E} (hI0 : HI g0) (a1 : Int32) : Ev (d + 8) 126 [.ref 0, .int a1] (g0, N) (fun w h' => ∃ g', h' = (g', N) ∧ HI g' ∧ Fr F_X10_home_0 A_X10_home_0 g0 g' ∧ ∃ r : Int32, w = some (.int r) ∧ True) := by
  have hF0 : Fr F_X10_home_0 A_X10_home_0 g0 g0 := Fr.rf
  refine Ev.mk rfl rfl ⟨Nat.le_of_ble_eq_true rfl, Or.inr (q_rc hI0.1 kx_0 rfl)⟩ ?_
  show At _ none _ _ (0, [(0, .ref 0), (1, .int a1)], [], (_, _)) _
  refine At.enter rfl ?_
  refine r_iload_n rfl ?_
  refine r_iconst 0 rfl ?_
  refine r_iconst 2 rfl ?_
  refine q_inlS 6 rfl [.int a1, .int 0, .int 2] [] (Nat.le_of_ble_eq_true rfl) rfl ?_
  refine Ev.mk rfl rfl ⟨Nat.le_of_ble_eq_true rfl, Or.inl rfl⟩ ?_
  show At _ none _ _ (0, [(0, .int a1), (1, .int 0), (2, .int 2)], [], (_, _)) _
  refine At.enter rfl ?_
  refine r_iload_n rfl ?_
  refine r_iload_n rfl ?_
  refine r_ics 5 rfl (fun c17 => ?_) (fun c17 => ?_)
  · have c17_ : a1.toInt < 0 := en_i_lt_t c17
    refine At.enter rfl ?_
    refine r_iconst 0 rfl ?_
    refine Ar.fall 15 rfl ?_
    refine At.enter rfl ?_
    refine q_iretz (by decide) ?_
    refine At.enter rfl ?_
    refine r_ift (by decide) ?_
    refine At.enter rfl ?_
    refine r_iconst (-1) rfl ?_
    refine Ar.fall 21 rfl ?_
    refine At.enter rfl ?_
    refine r_ireti ?_
    exact ⟨_, rfl, hI0, hF0, _, rfl, trivial⟩
  · have c17_ : a1.toInt ≥ 0 := en_i_lt_f c17
    refine At.enter rfl ?_
    refine r_iload_n rfl ?_
    refine r_iload_n rfl ?_
    refine r_ics 10 rfl (fun c18 => ?_) (fun c18 => ?_)
    · have c18_ : a1.toInt > 2 := en_i_gt_t c18
      refine At.enter rfl ?_
      refine r_iconst 0 rfl ?_
      refine Ar.fall 15 rfl ?_
      refine At.enter rfl ?_
      refine q_iretz (by decide) ?_
      refine At.enter rfl ?_
      refine r_ift (by decide) ?_
      refine At.enter rfl ?_
      refine r_iconst (-1) rfl ?_
      refine Ar.fall 21 rfl ?_
      refine At.enter rfl ?_
      refine r_ireti ?_
      exact ⟨_, rfl, hI0, hF0, _, rfl, trivial⟩
    · have c18_ : a1.toInt ≤ 2 := en_i_gt_f c18
      refine At.enter rfl ?_
      refine r_iconst 1 rfl ?_
      refine r_goto ?_
      refine At.enter rfl ?_
      refine q_iretz (by decide) ?_
      refine At.enter rfl ?_
      refine r_iff 9 rfl (by decide) ?_
      refine At.enter rfl ?_
      refine r_aload_n rfl ?_
      refine q_getR (Sh.ref hI0.1 kx_0 rfl) ?_
      refine r_iload_n rfl ?_
      refine r_callV 17 rfl [.ref 222, .int a1] [] (Nat.le_of_ble_eq_true rfl) rfl (T_X6_told_222 _ hI0 a1) ?_
      rintro _ _ ⟨g19, rfl, hI20, hF21, v22, rfl, hr23⟩
      refine At.sti ?_
      have hF24 := Fr.tr hF0 hF21 rfl rfl
      refine At.enter rfl ?_
      refine r_goto ?_
      refine At.enter rfl ?_
      refine r_ireti ?_
      exact ⟨_, rfl, hI20, hF24, _, rfl, trivial⟩

def F_X10_cost_0 : List (Nat × Nat) := [(185, 3), (223, 5), (223, 6)]
def A_X10_cost_0 : List Nat := [224, 226]
set_option maxRecDepth 100000 in
set_option maxHeartbeats 4000000 in
theorem T_X10_cost_0 (d : Nat) {N : Nat} {g0 : List en_E} (hI0 : HI g0) (a1 : Int32) : Ev (d + 7) 127 [.ref 0, .int a1] (g0, N) (fun w h' => ∃ g', h' = (g', N) ∧ HI g' ∧ Fr F_X10_cost_0 A_X10_cost_0 g0 g' ∧ ∃ r : Int32, w = some (.int r) ∧ True ∧ CSQ g0 g' a1.toInt r.toInt) := by
  have hF0 : Fr F_X10_cost_0 A_X10_cost_0 g0 g0 := Fr.rf
  refine Ev.mk rfl rfl ⟨Nat.le_of_ble_eq_true rfl, Or.inr (q_rc hI0.1 kx_0 rfl)⟩ ?_
  show At _ none _ _ (0, [(0, .ref 0), (1, .int a1)], [], (_, _)) _
  refine At.enter rfl ?_
  refine r_aload_n rfl ?_
  refine q_getR (Sh.ref hI0.1 kx_0 rfl) ?_
  refine r_iload_n rfl ?_
  refine q_inlV 8 rfl [.ref 1, .int a1] [] (Nat.le_of_ble_eq_true rfl) rfl ?_
  refine Ev.mk rfl rfl ⟨Nat.le_of_ble_eq_true rfl, Or.inr (q_rc hI0.1 kx_1 rfl)⟩ ?_
  show At _ none _ _ (0, [(0, .ref 1), (1, .int a1)], [], (_, _)) _
  refine At.enter rfl ?_
  refine r_iload_n rfl ?_
  refine r_ifs 4 rfl (fun c23 => ?_) (fun c23 => ?_)
  · have c23_ : a1.toInt < 0 := en_k_lt_t c23
    refine At.enter rfl ?_
    refine r_iconst 0 rfl ?_
    refine Ar.fall 17 rfl ?_
    refine At.enter rfl ?_
    refine q_iretz (by decide) ?_
    refine At.enter rfl ?_
    refine r_ift (by decide) ?_
    refine At.enter rfl ?_
    refine r_iconst (-1) rfl ?_
    refine Ar.fall 23 rfl ?_
    refine At.enter rfl ?_
    refine r_ireti ?_
    have zv24 : ((-1) : Int32).toInt = (-1) := rfl
    exact ⟨_, rfl, hI0, hF0, _, rfl, trivial, ⟨fun _ => ⟨by omega, fun t => t⟩, fun z => absurd z.1 (by omega)⟩⟩
  · have c23_ : a1.toInt ≥ 0 := en_k_lt_f c23
    refine At.enter rfl ?_
    refine r_iload_n rfl ?_
    refine r_aload_n rfl ?_
    obtain ⟨v25, hv25⟩ : ∃ v, gI g0 1 4 = v := ⟨_, rfl⟩
    have rv25 := RgF.at hI0.2.1 (p := 1) (b := 4) rfl
    rw [hv25] at rv25
    dsimp only at rv25
    refine q_getI (Sh.int hI0.1 kx_1 rfl) v25 hv25 ?_
    have bv27 := q_bnd a1
    have bv28 := q_bnd v25
    refine r_ics 12 rfl (fun c26 => ?_) (fun c26 => ?_)
    · have c26_ : a1.toInt ≥ v25.toInt := en_i_ge_t c26
      refine At.enter rfl ?_
      refine r_iconst 0 rfl ?_
      refine Ar.fall 17 rfl ?_
      refine At.enter rfl ?_
      refine q_iretz (by decide) ?_
      refine At.enter rfl ?_
      refine r_ift (by decide) ?_
      refine At.enter rfl ?_
      refine r_iconst (-1) rfl ?_
      refine Ar.fall 23 rfl ?_
      refine At.enter rfl ?_
      refine r_ireti ?_
      have zv29 : ((-1) : Int32).toInt = (-1) := rfl
      exact ⟨_, rfl, hI0, hF0, _, rfl, trivial, ⟨fun _ => ⟨by omega, fun t => t⟩, fun z => absurd z.2 (by have y := congrArg Int32.toInt hv25; omega)⟩⟩
    · have c26_ : a1.toInt < v25.toInt := en_i_ge_f c26
      refine At.enter rfl ?_
      refine r_iconst 1 rfl ?_
      refine r_goto ?_
      refine At.enter rfl ?_
      refine q_iretz (by decide) ?_
      refine At.enter rfl ?_
      refine r_iff 11 rfl (by decide) ?_
      refine At.enter rfl ?_
      refine r_aload_n rfl ?_
      refine q_getR (Sh.ref hI0.1 kx_0 rfl) ?_
      refine r_iload_n rfl ?_
      refine r_callV 19 rfl [.ref 223, .int a1] [] (Nat.le_of_ble_eq_true rfl) rfl (T_X2_costOf_223 _ hI0 a1) ?_
      rintro _ _ ⟨g30, rfl, hI31, hF32, v33, rfl, hr34⟩
      refine At.sti ?_
      have hF35 := Fr.tr hF0 hF32 rfl rfl
      refine At.enter rfl ?_
      refine r_goto ?_
      refine At.enter rfl ?_
      refine r_ireti ?_
      exact ⟨_, rfl, hI31, hF35, _, rfl, trivial, ⟨fun z => absurd (show _ from ⟨by have y := congrArg Int32.toInt hv25; omega, by have y := congrArg Int32.toInt hv25; omega⟩) z, fun _ => hr34.2⟩⟩

def F_X10_sent_0 : List (Nat × Nat) := [(185, 3), (223, 5), (223, 6)]
def A_X10_sent_0 : List Nat := [224, 226]
theorem ma_X2_costOf_223_5 : memA A_X2_costOf_223 5 = false := by decide
theorem mf_X2_costOf_223_1_4 : memF F_X2_costOf_223 1 4 = false := by decide
set_option maxRecDepth 100000 in
set_option maxHeartbeats 4000000 in
theorem T_X10_sent_0 (d : Nat) {N : Nat} {g0 : List en_E} (hI0 : HI g0) (a1 : Int32) : Ev (d + 7) 128 [.ref 0, .int a1] (g0, N) (fun w h' => ∃ g', h' = (g', N) ∧ HI g' ∧ Fr F_X10_sent_0 A_X10_sent_0 g0 g' ∧ ∃ r : Int32, w = some (.int r) ∧ ((-1) ≤ r.toInt ∧ r.toInt ≤ 1) ∧ SNQ g0 g' a1.toInt r.toInt) := by
  have hF0 : Fr F_X10_sent_0 A_X10_sent_0 g0 g0 := Fr.rf
  refine Ev.mk rfl rfl ⟨Nat.le_of_ble_eq_true rfl, Or.inr (q_rc hI0.1 kx_0 rfl)⟩ ?_
  show At _ none _ _ (0, [(0, .ref 0), (1, .int a1)], [], (_, _)) _
  refine At.enter rfl ?_
  refine r_aload_n rfl ?_
  refine q_getR (Sh.ref hI0.1 kx_0 rfl) ?_
  refine r_iload_n rfl ?_
  refine q_inlV 8 rfl [.ref 1, .int a1] [] (Nat.le_of_ble_eq_true rfl) rfl ?_
  refine Ev.mk rfl rfl ⟨Nat.le_of_ble_eq_true rfl, Or.inr (q_rc hI0.1 kx_1 rfl)⟩ ?_
  show At _ none _ _ (0, [(0, .ref 1), (1, .int a1)], [], (_, _)) _
  refine At.enter rfl ?_
  refine r_iload_n rfl ?_
  refine r_ifs 4 rfl (fun c49 => ?_) (fun c49 => ?_)
  · have c49_ : a1.toInt < 0 := en_k_lt_t c49
    refine At.enter rfl ?_
    refine r_iconst 0 rfl ?_
    refine Ar.fall 17 rfl ?_
    refine At.enter rfl ?_
    refine q_iretz (by decide) ?_
    refine At.enter rfl ?_
    refine r_iff 11 rfl (by decide) ?_
    refine At.enter rfl ?_
    refine r_iconst (-1) rfl ?_
    refine r_ireti ?_
    have zv50 : ((-1) : Int32).toInt = (-1) := rfl
    exact ⟨_, rfl, hI0, hF0, _, rfl, by decide, ⟨fun _ => ⟨by omega, fun t => t⟩, fun z => absurd z.1 (by omega)⟩⟩
  · have c49_ : a1.toInt ≥ 0 := en_k_lt_f c49
    refine At.enter rfl ?_
    refine r_iload_n rfl ?_
    refine r_aload_n rfl ?_
    obtain ⟨v51, hv51⟩ : ∃ v, gI g0 1 4 = v := ⟨_, rfl⟩
    have rv51 := RgF.at hI0.2.1 (p := 1) (b := 4) rfl
    rw [hv51] at rv51
    dsimp only at rv51
    refine q_getI (Sh.int hI0.1 kx_1 rfl) v51 hv51 ?_
    have bv53 := q_bnd a1
    have bv54 := q_bnd v51
    refine r_ics 12 rfl (fun c52 => ?_) (fun c52 => ?_)
    · have c52_ : a1.toInt ≥ v51.toInt := en_i_ge_t c52
      refine At.enter rfl ?_
      refine r_iconst 0 rfl ?_
      refine Ar.fall 17 rfl ?_
      refine At.enter rfl ?_
      refine q_iretz (by decide) ?_
      refine At.enter rfl ?_
      refine r_iff 11 rfl (by decide) ?_
      refine At.enter rfl ?_
      refine r_iconst (-1) rfl ?_
      refine r_ireti ?_
      have zv55 : ((-1) : Int32).toInt = (-1) := rfl
      exact ⟨_, rfl, hI0, hF0, _, rfl, by decide, ⟨fun _ => ⟨by omega, fun t => t⟩, fun z => absurd z.2 (by have y := congrArg Int32.toInt hv51; omega)⟩⟩
    · have c52_ : a1.toInt < v51.toInt := en_i_ge_f c52
      refine At.enter rfl ?_
      refine r_iconst 1 rfl ?_
      refine r_goto ?_
      refine At.enter rfl ?_
      refine q_iretz (by decide) ?_
      refine At.enter rfl ?_
      refine r_ift (by decide) ?_
      refine At.enter rfl ?_
      refine r_aload_n rfl ?_
      refine q_getR (Sh.ref hI0.1 kx_0 rfl) ?_
      refine r_iload_n rfl ?_
      refine r_callV 21 rfl [.ref 223, .int a1] [] (Nat.le_of_ble_eq_true rfl) rfl (T_X2_costOf_223 _ hI0 a1) ?_
      rintro _ _ ⟨g56, rfl, hI57, hF58, v59, rfl, hr60⟩
      refine At.sti ?_
      have hF61 := Fr.tr hF0 hF58 rfl rfl
      refine At.enter rfl ?_
      refine r_istore_n ([(2, .int v59), (0, .ref 0), (1, .int a1)]) rfl ?_
      refine r_iload_n rfl ?_
      refine r_iconst (-1) rfl ?_
      refine r_ics 27 rfl (fun c62 => ?_) (fun c62 => ?_)
      · have c62_ : v59.toInt = (-1) := en_i_eq_t c62
        refine At.enter rfl ?_
        refine r_iconst 0 rfl ?_
        refine Ar.fall 45 rfl ?_
        refine At.enter rfl ?_
        refine r_ireti ?_
        have zv63 : (0 : Int32).toInt = 0 := rfl
        exact ⟨_, rfl, hI57, hF61, _, rfl, by decide, ⟨fun z => absurd (show _ from ⟨by have y := congrArg Int32.toInt hv51; omega, by have y := congrArg Int32.toInt hv51; omega⟩) z, fun z => ⟨v59.toInt, hr60.2, SNV_mk (by first | exact Or.inl ⟨by omega, by omega, by omega⟩ | exact Or.inr ⟨by omega, by omega⟩)⟩⟩⟩
      · have c62_ : v59.toInt ≠ (-1) := en_i_eq_f c62
        refine At.enter rfl ?_
        refine r_iload_n rfl ?_
        refine r_aload_n rfl ?_
        refine q_getR (Sh.ref hI57.1 kx_0 rfl) ?_
        refine r_iload_n rfl ?_
        refine r_iconst 5 rfl ?_
        refine r_callV 37 rfl [.ref 1, .int a1, .int 5] [.int v59] (Nat.le_of_ble_eq_true rfl) rfl (T_X0_about_1 _ hI57 a1 5) ?_
        rintro _ _ ⟨g64, rfl, hI65, hF66, v67, rfl, hr68⟩
        refine At.sti ?_
        have ks71 := hr68.2.2
        have hr70 : _ ∧ _ := ⟨hr68.1, hr68.2.1⟩
        have hF69 := Fr.tr hF61 hF66 rfl rfl
        have zv72 : (5 : Int32).toInt = 5 := rfl
        have ab73 : ABX g0 a1.toInt 5 v67.toInt := ABX.c ((hF58.2.1 5 ma_X2_costOf_223_5)) ((hF58.1 1 4 mf_X2_costOf_223_1_4)) hr70.2
        refine At.enter rfl ?_
        have bv75 := q_bnd v59
        have bv76 := q_bnd v67
        refine r_ics 40 rfl (fun c74 => ?_) (fun c74 => ?_)
        · have c74_ : v59.toInt > v67.toInt := en_i_gt_t c74
          refine At.enter rfl ?_
          refine r_iconst 0 rfl ?_
          refine Ar.fall 45 rfl ?_
          refine At.enter rfl ?_
          refine r_ireti ?_
          have zv77 : (0 : Int32).toInt = 0 := rfl
          exact ⟨_, rfl, hI65, hF69, _, rfl, by decide, ⟨fun z => absurd (show _ from ⟨by have y := congrArg Int32.toInt hv51; omega, by have y := congrArg Int32.toInt hv51; omega⟩) z, fun z => ⟨v59.toInt, (CSP_fr hr60.2 (TOLDX_fr hF66 rfl rfl rfl rfl)), SNV_mk (by have e := ab73.1 ⟨z.1, z.2, by decide, by decide⟩; first | exact Or.inl ⟨by omega, by omega, by omega⟩ | exact Or.inr ⟨by omega, by omega⟩)⟩⟩⟩
        · have c74_ : v59.toInt ≤ v67.toInt := en_i_gt_f c74
          refine At.enter rfl ?_
          refine r_iconst 1 rfl ?_
          refine r_goto ?_
          refine At.enter rfl ?_
          refine r_ireti ?_
          have zv78 : (1 : Int32).toInt = 1 := rfl
          exact ⟨_, rfl, hI65, hF69, _, rfl, by decide, ⟨fun z => absurd (show _ from ⟨by have y := congrArg Int32.toInt hv51; omega, by have y := congrArg Int32.toInt hv51; omega⟩) z, fun z => ⟨v59.toInt, (CSP_fr hr60.2 (TOLDX_fr hF66 rfl rfl rfl rfl)), SNV_mk (by have e := ab73.1 ⟨z.1, z.2, by decide, by decide⟩; first | exact Or.inl ⟨by omega, by omega, by omega⟩ | exact Or.inr ⟨by omega, by omega⟩)⟩⟩⟩

def F_X10_income_0 : List (Nat × Nat) := [(185, 3), (223, 5), (223, 6), (223, 7), (223, 8), (223, 9)]
def A_X10_income_0 : List Nat := [224, 225, 226]
set_option maxRecDepth 100000 in
set_option maxHeartbeats 4000000 in
theorem T_X10_income_0 (d : Nat) {N : Nat} {g0 : List en_E} (hI0 : HI g0) (a1 : Int32) : Ev (d + 8) 129 [.ref 0, .int a1] (g0, N) (fun w h' => ∃ g', h' = (g', N) ∧ HI g' ∧ Fr F_X10_income_0 A_X10_income_0 g0 g' ∧ ∃ r : Int32, w = some (.int r) ∧ True ∧ IOQ g0 g' a1.toInt r.toInt) := by
  have hF0 : Fr F_X10_income_0 A_X10_income_0 g0 g0 := Fr.rf
  refine Ev.mk rfl rfl ⟨Nat.le_of_ble_eq_true rfl, Or.inr (q_rc hI0.1 kx_0 rfl)⟩ ?_
  show At _ none _ _ (0, [(0, .ref 0), (1, .int a1)], [], (_, _)) _
  refine At.enter rfl ?_
  refine r_aload_n rfl ?_
  refine q_getR (Sh.ref hI0.1 kx_0 rfl) ?_
  refine r_iload_n rfl ?_
  refine q_inlV 8 rfl [.ref 1, .int a1] [] (Nat.le_of_ble_eq_true rfl) rfl ?_
  refine Ev.mk rfl rfl ⟨Nat.le_of_ble_eq_true rfl, Or.inr (q_rc hI0.1 kx_1 rfl)⟩ ?_
  show At _ none _ _ (0, [(0, .ref 1), (1, .int a1)], [], (_, _)) _
  refine At.enter rfl ?_
  refine r_iload_n rfl ?_
  refine r_ifs 4 rfl (fun c23 => ?_) (fun c23 => ?_)
  · have c23_ : a1.toInt < 0 := en_k_lt_t c23
    refine At.enter rfl ?_
    refine r_iconst 0 rfl ?_
    refine Ar.fall 17 rfl ?_
    refine At.enter rfl ?_
    refine q_iretz (by decide) ?_
    refine At.enter rfl ?_
    refine r_ift (by decide) ?_
    refine At.enter rfl ?_
    refine r_iconst (-1) rfl ?_
    refine Ar.fall 23 rfl ?_
    refine At.enter rfl ?_
    refine r_ireti ?_
    have zv24 : ((-1) : Int32).toInt = (-1) := rfl
    exact ⟨_, rfl, hI0, hF0, _, rfl, trivial, ⟨fun _ => ⟨by omega, fun t => t⟩, fun z => absurd z.1 (by omega)⟩⟩
  · have c23_ : a1.toInt ≥ 0 := en_k_lt_f c23
    refine At.enter rfl ?_
    refine r_iload_n rfl ?_
    refine r_aload_n rfl ?_
    obtain ⟨v25, hv25⟩ : ∃ v, gI g0 1 0 = v := ⟨_, rfl⟩
    have rv25 := RgF.at hI0.2.1 (p := 1) (b := 0) rfl
    rw [hv25] at rv25
    dsimp only at rv25
    refine q_getI (Sh.int hI0.1 kx_1 rfl) v25 hv25 ?_
    have bv27 := q_bnd a1
    have bv28 := q_bnd v25
    refine r_ics 12 rfl (fun c26 => ?_) (fun c26 => ?_)
    · have c26_ : a1.toInt ≥ v25.toInt := en_i_ge_t c26
      refine At.enter rfl ?_
      refine r_iconst 0 rfl ?_
      refine Ar.fall 17 rfl ?_
      refine At.enter rfl ?_
      refine q_iretz (by decide) ?_
      refine At.enter rfl ?_
      refine r_ift (by decide) ?_
      refine At.enter rfl ?_
      refine r_iconst (-1) rfl ?_
      refine Ar.fall 23 rfl ?_
      refine At.enter rfl ?_
      refine r_ireti ?_
      have zv29 : ((-1) : Int32).toInt = (-1) := rfl
      exact ⟨_, rfl, hI0, hF0, _, rfl, trivial, ⟨fun _ => ⟨by omega, fun t => t⟩, fun z => absurd z.2 (by have y := congrArg Int32.toInt hv25; omega)⟩⟩
    · have c26_ : a1.toInt < v25.toInt := en_i_ge_f c26
      refine At.enter rfl ?_
      refine r_iconst 1 rfl ?_
      refine r_goto ?_
      refine At.enter rfl ?_
      refine q_iretz (by decide) ?_
      refine At.enter rfl ?_
      refine r_iff 11 rfl (by decide) ?_
      refine At.enter rfl ?_
      refine r_aload_n rfl ?_
      refine q_getR (Sh.ref hI0.1 kx_0 rfl) ?_
      refine r_iload_n rfl ?_
      refine r_callV 19 rfl [.ref 223, .int a1] [] (Nat.le_of_ble_eq_true rfl) rfl (T_X2_incomeOf_223 _ hI0 a1 (by omega)) ?_
      rintro _ _ ⟨g30, rfl, hI31, hF32, v33, rfl, hr34⟩
      refine At.sti ?_
      have hF35 := Fr.tr hF0 hF32 rfl rfl
      refine At.enter rfl ?_
      refine r_goto ?_
      refine At.enter rfl ?_
      refine r_ireti ?_
      exact ⟨_, rfl, hI31, hF35, _, rfl, trivial, ⟨fun z => absurd (show _ from ⟨by have y := congrArg Int32.toInt hv25; omega, by have y := congrArg Int32.toInt hv25; omega⟩) z, fun _ => hr34.2⟩⟩
