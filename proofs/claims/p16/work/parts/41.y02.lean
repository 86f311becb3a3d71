def F_X10_home_0 : List (Nat × Nat) := [(185, 3), (204, 16), (204, 18), (222, 2), (222, 3), (222, 4), (222, 5)]
def A_X10_home_0 : List Nat := [205, 206, 207, 208, 209, 210, 211, 212, 213, 214, 215, 216, 218]
set_option maxRecDepth 100000 in
set_option maxHeartbeats 4000000 in
theorem T_X10_home_0 (d : Nat) {N : Nat} {g0 : List en_E} (hI0 : HI g0) (a1 : Int32) : Ev (d + 8) 126 [.ref 0, .int a1] (g0, N) (fun w h' => ∃ g', h' = (g', N) ∧ HI g' ∧ Fr F_X10_home_0 A_X10_home_0 g0 g' ∧ ∃ r : Int32, w = some (.int r) ∧ True) := by
  have hF0 : Fr F_X10_home_0 A_X10_home_0 g0 g0 := Fr.rf
  refine Ev.mk rfl rfl ⟨Nat.le_of_ble_eq_true rfl, Or.inr (q_rc hI0.1 kx_0 rfl)⟩ ?_
  show At _ none _ _ (0, [(0, .ref 0), (1, .int a1)], [], (_, _)) _
  refine At.enter rfl ?_
  refine r_iload_n rfl ?_
  refine r_iconst 0 rfl ?_
  refine r_iconst 2 rfl ?_
  refine q_inlS 6 rfl [.int a1, .int 0, .int 2] [] (Nat.le_of_ble_eq_true rfl) rfl ?_
  refine Ev.mk rfl rfl ⟨Nat.le_of_ble_eq_true rfl, Or.inl rfl⟩ ?_
  show At _ none _ _ (0, [(0, .int a1), (1, .int 0), (2, .int 2)], [], (_, _)) _
  refine At.enter rfl ?_
  refine r_iload_n rfl ?_
  refine r_iload_n rfl ?_
  refine r_ics 5 rfl (fun c17 => ?_) (fun c17 => ?_)
  · have c17_ : a1.toInt < 0 := en_i_lt_t c17
    refine At.enter rfl ?_
    refine r_iconst 0 rfl ?_
    refine Ar.fall 15 rfl ?_
    refine At.enter rfl ?_
    refine q_iretz (by decide) ?_
    refine At.enter rfl ?_
    refine r_ift (by decide) ?_
    refine At.enter rfl ?_
    refine r_iconst (-1) rfl ?_
    refine Ar.fall 21 rfl ?_
    refine At.enter rfl ?_
    refine r_ireti ?_
    exact ⟨_, rfl, hI0, hF0, _, rfl, trivial⟩
  · have c17_ : a1.toInt ≥ 0 := en_i_lt_f c17
    refine At.enter rfl ?_
    refine r_iload_n rfl ?_
    refine r_iload_n rfl ?_
    refine r_ics 10 rfl (fun c18 => ?_) (fun c18 => ?_)
    · have c18_ : a1.toInt > 2 := en_i_gt_t c18
      refine At.enter rfl ?_
      refine r_iconst 0 rfl ?_
      refine Ar.fall 15 rfl ?_
      refine At.enter rfl ?_
      refine q_iretz (by decide) ?_
      refine At.enter rfl ?_
      refine r_ift (by decide) ?_
      refine At.enter rfl ?_
      refine r_iconst (-1) rfl ?_
      refine Ar.fall 21 rfl ?_
      refine At.enter rfl ?_
      refine r_ireti ?_
      exact ⟨_, rfl, hI0, hF0, _, rfl, trivial⟩
    · have c18_ : a1.toInt ≤ 2 := en_i_gt_f c18
      refine At.enter rfl ?_
      refine r_iconst 1 rfl ?_
      refine r_goto ?_
      refine At.enter rfl ?_
      refine q_iretz (by decide) ?_
      refine At.enter rfl ?_
      refine r_iff 9 rfl (by decide) ?_
      refine At.enter rfl ?_
      refine r_aload_n rfl ?_
      refine q_getR (Sh.ref hI0.1 kx_0 rfl) ?_
      refine r_iload_n rfl ?_
      refine r_callV 17 rfl [.ref 222, .int a1] [] (Nat.le_of_ble_eq_true rfl) rfl (T_X6_told_222 _ hI0 a1) ?_
      rintro _ _ ⟨g19, rfl, hI20, hF21, v22, rfl, hr23⟩
      refine At.sti ?_
      have hF24 := Fr.tr hF0 hF21 rfl rfl
      refine At.enter rfl ?_
      refine r_goto ?_
      refine At.enter rfl ?_
      refine r_ireti ?_
      exact ⟨_, rfl, hI20, hF24, _, rfl, trivial⟩

def F_X10_cost_0 : List (Nat × Nat) := [(185, 3), (223, 5), (223, 6)]
def A_X10_cost_0 : List Nat := [224, 226]
set_option maxRecDepth 100000 in
set_option maxHeartbeats 4000000 in
theorem T_X10_cost_0 (d : Nat) {N : Nat} {g0 : List en_E} (hI0 : HI g0) (a1 : Int32) : Ev (d + 7) 127 [.ref 0, .int a1] (g0, N) (fun w h' => ∃ g', h' = (g', N) ∧ HI g' ∧ Fr F_X10_cost_0 A_X10_cost_0 g0 g' ∧ ∃ r : Int32, w = some (.int r) ∧ True) := by
  have hF0 : Fr F_X10_cost_0 A_X10_cost_0 g0 g0 := Fr.rf
  refine Ev.mk rfl rfl ⟨Nat.le_of_ble_eq_true rfl, Or.inr (q_rc hI0.1 kx_0 rfl)⟩ ?_
  show At _ none _ _ (0, [(0, .ref 0), (1, .int a1)], [], (_, _)) _
  refine At.enter rfl ?_
  refine r_aload_n rfl ?_
  refine q_getR (Sh.ref hI0.1 kx_0 rfl) ?_
  refine r_iload_n rfl ?_
  refine q_inlV 8 rfl [.ref 1, .int a1] [] (Nat.le_of_ble_eq_true rfl) rfl ?_
  refine Ev.mk rfl rfl ⟨Nat.le_of_ble_eq_true rfl, Or.inr (q_rc hI0.1 kx_1 rfl)⟩ ?_
  show At _ none _ _ (0, [(0, .ref 1), (1, .int a1)], [], (_, _)) _
  refine At.enter rfl ?_
  refine r_iload_n rfl ?_
  refine r_ifs 4 rfl (fun c23 => ?_) (fun c23 => ?_)
  · have c23_ : a1.toInt < 0 := en_k_lt_t c23
    refine At.enter rfl ?_
    refine r_iconst 0 rfl ?_
    refine Ar.fall 17 rfl ?_
    refine At.enter rfl ?_
    refine q_iretz (by decide) ?_
    refine At.enter rfl ?_
    refine r_ift (by decide) ?_
    refine At.enter rfl ?_
    refine r_iconst (-1) rfl ?_
    refine Ar.fall 23 rfl ?_
    refine At.enter rfl ?_
    refine r_ireti ?_
    exact ⟨_, rfl, hI0, hF0, _, rfl, trivial⟩
  · have c23_ : a1.toInt ≥ 0 := en_k_lt_f c23
    refine At.enter rfl ?_
    refine r_iload_n rfl ?_
    refine r_aload_n rfl ?_
    obtain ⟨v24, hv24⟩ : ∃ v, gI g0 1 4 = v := ⟨_, rfl⟩
    have rv24 := RgF.at hI0.2.1 (p := 1) (b := 4) rfl
    rw [hv24] at rv24
    dsimp only at rv24
    refine q_getI (Sh.int hI0.1 kx_1 rfl) v24 hv24 ?_
    have bv26 := q_bnd a1
    have bv27 := q_bnd v24
    refine r_ics 12 rfl (fun c25 => ?_) (fun c25 => ?_)
    · have c25_ : a1.toInt ≥ v24.toInt := en_i_ge_t c25
      refine At.enter rfl ?_
      refine r_iconst 0 rfl ?_
      refine Ar.fall 17 rfl ?_
      refine At.enter rfl ?_
      refine q_iretz (by decide) ?_
      refine At.enter rfl ?_
      refine r_ift (by decide) ?_
      refine At.enter rfl ?_
      refine r_iconst (-1) rfl ?_
      refine Ar.fall 23 rfl ?_
      refine At.enter rfl ?_
      refine r_ireti ?_
      exact ⟨_, rfl, hI0, hF0, _, rfl, trivial⟩
    · have c25_ : a1.toInt < v24.toInt := en_i_ge_f c25
      refine At.enter rfl ?_
      refine r_iconst 1 rfl ?_
      refine r_goto ?_
      refine At.enter rfl ?_
      refine q_iretz (by decide) ?_
      refine At.enter rfl ?_
      refine r_iff 11 rfl (by decide) ?_
      refine At.enter rfl ?_
      refine r_aload_n rfl ?_
      refine q_getR (Sh.ref hI0.1 kx_0 rfl) ?_
      refine r_iload_n rfl ?_
      refine r_callV 19 rfl [.ref 223, .int a1] [] (Nat.le_of_ble_eq_true rfl) rfl (T_X2_costOf_223 _ hI0 a1) ?_
      rintro _ _ ⟨g28, rfl, hI29, hF30, v31, rfl, hr32⟩
      refine At.sti ?_
      have hF33 := Fr.tr hF0 hF30 rfl rfl
      refine At.enter rfl ?_
      refine r_goto ?_
      refine At.enter rfl ?_
      refine r_ireti ?_
      exact ⟨_, rfl, hI29, hF33, _, rfl, trivial⟩

def F_X10_sent_0 : List (Nat × Nat) := [(185, 3), (223, 5), (223, 6)]
def A_X10_sent_0 : List Nat := [224, 226]
set_option maxRecDepth 100000 in
set_option maxHeartbeats 4000000 in
theorem T_X10_sent_0 (d : Nat) {N : Nat} {g0 : List en_E} (hI0 : HI g0) (a1 : Int32) : Ev (d + 7) 128 [.ref 0, .int a1] (g0, N) (fun w h' => ∃ g', h' = (g', N) ∧ HI g' ∧ Fr F_X10_sent_0 A_X10_sent_0 g0 g' ∧ ∃ r : Int32, w = some (.int r) ∧ ((-1) ≤ r.toInt ∧ r.toInt ≤ 1)) := by
  have hF0 : Fr F_X10_sent_0 A_X10_sent_0 g0 g0 := Fr.rf
  refine Ev.mk rfl rfl ⟨Nat.le_of_ble_eq_true rfl, Or.inr (q_rc hI0.1 kx_0 rfl)⟩ ?_
  show At _ none _ _ (0, [(0, .ref 0), (1, .int a1)], [], (_, _)) _
  refine At.enter rfl ?_
  refine r_aload_n rfl ?_
  refine q_getR (Sh.ref hI0.1 kx_0 rfl) ?_
  refine r_iload_n rfl ?_
  refine q_inlV 8 rfl [.ref 1, .int a1] [] (Nat.le_of_ble_eq_true rfl) rfl ?_
  refine Ev.mk rfl rfl ⟨Nat.le_of_ble_eq_true rfl, Or.inr (q_rc hI0.1 kx_1 rfl)⟩ ?_
  show At _ none _ _ (0, [(0, .ref 1), (1, .int a1)], [], (_, _)) _
  refine At.enter rfl ?_
  refine r_iload_n rfl ?_
  refine r_ifs 4 rfl (fun c45 => ?_) (fun c45 => ?_)
  · have c45_ : a1.toInt < 0 := en_k_lt_t c45
    refine At.enter rfl ?_
    refine r_iconst 0 rfl ?_
    refine Ar.fall 17 rfl ?_
    refine At.enter rfl ?_
    refine q_iretz (by decide) ?_
    refine At.enter rfl ?_
    refine r_iff 11 rfl (by decide) ?_
    refine At.enter rfl ?_
    refine r_iconst (-1) rfl ?_
    refine r_ireti ?_
    exact ⟨_, rfl, hI0, hF0, _, rfl, by decide⟩
  · have c45_ : a1.toInt ≥ 0 := en_k_lt_f c45
    refine At.enter rfl ?_
    refine r_iload_n rfl ?_
    refine r_aload_n rfl ?_
    obtain ⟨v46, hv46⟩ : ∃ v, gI g0 1 4 = v := ⟨_, rfl⟩
    have rv46 := RgF.at hI0.2.1 (p := 1) (b := 4) rfl
    rw [hv46] at rv46
    dsimp only at rv46
    refine q_getI (Sh.int hI0.1 kx_1 rfl) v46 hv46 ?_
    have bv48 := q_bnd a1
    have bv49 := q_bnd v46
    refine r_ics 12 rfl (fun c47 => ?_) (fun c47 => ?_)
    · have c47_ : a1.toInt ≥ v46.toInt := en_i_ge_t c47
      refine At.enter rfl ?_
      refine r_iconst 0 rfl ?_
      refine Ar.fall 17 rfl ?_
      refine At.enter rfl ?_
      refine q_iretz (by decide) ?_
      refine At.enter rfl ?_
      refine r_iff 11 rfl (by decide) ?_
      refine At.enter rfl ?_
      refine r_iconst (-1) rfl ?_
      refine r_ireti ?_
      exact ⟨_, rfl, hI0, hF0, _, rfl, by decide⟩
    · have c47_ : a1.toInt < v46.toInt := en_i_ge_f c47
      refine At.enter rfl ?_
      refine r_iconst 1 rfl ?_
      refine r_goto ?_
      refine At.enter rfl ?_
      refine q_iretz (by decide) ?_
      refine At.enter rfl ?_
      refine r_ift (by decide) ?_
      refine At.enter rfl ?_
      refine r_aload_n rfl ?_
      refine q_getR (Sh.ref hI0.1 kx_0 rfl) ?_
      refine r_iload_n rfl ?_
      refine r_callV 21 rfl [.ref 223, .int a1] [] (Nat.le_of_ble_eq_true rfl) rfl (T_X2_costOf_223 _ hI0 a1) ?_
      rintro _ _ ⟨g50, rfl, hI51, hF52, v53, rfl, hr54⟩
      refine At.sti ?_
      have hF55 := Fr.tr hF0 hF52 rfl rfl
      refine At.enter rfl ?_
      refine r_istore_n ([(2, .int v53), (0, .ref 0), (1, .int a1)]) rfl ?_
      refine r_iload_n rfl ?_
      refine r_iconst (-1) rfl ?_
      refine r_ics 27 rfl (fun c56 => ?_) (fun c56 => ?_)
      · have c56_ : v53.toInt = (-1) := en_i_eq_t c56
        refine At.enter rfl ?_
        refine r_iconst 0 rfl ?_
        refine Ar.fall 45 rfl ?_
        refine At.enter rfl ?_
        refine r_ireti ?_
        exact ⟨_, rfl, hI51, hF55, _, rfl, by decide⟩
      · have c56_ : v53.toInt ≠ (-1) := en_i_eq_f c56
        refine At.enter rfl ?_
        refine r_iload_n rfl ?_
        refine r_aload_n rfl ?_
        refine q_getR (Sh.ref hI51.1 kx_0 rfl) ?_
        refine r_iload_n rfl ?_
        refine r_iconst 5 rfl ?_
        refine r_callV 37 rfl [.ref 1, .int a1, .int 5] [.int v53] (Nat.le_of_ble_eq_true rfl) rfl (T_X0_about_1 _ hI51 a1 5) ?_
        rintro _ _ ⟨g57, rfl, hI58, hF59, v60, rfl, hr61⟩
        refine At.sti ?_
        have hF62 := Fr.tr hF55 hF59 rfl rfl
        have zv63 : (5 : Int32).toInt = 5 := rfl
        refine At.enter rfl ?_
        have bv65 := q_bnd v53
        have bv66 := q_bnd v60
        refine r_ics 40 rfl (fun c64 => ?_) (fun c64 => ?_)
        · have c64_ : v53.toInt > v60.toInt := en_i_gt_t c64
          refine At.enter rfl ?_
          refine r_iconst 0 rfl ?_
          refine Ar.fall 45 rfl ?_
          refine At.enter rfl ?_
          refine r_ireti ?_
          exact ⟨_, rfl, hI58, hF62, _, rfl, by decide⟩
        · have c64_ : v53.toInt ≤ v60.toInt := en_i_gt_f c64
          refine At.enter rfl ?_
          refine r_iconst 1 rfl ?_
          refine r_goto ?_
          refine At.enter rfl ?_
          refine r_ireti ?_
          exact ⟨_, rfl, hI58, hF62, _, rfl, by decide⟩

def F_X10_income_0 : List (Nat × Nat) := [(185, 3), (223, 5), (223, 6), (223, 7), (223, 8), (223, 9)]
def A_X10_income_0 : List Nat := [224, 225, 226]
set_option maxRecDepth 100000 in
set_option maxHeartbeats 4000000 in
theorem T_X10_income_0 (d : Nat) {N : Nat} {g0 : List en_E} (hI0 : HI g0) (a1 : Int32) : Ev (d + 8) 129 [.ref 0, .int a1] (g0, N) (fun w h' => ∃ g', h' = (g', N) ∧ HI g' ∧ Fr F_X10_income_0 A_X10_income_0 g0 g' ∧ ∃ r : Int32, w = some (.int r) ∧ True) := by
  have hF0 : Fr F_X10_income_0 A_X10_income_0 g0 g0 := Fr.rf
  refine Ev.mk rfl rfl ⟨Nat.le_of_ble_eq_true rfl, Or.inr (q_rc hI0.1 kx_0 rfl)⟩ ?_
  show At _ none _ _ (0, [(0, .ref 0), (1, .int a1)], [], (_, _)) _
  refine At.enter rfl ?_
  refine r_aload_n rfl ?_
  refine q_getR (Sh.ref hI0.1 kx_0 rfl) ?_
  refine r_iload_n rfl ?_
  refine q_inlV 8 rfl [.ref 1, .int a1] [] (Nat.le_of_ble_eq_true rfl) rfl ?_
  refine Ev.mk rfl rfl ⟨Nat.le_of_ble_eq_true rfl, Or.inr (q_rc hI0.1 kx_1 rfl)⟩ ?_
  show At _ none _ _ (0, [(0, .ref 1), (1, .int a1)], [], (_, _)) _
  refine At.enter rfl ?_
  refine r_iload_n rfl ?_
  refine r_ifs 4 rfl (fun c23 => ?_) (fun c23 => ?_)
  · have c23_ : a1.toInt < 0 := en_k_lt_t c23
    refine At.enter rfl ?_
    refine r_iconst 0 rfl ?_
    refine Ar.fall 17 rfl ?_
    refine At.enter rfl ?_
    refine q_iretz (by decide) ?_
    refine At.enter rfl ?_
    refine r_ift (by decide) ?_
    refine At.enter rfl ?_
    refine r_iconst (-1) rfl ?_
    refine Ar.fall 23 rfl ?_
    refine At.enter rfl ?_
    refine r_ireti ?_
    exact ⟨_, rfl, hI0, hF0, _, rfl, trivial⟩
  · have c23_ : a1.toInt ≥ 0 := en_k_lt_f c23
    refine At.enter rfl ?_
    refine r_iload_n rfl ?_
    refine r_aload_n rfl ?_
    obtain ⟨v24, hv24⟩ : ∃ v, gI g0 1 0 = v := ⟨_, rfl⟩
    have rv24 := RgF.at hI0.2.1 (p := 1) (b := 0) rfl
    rw [hv24] at rv24
    dsimp only at rv24
    refine q_getI (Sh.int hI0.1 kx_1 rfl) v24 hv24 ?_
    have bv26 := q_bnd a1
    have bv27 := q_bnd v24
    refine r_ics 12 rfl (fun c25 => ?_) (fun c25 => ?_)
    · have c25_ : a1.toInt ≥ v24.toInt := en_i_ge_t c25
      refine At.enter rfl ?_
      refine r_iconst 0 rfl ?_
      refine Ar.fall 17 rfl ?_
      refine At.enter rfl ?_
      refine q_iretz (by decide) ?_
      refine At.enter rfl ?_
      refine r_ift (by decide) ?_
      refine At.enter rfl ?_
      refine r_iconst (-1) rfl ?_
      refine Ar.fall 23 rfl ?_
      refine At.enter rfl ?_
      refine r_ireti ?_
      exact ⟨_, rfl, hI0, hF0, _, rfl, trivial⟩
    · have c25_ : a1.toInt < v24.toInt := en_i_ge_f c25
      refine At.enter rfl ?_
      refine r_iconst 1 rfl ?_
      refine r_goto ?_
      refine At.enter rfl ?_
      refine q_iretz (by decide) ?_
      refine At.enter rfl ?_
      refine r_iff 11 rfl (by decide) ?_
      refine At.enter rfl ?_
      refine r_aload_n rfl ?_
      refine q_getR (Sh.ref hI0.1 kx_0 rfl) ?_
      refine r_iload_n rfl ?_
      refine r_callV 19 rfl [.ref 223, .int a1] [] (Nat.le_of_ble_eq_true rfl) rfl (T_X2_incomeOf_223 _ hI0 a1 (by omega)) ?_
      rintro _ _ ⟨g28, rfl, hI29, hF30, v31, rfl, hr32⟩
      refine At.sti ?_
      have hF33 := Fr.tr hF0 hF30 rfl rfl
      refine At.enter rfl ?_
      refine r_goto ?_
      refine At.enter rfl ?_
      refine r_ireti ?_
      exact ⟨_, rfl, hI29, hF33, _, rfl, trivial⟩

def F_X10_answer_0 : List (Nat × Nat) := [(185, 3), (223, 5), (223, 6), (223, 7), (223, 8), (223, 9)]
def A_X10_answer_0 : List Nat := [224, 225, 226]
set_option maxRecDepth 100000 in
set_option maxHeartbeats 4000000 in
theorem T_X10_answer_0 (d : Nat) {N : Nat} {g0 : List en_E} (hI0 : HI g0) (a1 : Int32) (a2 : Int32) : Ev (d + 8) 130 [.ref 0, .int a1, .int a2] (g0, N) (fun w h' => ∃ g', h' = (g', N) ∧ HI g' ∧ Fr F_X10_answer_0 A_X10_answer_0 g0 g' ∧ ∃ r : Int32, w = some (.int r) ∧ True) := by
  have hF0 : Fr F_X10_answer_0 A_X10_answer_0 g0 g0 := Fr.rf
  refine Ev.mk rfl rfl ⟨Nat.le_of_ble_eq_true rfl, Or.inr (q_rc hI0.1 kx_0 rfl)⟩ ?_
  show At _ none _ _ (0, [(0, .ref 0), (1, .int a1), (2, .int a2)], [], (_, _)) _
  refine At.enter rfl ?_
  refine r_aload_n rfl ?_
  refine q_getR (Sh.ref hI0.1 kx_0 rfl) ?_
  refine r_iload_n rfl ?_
  refine q_inlV 8 rfl [.ref 1, .int a1] [] (Nat.le_of_ble_eq_true rfl) rfl ?_
  refine Ev.mk rfl rfl ⟨Nat.le_of_ble_eq_true rfl, Or.inr (q_rc hI0.1 kx_1 rfl)⟩ ?_
  show At _ none _ _ (0, [(0, .ref 1), (1, .int a1)], [], (_, _)) _
  refine At.enter rfl ?_
  refine r_iload_n rfl ?_
  refine r_ifs 4 rfl (fun c27 => ?_) (fun c27 => ?_)
  · have c27_ : a1.toInt < 0 := en_k_lt_t c27
    refine At.enter rfl ?_
    refine r_iconst 0 rfl ?_
    refine Ar.fall 17 rfl ?_
    refine At.enter rfl ?_
    refine q_iretz (by decide) ?_
    refine At.enter rfl ?_
    refine r_ift (by decide) ?_
    refine At.enter rfl ?_
    refine r_iconst (-1) rfl ?_
    refine Ar.fall 33 rfl ?_
    refine At.enter rfl ?_
    refine r_ireti ?_
    exact ⟨_, rfl, hI0, hF0, _, rfl, trivial⟩
  · have c27_ : a1.toInt ≥ 0 := en_k_lt_f c27
    refine At.enter rfl ?_
    refine r_iload_n rfl ?_
    refine r_aload_n rfl ?_
    obtain ⟨v28, hv28⟩ : ∃ v, gI g0 1 0 = v := ⟨_, rfl⟩
    have rv28 := RgF.at hI0.2.1 (p := 1) (b := 0) rfl
    rw [hv28] at rv28
    dsimp only at rv28
    refine q_getI (Sh.int hI0.1 kx_1 rfl) v28 hv28 ?_
    have bv30 := q_bnd a1
    have bv31 := q_bnd v28
    refine r_ics 12 rfl (fun c29 => ?_) (fun c29 => ?_)
    · have c29_ : a1.toInt ≥ v28.toInt := en_i_ge_t c29
      refine At.enter rfl ?_
      refine r_iconst 0 rfl ?_
      refine Ar.fall 17 rfl ?_
      refine At.enter rfl ?_
      refine q_iretz (by decide) ?_
      refine At.enter rfl ?_
      refine r_ift (by decide) ?_
      refine At.enter rfl ?_
      refine r_iconst (-1) rfl ?_
      refine Ar.fall 33 rfl ?_
      refine At.enter rfl ?_
      refine r_ireti ?_
      exact ⟨_, rfl, hI0, hF0, _, rfl, trivial⟩
    · have c29_ : a1.toInt < v28.toInt := en_i_ge_f c29
      refine At.enter rfl ?_
      refine r_iconst 1 rfl ?_
      refine r_goto ?_
      refine At.enter rfl ?_
      refine q_iretz (by decide) ?_
      refine At.enter rfl ?_
      refine r_iff 11 rfl (by decide) ?_
      refine At.enter rfl ?_
      refine r_iload_n rfl ?_
      refine r_iconst 0 rfl ?_
      refine r_iconst 1 rfl ?_
      refine q_inlS 17 rfl [.int a2, .int 0, .int 1] [] (Nat.le_of_ble_eq_true rfl) rfl ?_
      refine Ev.mk rfl rfl ⟨Nat.le_of_ble_eq_true rfl, Or.inl rfl⟩ ?_
      show At _ none _ _ (0, [(0, .int a2), (1, .int 0), (2, .int 1)], [], (_, _)) _
      refine At.enter rfl ?_
      refine r_iload_n rfl ?_
      refine r_iload_n rfl ?_
      refine r_ics 5 rfl (fun c32 => ?_) (fun c32 => ?_)
      · have c32_ : a2.toInt < 0 := en_i_lt_t c32
        refine At.enter rfl ?_
        refine r_iconst 0 rfl ?_
        refine Ar.fall 15 rfl ?_
        refine At.enter rfl ?_
        refine q_iretz (by decide) ?_
        refine At.enter rfl ?_
        refine r_ift (by decide) ?_
        refine At.enter rfl ?_
        refine r_iconst (-1) rfl ?_
        refine Ar.fall 33 rfl ?_
        refine At.enter rfl ?_
        refine r_ireti ?_
        exact ⟨_, rfl, hI0, hF0, _, rfl, trivial⟩
      · have c32_ : a2.toInt ≥ 0 := en_i_lt_f c32
        refine At.enter rfl ?_
        refine r_iload_n rfl ?_
        refine r_iload_n rfl ?_
        refine r_ics 10 rfl (fun c33 => ?_) (fun c33 => ?_)
        · have c33_ : a2.toInt > 1 := en_i_gt_t c33
          refine At.enter rfl ?_
          refine r_iconst 0 rfl ?_
          refine Ar.fall 15 rfl ?_
          refine At.enter rfl ?_
          refine q_iretz (by decide) ?_
          refine At.enter rfl ?_
          refine r_ift (by decide) ?_
          refine At.enter rfl ?_
          refine r_iconst (-1) rfl ?_
          refine Ar.fall 33 rfl ?_
          refine At.enter rfl ?_
          refine r_ireti ?_
          exact ⟨_, rfl, hI0, hF0, _, rfl, trivial⟩
        · have c33_ : a2.toInt ≤ 1 := en_i_gt_f c33
          refine At.enter rfl ?_
          refine r_iconst 1 rfl ?_
          refine r_goto ?_
          refine At.enter rfl ?_
          refine q_iretz (by decide) ?_
          refine At.enter rfl ?_
          refine r_iff 20 rfl (by decide) ?_
          refine At.enter rfl ?_
          refine r_aload_n rfl ?_
          refine q_getR (Sh.ref hI0.1 kx_0 rfl) ?_
          refine r_iload_n rfl ?_
          refine r_iload_n rfl ?_
          refine r_callV 29 rfl [.ref 223, .int a1, .int a2] [] (Nat.le_of_ble_eq_true rfl) rfl (T_X2_answerOf_223 _ hI0 a1 (by omega) a2) ?_
          rintro _ _ ⟨g34, rfl, hI35, hF36, v37, rfl, hr38⟩
          refine At.sti ?_
          have hF39 := Fr.tr hF0 hF36 rfl rfl
          refine At.enter rfl ?_
          refine r_goto ?_
          refine At.enter rfl ?_
          refine r_ireti ?_
          exact ⟨_, rfl, hI35, hF39, _, rfl, trivial⟩

def F_X10_restless_0 : List (Nat × Nat) := [(185, 3), (223, 5), (223, 6), (223, 7), (223, 8), (223, 9)]
def A_X10_restless_0 : List Nat := [224, 225, 226]
set_option maxRecDepth 100000 in
set_option maxHeartbeats 4000000 in
theorem T_X10_restless_0 (d : Nat) {N : Nat} {g0 : List en_E} (hI0 : HI g0) : Ev (d + 8) 131 [.ref 0] (g0, N) (fun w h' => ∃ g', h' = (g', N) ∧ HI g' ∧ Fr F_X10_restless_0 A_X10_restless_0 g0 g' ∧ ∃ r : Int32, w = some (.int r) ∧ ((-1) ≤ r.toInt ∧ r.toInt ≤ 11)) := by
  have hF0 : Fr F_X10_restless_0 A_X10_restless_0 g0 g0 := Fr.rf
  refine Ev.mk rfl rfl ⟨Nat.le_of_ble_eq_true rfl, Or.inr (q_rc hI0.1 kx_0 rfl)⟩ ?_
  show At _ none _ _ (0, [(0, .ref 0)], [], (_, _)) _
  refine At.enter rfl ?_
  refine r_aload_n rfl ?_
  refine q_getR (Sh.ref hI0.1 kx_0 rfl) ?_
  refine r_callV 7 rfl [.ref 223] [] (Nat.le_of_ble_eq_true rfl) rfl (T_X2_firstRestless_223 _ hI0) ?_
  rintro _ _ ⟨g13, rfl, hI14, hF15, v16, rfl, hr17⟩
  refine At.sti ?_
  have hF18 := Fr.tr hF0 hF15 rfl rfl
  refine At.enter rfl ?_
  refine r_ireti ?_
  exact ⟨_, rfl, hI14, hF18, _, rfl, by omega⟩

def F_X10_rests_0 : List (Nat × Nat) := [(185, 3), (223, 5), (223, 6), (223, 7), (223, 8), (223, 9), (223, 10), (223, 11)]
def A_X10_rests_0 : List Nat := [224, 225, 226, 227]
set_option maxRecDepth 100000 in
set_option maxHeartbeats 4000000 in
theorem T_X10_rests_0 (d : Nat) {N : Nat} {g0 : List en_E} (hI0 : HI g0) (a1 : Int32) : Ev (d + 8) 132 [.ref 0, .int a1] (g0, N) (fun w h' => ∃ g', h' = (g', N) ∧ HI g' ∧ Fr F_X10_rests_0 A_X10_rests_0 g0 g' ∧ ∃ r : Int32, w = some (.int r) ∧ True) := by
  have hF0 : Fr F_X10_rests_0 A_X10_rests_0 g0 g0 := Fr.rf
  refine Ev.mk rfl rfl ⟨Nat.le_of_ble_eq_true rfl, Or.inr (q_rc hI0.1 kx_0 rfl)⟩ ?_
  show At _ none _ _ (0, [(0, .ref 0), (1, .int a1)], [], (_, _)) _
  refine At.enter rfl ?_
  refine r_iload_n rfl ?_
  refine r_iconst (-1) rfl ?_
  refine r_ics 5 rfl (fun c61 => ?_) (fun c61 => ?_)
  · have c61_ : a1.toInt = (-1) := en_i_eq_t c61
    refine At.enter rfl ?_
    refine r_aload_n rfl ?_
    refine q_getR (Sh.ref hI0.1 kx_0 rfl) ?_
    refine r_callV 25 rfl [.ref 223] [] (Nat.le_of_ble_eq_true rfl) rfl (T_X2_settle_223 _ hI0) ?_
    rintro _ _ ⟨g62, rfl, hI63, hF64, rfl⟩
    refine At.stn ?_
    have hF67 := Fr.tr hF0 hF64 rfl rfl
    refine At.enter rfl ?_
    refine r_aload_n rfl ?_
    refine q_getR (Sh.ref hI63.1 kx_0 rfl) ?_
    refine r_iload_n rfl ?_
    refine r_callV 33 rfl [.ref 223, .int a1] [] (Nat.le_of_ble_eq_true rfl) rfl (T_X2_settled_223 _ hI63 a1) ?_
    rintro _ _ ⟨g68, rfl, hI69, hF70, v71, rfl, hr72⟩
    refine At.sti ?_
    have hF73 := Fr.tr hF67 hF70 rfl rfl
    refine At.enter rfl ?_
    refine r_ireti ?_
    exact ⟨_, rfl, hI69, hF73, _, rfl, trivial⟩
  · have c61_ : a1.toInt ≠ (-1) := en_i_eq_f c61
    refine At.enter rfl ?_
    refine r_aload_n rfl ?_
    refine q_getR (Sh.ref hI0.1 kx_0 rfl) ?_
    refine r_iload_n rfl ?_
    refine q_inlV 13 rfl [.ref 1, .int a1] [] (Nat.le_of_ble_eq_true rfl) rfl ?_
    refine Ev.mk rfl rfl ⟨Nat.le_of_ble_eq_true rfl, Or.inr (q_rc hI0.1 kx_1 rfl)⟩ ?_
    show At _ none _ _ (0, [(0, .ref 1), (1, .int a1)], [], (_, _)) _
    refine At.enter rfl ?_
    refine r_iload_n rfl ?_
    refine r_ifs 4 rfl (fun c74 => ?_) (fun c74 => ?_)
    · have c74_ : a1.toInt < 0 := en_k_lt_t c74
      refine At.enter rfl ?_
      refine r_iconst 0 rfl ?_
      refine Ar.fall 17 rfl ?_
      refine At.enter rfl ?_
      refine q_iretz (by decide) ?_
      refine At.enter rfl ?_
      refine r_iff 16 rfl (by decide) ?_
      refine At.enter rfl ?_
      refine r_iconst (-1) rfl ?_
      refine r_ireti ?_
      exact ⟨_, rfl, hI0, hF0, _, rfl, trivial⟩
    · have c74_ : a1.toInt ≥ 0 := en_k_lt_f c74
      refine At.enter rfl ?_
      refine r_iload_n rfl ?_
      refine r_aload_n rfl ?_
      obtain ⟨v75, hv75⟩ : ∃ v, gI g0 1 0 = v := ⟨_, rfl⟩
      have rv75 := RgF.at hI0.2.1 (p := 1) (b := 0) rfl
      rw [hv75] at rv75
      dsimp only at rv75
      refine q_getI (Sh.int hI0.1 kx_1 rfl) v75 hv75 ?_
      have bv77 := q_bnd a1
      have bv78 := q_bnd v75
      refine r_ics 12 rfl (fun c76 => ?_) (fun c76 => ?_)
      · have c76_ : a1.toInt ≥ v75.toInt := en_i_ge_t c76
        refine At.enter rfl ?_
        refine r_iconst 0 rfl ?_
        refine Ar.fall 17 rfl ?_
        refine At.enter rfl ?_
        refine q_iretz (by decide) ?_
        refine At.enter rfl ?_
        refine r_iff 16 rfl (by decide) ?_
        refine At.enter rfl ?_
        refine r_iconst (-1) rfl ?_
        refine r_ireti ?_
        exact ⟨_, rfl, hI0, hF0, _, rfl, trivial⟩
      · have c76_ : a1.toInt < v75.toInt := en_i_ge_f c76
        refine At.enter rfl ?_
        refine r_iconst 1 rfl ?_
        refine r_goto ?_
        refine At.enter rfl ?_
        refine q_iretz (by decide) ?_
        refine At.enter rfl ?_
        refine r_ift (by decide) ?_
        refine At.enter rfl ?_
        refine r_aload_n rfl ?_
        refine q_getR (Sh.ref hI0.1 kx_0 rfl) ?_
        refine r_callV 25 rfl [.ref 223] [] (Nat.le_of_ble_eq_true rfl) rfl (T_X2_settle_223 _ hI0) ?_
        rintro _ _ ⟨g79, rfl, hI80, hF81, rfl⟩
        refine At.stn ?_
        have hF84 := Fr.tr hF0 hF81 rfl rfl
        refine At.enter rfl ?_
        refine r_aload_n rfl ?_
        refine q_getR (Sh.ref hI80.1 kx_0 rfl) ?_
        refine r_iload_n rfl ?_
        refine r_callV 33 rfl [.ref 223, .int a1] [] (Nat.le_of_ble_eq_true rfl) rfl (T_X2_settled_223 _ hI80 a1) ?_
        rintro _ _ ⟨g85, rfl, hI86, hF87, v88, rfl, hr89⟩
        refine At.sti ?_
        have hF90 := Fr.tr hF84 hF87 rfl rfl
        refine At.enter rfl ?_
        refine r_ireti ?_
        exact ⟨_, rfl, hI86, hF90, _, rfl, trivial⟩

def F_X10_pieces_0 : List (Nat × Nat) := []
def A_X10_pieces_0 : List Nat := []
set_option maxRecDepth 100000 in
set_option maxHeartbeats 4000000 in
theorem T_X10_pieces_0 (d : Nat) {N : Nat} {g0 : List en_E} (hI0 : HI g0) (a1 : Int32) : Ev (d + 5) 133 [.ref 0, .int a1] (g0, N) (fun w h' => ∃ g', h' = (g', N) ∧ HI g' ∧ Fr F_X10_pieces_0 A_X10_pieces_0 g0 g' ∧ ∃ r : Int32, w = some (.int r) ∧ True ∧ ((¬ (0 ≤ a1.toInt ∧ a1.toInt < (gI g0 1 4).toInt) → r.toInt = -1) ∧ ((0 ≤ a1.toInt ∧ a1.toInt < (gI g0 1 4).toInt) → (eA g0 5 (6 * a1.toInt + 2)).toInt ≠ -1 → PCE (NX g0) (SX g0) 11 (eA g0 5 (6 * a1.toInt + 1)).toInt (eA g0 5 (6 * a1.toInt + 2)).toInt (eA g0 5 (6 * a1.toInt + 0)).toInt r))) := by
  have hF0 : Fr F_X10_pieces_0 A_X10_pieces_0 g0 g0 := Fr.rf
  refine Ev.mk rfl rfl ⟨Nat.le_of_ble_eq_true rfl, Or.inr (q_rc hI0.1 kx_0 rfl)⟩ ?_
  show At _ none _ _ (0, [(0, .ref 0), (1, .int a1)], [], (_, _)) _
  refine At.enter rfl ?_
  refine r_aload_n rfl ?_
  refine q_getR (Sh.ref hI0.1 kx_0 rfl) ?_
  refine r_iload_n rfl ?_
  refine q_inlV 8 rfl [.ref 1, .int a1] [] (Nat.le_of_ble_eq_true rfl) rfl ?_
  refine Ev.mk rfl rfl ⟨Nat.le_of_ble_eq_true rfl, Or.inr (q_rc hI0.1 kx_1 rfl)⟩ ?_
  show At _ none _ _ (0, [(0, .ref 1), (1, .int a1)], [], (_, _)) _
  refine At.enter rfl ?_
  refine r_iload_n rfl ?_
  refine r_ifs 4 rfl (fun c23 => ?_) (fun c23 => ?_)
  · have c23_ : a1.toInt < 0 := en_k_lt_t c23
    refine At.enter rfl ?_
    refine r_iconst 0 rfl ?_
    refine Ar.fall 17 rfl ?_
    refine At.enter rfl ?_
    refine q_iretz (by decide) ?_
    refine At.enter rfl ?_
    refine r_ift (by decide) ?_
    refine At.enter rfl ?_
    refine r_iconst (-1) rfl ?_
    refine Ar.fall 23 rfl ?_
    refine At.enter rfl ?_
    refine r_ireti ?_
    have zv24 : ((-1) : Int32).toInt = (-1) := rfl
    obtain ⟨v25, hv25⟩ : ∃ v, gI g0 1 4 = v := ⟨_, rfl⟩
    have rv25 := RgF.at hI0.2.1 (p := 1) (b := 4) rfl
    rw [hv25] at rv25
    dsimp only at rv25
    have tv25 := congrArg Int32.toInt hv25
    have x26 := HI.eqI hI0 (p := 1) (b := 4) (hv25)
    exact ⟨_, rfl, hI0, hF0, _, rfl, trivial, ⟨fun _ => by omega, fun h => absurd h (by omega)⟩⟩
  · have c23_ : a1.toInt ≥ 0 := en_k_lt_f c23
    refine At.enter rfl ?_
    refine r_iload_n rfl ?_
    refine r_aload_n rfl ?_
    obtain ⟨v27, hv27⟩ : ∃ v, gI g0 1 4 = v := ⟨_, rfl⟩
    have rv27 := RgF.at hI0.2.1 (p := 1) (b := 4) rfl
    rw [hv27] at rv27
    dsimp only at rv27
    refine q_getI (Sh.int hI0.1 kx_1 rfl) v27 hv27 ?_
    have bv29 := q_bnd a1
    have bv30 := q_bnd v27
    refine r_ics 12 rfl (fun c28 => ?_) (fun c28 => ?_)
    · have c28_ : a1.toInt ≥ v27.toInt := en_i_ge_t c28
      refine At.enter rfl ?_
      refine r_iconst 0 rfl ?_
      refine Ar.fall 17 rfl ?_
      refine At.enter rfl ?_
      refine q_iretz (by decide) ?_
      refine At.enter rfl ?_
      refine r_ift (by decide) ?_
      refine At.enter rfl ?_
      refine r_iconst (-1) rfl ?_
      refine Ar.fall 23 rfl ?_
      refine At.enter rfl ?_
      refine r_ireti ?_
      have zv31 : ((-1) : Int32).toInt = (-1) := rfl
      have x32 := HI.eqI hI0 (p := 1) (b := 4) (hv27)
      exact ⟨_, rfl, hI0, hF0, _, rfl, trivial, ⟨fun _ => by omega, fun h => absurd h (by omega)⟩⟩
    · have c28_ : a1.toInt < v27.toInt := en_i_ge_f c28
      refine At.enter rfl ?_
      refine r_iconst 1 rfl ?_
      refine r_goto ?_
      refine At.enter rfl ?_
      refine q_iretz (by decide) ?_
      refine At.enter rfl ?_
      refine r_iff 11 rfl (by decide) ?_
      refine At.enter rfl ?_
      refine r_aload_n rfl ?_
      refine q_getR (Sh.ref hI0.1 kx_0 rfl) ?_
      refine r_iload_n rfl ?_
      refine r_callV 19 rfl [.ref 184, .int a1] [] (Nat.le_of_ble_eq_true rfl) rfl (T_X9_minutesInPieces_184 _ hI0 a1) ?_
      rintro _ _ ⟨g33, rfl, hI34, hF35, v36, rfl, hr37⟩
      refine At.sti ?_
      have hF38 := Fr.tr hF0 hF35 rfl rfl
      refine At.enter rfl ?_
      refine r_goto ?_
      refine At.enter rfl ?_
      refine r_ireti ?_
      have x39 := HI.eqI hI0 (p := 1) (b := 4) (hv27)
      exact ⟨_, rfl, hI34, hF38, _, rfl, trivial, ⟨fun h => absurd h (by omega), fun h hw => hr37.2 h hw⟩⟩

def F_X10_sign_0 : List (Nat × Nat) := [(0, 17), (1, 12)]
def A_X10_sign_0 : List Nat := [14, 15, 230]
set_option maxRecDepth 100000 in
set_option maxHeartbeats 4000000 in
theorem T_X10_sign_0 (d : Nat) {N : Nat} {g0 : List en_E} (hI0 : HI g0) (a1 : Int32) (a2 : Int32) : Ev (d + 3) 134 [.ref 0, .int a1, .int a2] (g0, N) (fun w h' => ∃ g', h' = (g', N) ∧ HI g' ∧ Fr F_X10_sign_0 A_X10_sign_0 g0 g' ∧ ∃ r : Int32, w = some (.int r) ∧ ((-5) ≤ r.toInt ∧ r.toInt ≤ 8) ∧ (((¬ (0 ≤ a2.toInt ∧ a2.toInt ≤ 99) → r.toInt = -1 ∧ (gI g' 1 12).toInt = (gI g0 1 12).toInt) ∧ ((0 ≤ a2.toInt ∧ a2.toInt ≤ 99) ∧ ¬ (0 ≤ a1.toInt ∧ a1.toInt < (gI g0 1 0).toInt) → r.toInt = -2 ∧ (gI g' 1 12).toInt = (gI g0 1 12).toInt) ∧ ((0 ≤ a2.toInt ∧ a2.toInt ≤ 99) ∧ (0 ≤ a1.toInt ∧ a1.toInt < (gI g0 1 0).toInt) ∧ 8 ≤ (gI g0 1 12).toInt → r.toInt = -5 ∧ (gI g' 1 12).toInt = (gI g0 1 12).toInt) ∧ ((0 ≤ a2.toInt ∧ a2.toInt ≤ 99) ∧ (0 ≤ a1.toInt ∧ a1.toInt < (gI g0 1 0).toInt) ∧ (gI g0 1 12).toInt < 8 → r.toInt = (gI g0 1 12).toInt + 1 ∧ (gI g' 1 12).toInt = (gI g0 1 12).toInt + 1)) ∧ (∀ i : Int, 0 ≤ i → i < 8 → (eA g' 14 (i)).toInt = if (0 ≤ a2.toInt ∧ a2.toInt ≤ 99 ∧ 0 ≤ a1.toInt ∧ a1.toInt < (gI g0 1 0).toInt ∧ (gI g0 1 12).toInt < 8) ∧ i = (gI g0 1 12).toInt then a1.toInt else (eA g0 14 (i)).toInt) ∧ (∀ i : Int, 0 ≤ i → i < 8 → (eA g' 15 (i)).toInt = if (0 ≤ a2.toInt ∧ a2.toInt ≤ 99 ∧ 0 ≤ a1.toInt ∧ a1.toInt < (gI g0 1 0).toInt ∧ (gI g0 1 12).toInt < 8) ∧ i = (gI g0 1 12).toInt then a2.toInt else (eA g0 15 (i)).toInt))) := by
  have hF0 : Fr F_X10_sign_0 A_X10_sign_0 g0 g0 := Fr.rf
  refine Ev.mk rfl rfl ⟨Nat.le_of_ble_eq_true rfl, Or.inr (q_rc hI0.1 kx_0 rfl)⟩ ?_
  show At _ none _ _ (0, [(0, .ref 0), (1, .int a1), (2, .int a2)], [], (_, _)) _
  refine At.enter rfl ?_
  refine r_iload_n rfl ?_
  refine r_iconst 0 rfl ?_
  refine r_bipush 99 rfl ?_
  refine q_inlS 7 rfl [.int a2, .int 0, .int 99] [] (Nat.le_of_ble_eq_true rfl) rfl ?_
  refine Ev.mk rfl rfl ⟨Nat.le_of_ble_eq_true rfl, Or.inl rfl⟩ ?_
  show At _ none _ _ (0, [(0, .int a2), (1, .int 0), (2, .int 99)], [], (_, _)) _
  refine At.enter rfl ?_
  refine r_iload_n rfl ?_
  refine r_iload_n rfl ?_
  refine r_ics 5 rfl (fun c107 => ?_) (fun c107 => ?_)
  · have c107_ : a2.toInt < 0 := en_i_lt_t c107
    refine At.enter rfl ?_
    refine r_iconst 0 rfl ?_
    refine Ar.fall 15 rfl ?_
    refine At.enter rfl ?_
    refine q_iretz (by decide) ?_
    refine At.enter rfl ?_
    refine r_iff 10 rfl (by decide) ?_
    refine At.enter rfl ?_
    refine r_aload_n rfl ?_
    refine r_iconst (-1) rfl ?_
    refine r_callV 15 rfl [.ref 0, .int (-1)] [] (Nat.le_of_ble_eq_true rfl) rfl (T_X10_refused_0 _ hI0 (-1) (by decide)) ?_
    rintro _ _ ⟨g108, rfl, hI109, hF110, v111, rfl, hr112⟩
    refine At.sti ?_
    have hF113 := Fr.tr hF0 hF110 rfl rfl
    have zv114 : ((-1) : Int32).toInt = (-1) := rfl
    refine At.enter rfl ?_
    refine r_ireti ?_
    obtain ⟨v115, hv115⟩ : ∃ v, gI g0 1 12 = v := ⟨_, rfl⟩
    have rv115 := RgF.at hI0.2.1 (p := 1) (b := 12) rfl
    rw [hv115] at rv115
    dsimp only at rv115
    have tv115 := congrArg Int32.toInt hv115
    have x116 := HI.eqI hI109 (p := 1) (b := 12) (((hF110.1 1 12 (by decide)).trans hv115))
    have x117 := HI.eqI hI0 (p := 1) (b := 12) (hv115)
    obtain ⟨v118, hv118⟩ : ∃ v, gI g0 1 0 = v := ⟨_, rfl⟩
    have rv118 := RgF.at hI0.2.1 (p := 1) (b := 0) rfl
    rw [hv118] at rv118
    dsimp only at rv118
    have tv118 := congrArg Int32.toInt hv118
    have x119 := HI.eqI hI0 (p := 1) (b := 0) (hv118)
    have x120 := HI.eqI hI0 (p := 1) (b := 0) (hv118)
    have x121 := HI.eqI hI0 (p := 1) (b := 12) (hv115)
    exact ⟨_, rfl, hI109, hF113, _, rfl, by omega, ⟨(by omega), (by intro i i0 i1; refine Eq.trans ?_ (if_neg (show ¬ ((0 ≤ a2.toInt ∧ a2.toInt ≤ 99 ∧ 0 ≤ a1.toInt ∧ a1.toInt < (gI g0 1 0).toInt ∧ (gI g0 1 12).toInt < 8) ∧ i = (gI g0 1 12).toInt) from by omega)).symm; refine (eA_ti ((hF110.2.1 14 (by decide)))).trans ?_; (first | rfl | exact eA_ix (by omega) | omega)), (by intro i i0 i1; refine Eq.trans ?_ (if_neg (show ¬ ((0 ≤ a2.toInt ∧ a2.toInt ≤ 99 ∧ 0 ≤ a1.toInt ∧ a1.toInt < (gI g0 1 0).toInt ∧ (gI g0 1 12).toInt < 8) ∧ i = (gI g0 1 12).toInt) from by omega)).symm; refine (eA_ti ((hF110.2.1 15 (by decide)))).trans ?_; (first | rfl | exact eA_ix (by omega) | omega))⟩⟩
  · have c107_ : a2.toInt ≥ 0 := en_i_lt_f c107
    refine At.enter rfl ?_
    refine r_iload_n rfl ?_
    refine r_iload_n rfl ?_
    refine r_ics 10 rfl (fun c122 => ?_) (fun c122 => ?_)
    · have c122_ : a2.toInt > 99 := en_i_gt_t c122
      refine At.enter rfl ?_
      refine r_iconst 0 rfl ?_
      refine Ar.fall 15 rfl ?_
      refine At.enter rfl ?_
      refine q_iretz (by decide) ?_
      refine At.enter rfl ?_
      refine r_iff 10 rfl (by decide) ?_
      refine At.enter rfl ?_
      refine r_aload_n rfl ?_
      refine r_iconst (-1) rfl ?_
      refine r_callV 15 rfl [.ref 0, .int (-1)] [] (Nat.le_of_ble_eq_true rfl) rfl (T_X10_refused_0 _ hI0 (-1) (by decide)) ?_
      rintro _ _ ⟨g123, rfl, hI124, hF125, v126, rfl, hr127⟩
      refine At.sti ?_
      have hF128 := Fr.tr hF0 hF125 rfl rfl
      have zv129 : ((-1) : Int32).toInt = (-1) := rfl
      refine At.enter rfl ?_
      refine r_ireti ?_
      obtain ⟨v130, hv130⟩ : ∃ v, gI g0 1 12 = v := ⟨_, rfl⟩
      have rv130 := RgF.at hI0.2.1 (p := 1) (b := 12) rfl
      rw [hv130] at rv130
      dsimp only at rv130
      have tv130 := congrArg Int32.toInt hv130
      have x131 := HI.eqI hI124 (p := 1) (b := 12) (((hF125.1 1 12 (by decide)).trans hv130))
      have x132 := HI.eqI hI0 (p := 1) (b := 12) (hv130)
      obtain ⟨v133, hv133⟩ : ∃ v, gI g0 1 0 = v := ⟨_, rfl⟩
      have rv133 := RgF.at hI0.2.1 (p := 1) (b := 0) rfl
      rw [hv133] at rv133
      dsimp only at rv133
      have tv133 := congrArg Int32.toInt hv133
      have x134 := HI.eqI hI0 (p := 1) (b := 0) (hv133)
      have x135 := HI.eqI hI0 (p := 1) (b := 0) (hv133)
      have x136 := HI.eqI hI0 (p := 1) (b := 12) (hv130)
      exact ⟨_, rfl, hI124, hF128, _, rfl, by omega, ⟨(by omega), (by intro i i0 i1; refine Eq.trans ?_ (if_neg (show ¬ ((0 ≤ a2.toInt ∧ a2.toInt ≤ 99 ∧ 0 ≤ a1.toInt ∧ a1.toInt < (gI g0 1 0).toInt ∧ (gI g0 1 12).toInt < 8) ∧ i = (gI g0 1 12).toInt) from by omega)).symm; refine (eA_ti ((hF125.2.1 14 (by decide)))).trans ?_; (first | rfl | exact eA_ix (by omega) | omega)), (by intro i i0 i1; refine Eq.trans ?_ (if_neg (show ¬ ((0 ≤ a2.toInt ∧ a2.toInt ≤ 99 ∧ 0 ≤ a1.toInt ∧ a1.toInt < (gI g0 1 0).toInt ∧ (gI g0 1 12).toInt < 8) ∧ i = (gI g0 1 12).toInt) from by omega)).symm; refine (eA_ti ((hF125.2.1 15 (by decide)))).trans ?_; (first | rfl | exact eA_ix (by omega) | omega))⟩⟩
    · have c122_ : a2.toInt ≤ 99 := en_i_gt_f c122
      refine At.enter rfl ?_
      refine r_iconst 1 rfl ?_
      refine r_goto ?_
      refine At.enter rfl ?_
      refine q_iretz (by decide) ?_
      refine At.enter rfl ?_
      refine r_ift (by decide) ?_
      refine At.enter rfl ?_
      refine r_aload_n rfl ?_
      refine q_getR (Sh.ref hI0.1 kx_0 rfl) ?_
      refine r_iload_n rfl ?_
      refine q_inlV 24 rfl [.ref 1, .int a1] [] (Nat.le_of_ble_eq_true rfl) rfl ?_
      refine Ev.mk rfl rfl ⟨Nat.le_of_ble_eq_true rfl, Or.inr (q_rc hI0.1 kx_1 rfl)⟩ ?_
      show At _ none _ _ (0, [(0, .ref 1), (1, .int a1)], [], (_, _)) _
      refine At.enter rfl ?_
      refine r_iload_n rfl ?_
      refine r_ifs 4 rfl (fun c137 => ?_) (fun c137 => ?_)
      · have c137_ : a1.toInt < 0 := en_k_lt_t c137
        refine At.enter rfl ?_
        refine r_iconst 0 rfl ?_
        refine Ar.fall 17 rfl ?_
        refine At.enter rfl ?_
        refine q_iretz (by decide) ?_
        refine At.enter rfl ?_
        refine r_iff 27 rfl (by decide) ?_
        refine At.enter rfl ?_
        refine r_aload_n rfl ?_
        refine r_bipush (-2) rfl ?_
        refine r_callV 33 rfl [.ref 0, .int (-2)] [] (Nat.le_of_ble_eq_true rfl) rfl (T_X10_refused_0 _ hI0 (-2) (by decide)) ?_
        rintro _ _ ⟨g138, rfl, hI139, hF140, v141, rfl, hr142⟩
        refine At.sti ?_
        have hF143 := Fr.tr hF0 hF140 rfl rfl
        have zv144 : ((-2) : Int32).toInt = (-2) := rfl
        refine At.enter rfl ?_
        refine r_ireti ?_
        obtain ⟨v145, hv145⟩ : ∃ v, gI g0 1 12 = v := ⟨_, rfl⟩
        have rv145 := RgF.at hI0.2.1 (p := 1) (b := 12) rfl
        rw [hv145] at rv145
        dsimp only at rv145
        have tv145 := congrArg Int32.toInt hv145
        have x146 := HI.eqI hI139 (p := 1) (b := 12) (((hF140.1 1 12 (by decide)).trans hv145))
        have x147 := HI.eqI hI0 (p := 1) (b := 12) (hv145)
        obtain ⟨v148, hv148⟩ : ∃ v, gI g0 1 0 = v := ⟨_, rfl⟩
        have rv148 := RgF.at hI0.2.1 (p := 1) (b := 0) rfl
        rw [hv148] at rv148
        dsimp only at rv148
        have tv148 := congrArg Int32.toInt hv148
        have x149 := HI.eqI hI0 (p := 1) (b := 0) (hv148)
        have x150 := HI.eqI hI0 (p := 1) (b := 0) (hv148)
        have x151 := HI.eqI hI0 (p := 1) (b := 12) (hv145)
        exact ⟨_, rfl, hI139, hF143, _, rfl, by omega, ⟨(by omega), (by intro i i0 i1; refine Eq.trans ?_ (if_neg (show ¬ ((0 ≤ a2.toInt ∧ a2.toInt ≤ 99 ∧ 0 ≤ a1.toInt ∧ a1.toInt < (gI g0 1 0).toInt ∧ (gI g0 1 12).toInt < 8) ∧ i = (gI g0 1 12).toInt) from by omega)).symm; refine (eA_ti ((hF140.2.1 14 (by decide)))).trans ?_; (first | rfl | exact eA_ix (by omega) | omega)), (by intro i i0 i1; refine Eq.trans ?_ (if_neg (show ¬ ((0 ≤ a2.toInt ∧ a2.toInt ≤ 99 ∧ 0 ≤ a1.toInt ∧ a1.toInt < (gI g0 1 0).toInt ∧ (gI g0 1 12).toInt < 8) ∧ i = (gI g0 1 12).toInt) from by omega)).symm; refine (eA_ti ((hF140.2.1 15 (by decide)))).trans ?_; (first | rfl | exact eA_ix (by omega) | omega))⟩⟩
      · have c137_ : a1.toInt ≥ 0 := en_k_lt_f c137
        refine At.enter rfl ?_
        refine r_iload_n rfl ?_
        refine r_aload_n rfl ?_
        obtain ⟨v152, hv152⟩ : ∃ v, gI g0 1 0 = v := ⟨_, rfl⟩
        have rv152 := RgF.at hI0.2.1 (p := 1) (b := 0) rfl
        rw [hv152] at rv152
        dsimp only at rv152
        refine q_getI (Sh.int hI0.1 kx_1 rfl) v152 hv152 ?_
        have bv154 := q_bnd a1
        have bv155 := q_bnd v152
        refine r_ics 12 rfl (fun c153 => ?_) (fun c153 => ?_)
        · have c153_ : a1.toInt ≥ v152.toInt := en_i_ge_t c153
          refine At.enter rfl ?_
          refine r_iconst 0 rfl ?_
          refine Ar.fall 17 rfl ?_
          refine At.enter rfl ?_
          refine q_iretz (by decide) ?_
          refine At.enter rfl ?_
          refine r_iff 27 rfl (by decide) ?_
          refine At.enter rfl ?_
          refine r_aload_n rfl ?_
          refine r_bipush (-2) rfl ?_
          refine r_callV 33 rfl [.ref 0, .int (-2)] [] (Nat.le_of_ble_eq_true rfl) rfl (T_X10_refused_0 _ hI0 (-2) (by decide)) ?_
          rintro _ _ ⟨g156, rfl, hI157, hF158, v159, rfl, hr160⟩
          refine At.sti ?_
          have hF161 := Fr.tr hF0 hF158 rfl rfl
          have zv162 : ((-2) : Int32).toInt = (-2) := rfl
          refine At.enter rfl ?_
          refine r_ireti ?_
          obtain ⟨v163, hv163⟩ : ∃ v, gI g0 1 12 = v := ⟨_, rfl⟩
          have rv163 := RgF.at hI0.2.1 (p := 1) (b := 12) rfl
          rw [hv163] at rv163
          dsimp only at rv163
          have tv163 := congrArg Int32.toInt hv163
          have x164 := HI.eqI hI157 (p := 1) (b := 12) (((hF158.1 1 12 (by decide)).trans hv163))
          have x165 := HI.eqI hI0 (p := 1) (b := 12) (hv163)
          have x166 := HI.eqI hI0 (p := 1) (b := 0) (hv152)
          have x167 := HI.eqI hI0 (p := 1) (b := 0) (hv152)
          have x168 := HI.eqI hI0 (p := 1) (b := 12) (hv163)
          exact ⟨_, rfl, hI157, hF161, _, rfl, by omega, ⟨(by omega), (by intro i i0 i1; refine Eq.trans ?_ (if_neg (show ¬ ((0 ≤ a2.toInt ∧ a2.toInt ≤ 99 ∧ 0 ≤ a1.toInt ∧ a1.toInt < (gI g0 1 0).toInt ∧ (gI g0 1 12).toInt < 8) ∧ i = (gI g0 1 12).toInt) from by omega)).symm; refine (eA_ti ((hF158.2.1 14 (by decide)))).trans ?_; (first | rfl | exact eA_ix (by omega) | omega)), (by intro i i0 i1; refine Eq.trans ?_ (if_neg (show ¬ ((0 ≤ a2.toInt ∧ a2.toInt ≤ 99 ∧ 0 ≤ a1.toInt ∧ a1.toInt < (gI g0 1 0).toInt ∧ (gI g0 1 12).toInt < 8) ∧ i = (gI g0 1 12).toInt) from by omega)).symm; refine (eA_ti ((hF158.2.1 15 (by decide)))).trans ?_; (first | rfl | exact eA_ix (by omega) | omega))⟩⟩
        · have c153_ : a1.toInt < v152.toInt := en_i_ge_f c153
          refine At.enter rfl ?_
          refine r_iconst 1 rfl ?_
          refine r_goto ?_
          refine At.enter rfl ?_
          refine q_iretz (by decide) ?_
          refine At.enter rfl ?_
          refine r_ift (by decide) ?_
          refine At.enter rfl ?_
          refine r_aload_n rfl ?_
          refine q_getR (Sh.ref hI0.1 kx_0 rfl) ?_
          obtain ⟨v169, hv169⟩ : ∃ v, gI g0 1 12 = v := ⟨_, rfl⟩
          have rv169 := RgF.at hI0.2.1 (p := 1) (b := 12) rfl
          rw [hv169] at rv169
          dsimp only at rv169
          refine q_getI (Sh.int hI0.1 kx_1 rfl) v169 hv169 ?_
          refine r_bipush 8 rfl ?_
          refine r_ics 46 rfl (fun c170 => ?_) (fun c170 => ?_)
          · have c170_ : v169.toInt < 8 := en_i_lt_t c170
            refine At.enter rfl ?_
            refine r_aload_n rfl ?_
            refine q_getR (Sh.ref hI0.1 kx_0 rfl) ?_
            refine q_getR (Sh.ref hI0.1 kx_1 rfl) ?_
            refine r_aload_n rfl ?_
            refine q_getR (Sh.ref hI0.1 kx_0 rfl) ?_
            refine q_getI (Sh.int hI0.1 kx_1 rfl) v169 hv169 ?_
            refine r_iload_n rfl ?_
            refine q_iast (Sh.arr hI0.1 ka_14) (v169.toInt) rfl (by omega) ?_
            have hI171 := HI.wA0 hI0 ka_14 (p := 14) rfl rfl (v169.toInt) (a1)
            have hF172 := Fr.wA (p := 14) (j := v169.toInt) (v := a1) hF0 rfl
            refine r_aload_n rfl ?_
            refine q_getR (Sh.ref hI171.1 kx_0 rfl) ?_
            refine q_getR (Sh.ref hI171.1 kx_1 rfl) ?_
            refine r_aload_n rfl ?_
            refine q_getR (Sh.ref hI171.1 kx_0 rfl) ?_
            refine q_getI (Sh.int hI171.1 kx_1 rfl) v169 ((gI_sW).trans hv169) ?_
            refine r_iload_n rfl ?_
            refine q_iast (Sh.arr hI171.1 ka_15) (v169.toInt) rfl (by omega) ?_
            have hI173 := HI.wA0 hI171 ka_15 (p := 15) rfl rfl (v169.toInt) (a2)
            have hF174 := Fr.wA (p := 15) (j := v169.toInt) (v := a2) hF172 rfl
            refine r_aload_n rfl ?_
            refine q_getR (Sh.ref hI173.1 kx_0 rfl) ?_
            refine r_dup rfl ?_
            refine q_getI (Sh.int hI173.1 kx_1 rfl) v169 (((gI_sW).trans (gI_sW)).trans hv169) ?_
            refine r_iconst 1 rfl ?_
            refine q_iadd (v169.toInt + 1) rfl (by omega) (fun v175 hv175 => ?_)
            refine q_putI (Sh.int hI173.1 kx_1 rfl) rfl ?_
            have hI176 := HI.wI1 hI173 kx_1 rfl (p := 1) (b := 12) (v := v175) rfl (by dsimp only; omega)
            have hF177 := Fr.wI (p := 1) (b := 12) (v := v175) hF174 rfl
            refine r_aload_n rfl ?_
            refine r_aload_n rfl ?_
            refine q_getR (Sh.ref hI176.1 kx_0 rfl) ?_
            refine q_getI (Sh.int hI176.1 kx_1 rfl) v175 (gI_sI_eq hI173.1 kx_1 rfl _) ?_
            refine q_inlV 109 rfl [.ref 0, .int v175] [] (Nat.le_of_ble_eq_true rfl) rfl ?_
            refine Ev.mk rfl rfl ⟨Nat.le_of_ble_eq_true rfl, Or.inr (q_rc hI176.1 kx_0 rfl)⟩ ?_
            show At _ none _ _ (0, [(0, .ref 0), (1, .int v175)], [], (_, _)) _
            refine At.enter rfl ?_
            refine r_aload_n rfl ?_
            refine r_iconst 0 rfl ?_
            refine q_putI (Sh.int hI176.1 kx_0 rfl) rfl ?_
            have hI178 := HI.wI0 hI176 kx_0 rfl (p := 0) (b := 17) (v := 0) rfl
            have hF179 := Fr.wI (p := 0) (b := 17) (v := 0) hF177 rfl
            refine r_iload_n rfl ?_
            refine q_ireti ?_
            refine At.enter rfl ?_
            refine r_ireti ?_
            have x180 := HI.eqI hI178 (p := 1) (b := 12) (((gI_sI_ne (by decide)).trans (gI_sI_eq hI173.1 kx_1 rfl _)))
            have x181 := HI.eqI hI0 (p := 1) (b := 12) (hv169)
            have x182 := HI.eqI hI0 (p := 1) (b := 0) (hv152)
            have x183 := HI.eqI hI0 (p := 1) (b := 0) (hv152)
            have x184 := HI.eqI hI0 (p := 1) (b := 12) (hv169)
            exact ⟨_, rfl, hI178, hF179, _, rfl, by omega, ⟨(by omega), (by intro i i0 i1; exact (Decidable.em ((0 ≤ a2.toInt ∧ a2.toInt ≤ 99 ∧ 0 ≤ a1.toInt ∧ a1.toInt < (gI g0 1 0).toInt ∧ (gI g0 1 12).toInt < 8) ∧ i = (gI g0 1 12).toInt)).elim (fun k106_ => by refine Eq.trans ?_ (if_pos k106_).symm; refine (eA_ti (((gA_sI).trans ((gA_sI).trans (gA_sA_ne (by decide)))))).trans ?_; exact (Decidable.em (i = v169.toInt)).elim (fun k107_ => by refine (eA_eqT hI0.1 ka_14 k107_ (by first | decide | omega) (by first | decide | omega)).trans ?_; (first | (rfl) | (omega))) (fun k107_ => by refine (eA_neT hI0.1 ka_14 k107_ (by first | decide | omega) (by omega)).trans ?_; (first | rfl | exact eA_ix (by omega) | omega))) (fun k106_ => by refine Eq.trans ?_ (if_neg k106_).symm; refine (eA_ti (((gA_sI).trans ((gA_sI).trans (gA_sA_ne (by decide)))))).trans ?_; exact (Decidable.em (i = v169.toInt)).elim (fun k108_ => by refine (eA_eqT hI0.1 ka_14 k108_ (by first | decide | omega) (by first | decide | omega)).trans ?_; (first | (rfl) | (omega))) (fun k108_ => by refine (eA_neT hI0.1 ka_14 k108_ (by first | decide | omega) (by omega)).trans ?_; (first | rfl | exact eA_ix (by omega) | omega)))), (by intro i i0 i1; exact (Decidable.em ((0 ≤ a2.toInt ∧ a2.toInt ≤ 99 ∧ 0 ≤ a1.toInt ∧ a1.toInt < (gI g0 1 0).toInt ∧ (gI g0 1 12).toInt < 8) ∧ i = (gI g0 1 12).toInt)).elim (fun k109_ => by refine Eq.trans ?_ (if_pos k109_).symm; refine (eA_ti (((gA_sI).trans (gA_sI)))).trans ?_; exact (Decidable.em (i = v169.toInt)).elim (fun k110_ => by refine (eA_eqT hI171.1 ka_15 k110_ (by first | decide | omega) (by first | decide | omega)).trans ?_; (first | (rfl) | (omega))) (fun k110_ => by refine (eA_neT hI171.1 ka_15 k110_ (by first | decide | omega) (by omega)).trans ?_; refine (eA_ti ((gA_sA_ne (by decide)))).trans ?_; (first | rfl | exact eA_ix (by omega) | omega))) (fun k109_ => by refine Eq.trans ?_ (if_neg k109_).symm; refine (eA_ti (((gA_sI).trans (gA_sI)))).trans ?_; exact (Decidable.em (i = v169.toInt)).elim (fun k111_ => by refine (eA_eqT hI171.1 ka_15 k111_ (by first | decide | omega) (by first | decide | omega)).trans ?_; (first | (rfl) | (omega))) (fun k111_ => by refine (eA_neT hI171.1 ka_15 k111_ (by first | decide | omega) (by omega)).trans ?_; refine (eA_ti ((gA_sA_ne (by decide)))).trans ?_; (first | rfl | exact eA_ix (by omega) | omega))))⟩⟩
          · have c170_ : v169.toInt ≥ 8 := en_i_lt_f c170
            refine At.enter rfl ?_
            refine r_aload_n rfl ?_
            refine r_bipush (-5) rfl ?_
            refine r_callV 52 rfl [.ref 0, .int (-5)] [] (Nat.le_of_ble_eq_true rfl) rfl (T_X10_refused_0 _ hI0 (-5) (by decide)) ?_
            rintro _ _ ⟨g185, rfl, hI186, hF187, v188, rfl, hr189⟩
            refine At.sti ?_
            have hF190 := Fr.tr hF0 hF187 rfl rfl
            have zv191 : ((-5) : Int32).toInt = (-5) := rfl
            refine At.enter rfl ?_
            refine r_ireti ?_
            have x192 := HI.eqI hI186 (p := 1) (b := 12) (((hF187.1 1 12 (by decide)).trans hv169))
            have x193 := HI.eqI hI0 (p := 1) (b := 12) (hv169)
            have x194 := HI.eqI hI0 (p := 1) (b := 0) (hv152)
            have x195 := HI.eqI hI0 (p := 1) (b := 0) (hv152)
            have x196 := HI.eqI hI0 (p := 1) (b := 12) (hv169)
            exact ⟨_, rfl, hI186, hF190, _, rfl, by omega, ⟨(by omega), (by intro i i0 i1; refine Eq.trans ?_ (if_neg (show ¬ ((0 ≤ a2.toInt ∧ a2.toInt ≤ 99 ∧ 0 ≤ a1.toInt ∧ a1.toInt < (gI g0 1 0).toInt ∧ (gI g0 1 12).toInt < 8) ∧ i = (gI g0 1 12).toInt) from by omega)).symm; refine (eA_ti ((hF187.2.1 14 (by decide)))).trans ?_; (first | rfl | exact eA_ix (by omega) | omega)), (by intro i i0 i1; refine Eq.trans ?_ (if_neg (show ¬ ((0 ≤ a2.toInt ∧ a2.toInt ≤ 99 ∧ 0 ≤ a1.toInt ∧ a1.toInt < (gI g0 1 0).toInt ∧ (gI g0 1 12).toInt < 8) ∧ i = (gI g0 1 12).toInt) from by omega)).symm; refine (eA_ti ((hF187.2.1 15 (by decide)))).trans ?_; (first | rfl | exact eA_ix (by omega) | omega))⟩⟩

def F_X10_clear_0 : List (Nat × Nat) := [(1, 12)]
def A_X10_clear_0 : List Nat := []
set_option maxRecDepth 100000 in
set_option maxHeartbeats 4000000 in
theorem T_X10_clear_0 (d : Nat) {N : Nat} {g0 : List en_E} (hI0 : HI g0) : Ev (d + 1) 135 [.ref 0] (g0, N) (fun w h' => ∃ g', h' = (g', N) ∧ HI g' ∧ Fr F_X10_clear_0 A_X10_clear_0 g0 g' ∧ ∃ r : Int32, w = some (.int r) ∧ (0 ≤ r.toInt ∧ r.toInt ≤ 8) ∧ (r.toInt = (gI g0 1 12).toInt ∧ (gI g' 1 12).toInt = 0)) := by
  have hF0 : Fr F_X10_clear_0 A_X10_clear_0 g0 g0 := Fr.rf
  refine Ev.mk rfl rfl ⟨Nat.le_of_ble_eq_true rfl, Or.inr (q_rc hI0.1 kx_0 rfl)⟩ ?_
  show At _ none _ _ (0, [(0, .ref 0)], [], (_, _)) _
  refine At.enter rfl ?_
  refine r_aload_n rfl ?_
  refine q_getR (Sh.ref hI0.1 kx_0 rfl) ?_
  obtain ⟨v7, hv7⟩ : ∃ v, gI g0 1 12 = v := ⟨_, rfl⟩
  have rv7 := RgF.at hI0.2.1 (p := 1) (b := 12) rfl
  rw [hv7] at rv7
  dsimp only at rv7
  refine q_getI (Sh.int hI0.1 kx_1 rfl) v7 hv7 ?_
  refine r_istore_n ([(1, .int v7), (0, .ref 0)]) rfl ?_
  refine r_aload_n rfl ?_
  refine q_getR (Sh.ref hI0.1 kx_0 rfl) ?_
  refine r_iconst 0 rfl ?_
  refine q_putI (Sh.int hI0.1 kx_1 rfl) rfl ?_
  have hI8 := HI.wI1 hI0 kx_1 rfl (p := 1) (b := 12) (v := 0) rfl (by decide)
  have hF9 := Fr.wI (p := 1) (b := 12) (v := 0) hF0 rfl
  refine r_iload_n rfl ?_
  refine r_ireti ?_
  have x10 := HI.eqI hI8 (p := 1) (b := 12) ((gI_sI_eq hI0.1 kx_1 rfl _))
  have zv11 : (0 : Int32).toInt = 0 := rfl
  have x12 := HI.eqI hI0 (p := 1) (b := 12) (hv7)
  exact ⟨_, rfl, hI8, hF9, _, rfl, by omega, (by omega)⟩

def F_X10_thieves_0 : List (Nat × Nat) := []
def A_X10_thieves_0 : List Nat := []
set_option maxRecDepth 100000 in
set_option maxHeartbeats 4000000 in
theorem T_X10_thieves_0 (d : Nat) {N : Nat} {g0 : List en_E} (hI0 : HI g0) : Ev (d + 6) 136 [.ref 0] (g0, N) (fun w h' => ∃ g', h' = (g', N) ∧ HI g' ∧ Fr F_X10_thieves_0 A_X10_thieves_0 g0 g' ∧ ∃ r : Int32, w = some (.int r) ∧ True ∧ (r.toInt = (ACI (FITX g0) (gI g0 1 0).toInt).toInt)) := by
  have hF0 : Fr F_X10_thieves_0 A_X10_thieves_0 g0 g0 := Fr.rf
  refine Ev.mk rfl rfl ⟨Nat.le_of_ble_eq_true rfl, Or.inr (q_rc hI0.1 kx_0 rfl)⟩ ?_
  show At _ none _ _ (0, [(0, .ref 0)], [], (_, _)) _
  refine At.enter rfl ?_
  refine r_aload_n rfl ?_
  refine q_getR (Sh.ref hI0.1 kx_0 rfl) ?_
  refine r_callV 7 rfl [.ref 184] [] (Nat.le_of_ble_eq_true rfl) rfl (T_X9_suspects_184 _ hI0) ?_
  rintro _ _ ⟨g13, rfl, hI14, hF15, v16, rfl, hr17⟩
  refine At.sti ?_
  have hF18 := Fr.tr hF0 hF15 rfl rfl
  refine At.enter rfl ?_
  refine r_ireti ?_
  exact ⟨_, rfl, hI14, hF18, _, rfl, trivial, hr17.2⟩

def F_X10_meet_0 : List (Nat × Nat) := []
def A_X10_meet_0 : List Nat := []
set_option maxRecDepth 100000 in
set_option maxHeartbeats 4000000 in
theorem T_X10_meet_0 (d : Nat) {N : Nat} {g0 : List en_E} (hI0 : HI g0) (a1 : Int32) (a2 : Int32) (a3 : Int32) : Ev (d + 4) 137 [.ref 0, .int a1, .int a2, .int a3] (g0, N) (fun w h' => ∃ g', h' = (g', N) ∧ HI g' ∧ Fr F_X10_meet_0 A_X10_meet_0 g0 g' ∧ ∃ r : Int32, w = some (.int r) ∧ True ∧ (((0 ≤ a1.toInt ∧ a1.toInt < (gI g0 1 0).toInt ∧ 0 ≤ a2.toInt ∧ a2.toInt < (gI g0 1 0).toInt ∧ 0 ≤ a3.toInt ∧ a3.toInt ≤ 1) → MEET (NX g0) 144 a1.toInt a2.toInt a3.toInt r.toInt) ∧ (¬ (0 ≤ a1.toInt ∧ a1.toInt < (gI g0 1 0).toInt ∧ 0 ≤ a2.toInt ∧ a2.toInt < (gI g0 1 0).toInt ∧ 0 ≤ a3.toInt ∧ a3.toInt ≤ 1) → r.toInt = -1))) := by
  have hF0 : Fr F_X10_meet_0 A_X10_meet_0 g0 g0 := Fr.rf
  refine Ev.mk rfl rfl ⟨Nat.le_of_ble_eq_true rfl, Or.inr (q_rc hI0.1 kx_0 rfl)⟩ ?_
  show At _ none _ _ (0, [(0, .ref 0), (1, .int a1), (2, .int a2), (3, .int a3)], [], (_, _)) _
  refine At.enter rfl ?_
  refine r_aload_n rfl ?_
  refine q_getR (Sh.ref hI0.1 kx_0 rfl) ?_
  refine r_iload_n rfl ?_
  refine q_inlV 8 rfl [.ref 1, .int a1] [] (Nat.le_of_ble_eq_true rfl) rfl ?_
  refine Ev.mk rfl rfl ⟨Nat.le_of_ble_eq_true rfl, Or.inr (q_rc hI0.1 kx_1 rfl)⟩ ?_
  show At _ none _ _ (0, [(0, .ref 1), (1, .int a1)], [], (_, _)) _
  refine At.enter rfl ?_
  refine r_iload_n rfl ?_
  refine r_ifs 4 rfl (fun c33 => ?_) (fun c33 => ?_)
  · have c33_ : a1.toInt < 0 := en_k_lt_t c33
    refine At.enter rfl ?_
    refine r_iconst 0 rfl ?_
    refine Ar.fall 17 rfl ?_
    refine At.enter rfl ?_
    refine q_iretz (by decide) ?_
    refine At.enter rfl ?_
    refine r_ift (by decide) ?_
    refine At.enter rfl ?_
    refine r_iconst (-1) rfl ?_
    refine r_ireti ?_
    have zv34 : ((-1) : Int32).toInt = (-1) := rfl
    obtain ⟨v35, hv35⟩ : ∃ v, gI g0 1 0 = v := ⟨_, rfl⟩
    have rv35 := RgF.at hI0.2.1 (p := 1) (b := 0) rfl
    rw [hv35] at rv35
    dsimp only at rv35
    have tv35 := congrArg Int32.toInt hv35
    have x36 := HI.eqI hI0 (p := 1) (b := 0) (hv35)
    exact ⟨_, rfl, hI0, hF0, _, rfl, trivial, ⟨fun h => absurd h (by omega), fun _ => by omega⟩⟩
  · have c33_ : a1.toInt ≥ 0 := en_k_lt_f c33
    refine At.enter rfl ?_
    refine r_iload_n rfl ?_
    refine r_aload_n rfl ?_
    obtain ⟨v37, hv37⟩ : ∃ v, gI g0 1 0 = v := ⟨_, rfl⟩
    have rv37 := RgF.at hI0.2.1 (p := 1) (b := 0) rfl
    rw [hv37] at rv37
    dsimp only at rv37
    refine q_getI (Sh.int hI0.1 kx_1 rfl) v37 hv37 ?_
    have bv39 := q_bnd a1
    have bv40 := q_bnd v37
    refine r_ics 12 rfl (fun c38 => ?_) (fun c38 => ?_)
    · have c38_ : a1.toInt ≥ v37.toInt := en_i_ge_t c38
      refine At.enter rfl ?_
      refine r_iconst 0 rfl ?_
      refine Ar.fall 17 rfl ?_
      refine At.enter rfl ?_
      refine q_iretz (by decide) ?_
      refine At.enter rfl ?_
      refine r_ift (by decide) ?_
      refine At.enter rfl ?_
      refine r_iconst (-1) rfl ?_
      refine r_ireti ?_
      have zv41 : ((-1) : Int32).toInt = (-1) := rfl
      have x42 := HI.eqI hI0 (p := 1) (b := 0) (hv37)
      exact ⟨_, rfl, hI0, hF0, _, rfl, trivial, ⟨fun h => absurd h (by omega), fun _ => by omega⟩⟩
    · have c38_ : a1.toInt < v37.toInt := en_i_ge_f c38
      refine At.enter rfl ?_
      refine r_iconst 1 rfl ?_
      refine r_goto ?_
      refine At.enter rfl ?_
      refine q_iretz (by decide) ?_
      refine At.enter rfl ?_
      refine r_iff 11 rfl (by decide) ?_
      refine At.enter rfl ?_
      refine r_aload_n rfl ?_
      refine q_getR (Sh.ref hI0.1 kx_0 rfl) ?_
      refine r_iload_n rfl ?_
      refine q_inlV 19 rfl [.ref 1, .int a2] [] (Nat.le_of_ble_eq_true rfl) rfl ?_
      refine Ev.mk rfl rfl ⟨Nat.le_of_ble_eq_true rfl, Or.inr (q_rc hI0.1 kx_1 rfl)⟩ ?_
      show At _ none _ _ (0, [(0, .ref 1), (1, .int a2)], [], (_, _)) _
      refine At.enter rfl ?_
      refine r_iload_n rfl ?_
      refine r_ifs 4 rfl (fun c43 => ?_) (fun c43 => ?_)
      · have c43_ : a2.toInt < 0 := en_k_lt_t c43
        refine At.enter rfl ?_
        refine r_iconst 0 rfl ?_
        refine Ar.fall 17 rfl ?_
        refine At.enter rfl ?_
        refine q_iretz (by decide) ?_
        refine At.enter rfl ?_
        refine r_ift (by decide) ?_
        refine At.enter rfl ?_
        refine r_iconst (-1) rfl ?_
        refine r_ireti ?_
        have zv44 : ((-1) : Int32).toInt = (-1) := rfl
        have x45 := HI.eqI hI0 (p := 1) (b := 0) (hv37)
        exact ⟨_, rfl, hI0, hF0, _, rfl, trivial, ⟨fun h => absurd h (by omega), fun _ => by omega⟩⟩
      · have c43_ : a2.toInt ≥ 0 := en_k_lt_f c43
        refine At.enter rfl ?_
        refine r_iload_n rfl ?_
        refine r_aload_n rfl ?_
        refine q_getI (Sh.int hI0.1 kx_1 rfl) v37 hv37 ?_
        have bv47 := q_bnd a2
        refine r_ics 12 rfl (fun c46 => ?_) (fun c46 => ?_)
        · have c46_ : a2.toInt ≥ v37.toInt := en_i_ge_t c46
          refine At.enter rfl ?_
          refine r_iconst 0 rfl ?_
          refine Ar.fall 17 rfl ?_
          refine At.enter rfl ?_
          refine q_iretz (by decide) ?_
          refine At.enter rfl ?_
          refine r_ift (by decide) ?_
          refine At.enter rfl ?_
          refine r_iconst (-1) rfl ?_
          refine r_ireti ?_
          have zv48 : ((-1) : Int32).toInt = (-1) := rfl
          have x49 := HI.eqI hI0 (p := 1) (b := 0) (hv37)
          exact ⟨_, rfl, hI0, hF0, _, rfl, trivial, ⟨fun h => absurd h (by omega), fun _ => by omega⟩⟩
        · have c46_ : a2.toInt < v37.toInt := en_i_ge_f c46
          refine At.enter rfl ?_
          refine r_iconst 1 rfl ?_
          refine r_goto ?_
          refine At.enter rfl ?_
          refine q_iretz (by decide) ?_
          refine At.enter rfl ?_
          refine r_iff 22 rfl (by decide) ?_
          refine At.enter rfl ?_
          refine r_iload_n rfl ?_
          refine r_iconst 0 rfl ?_
          refine r_iconst 1 rfl ?_
          refine q_inlS 28 rfl [.int a3, .int 0, .int 1] [] (Nat.le_of_ble_eq_true rfl) rfl ?_
          refine Ev.mk rfl rfl ⟨Nat.le_of_ble_eq_true rfl, Or.inl rfl⟩ ?_
          show At _ none _ _ (0, [(0, .int a3), (1, .int 0), (2, .int 1)], [], (_, _)) _
          refine At.enter rfl ?_
          refine r_iload_n rfl ?_
          refine r_iload_n rfl ?_
          refine r_ics 5 rfl (fun c50 => ?_) (fun c50 => ?_)
          · have c50_ : a3.toInt < 0 := en_i_lt_t c50
            refine At.enter rfl ?_
            refine r_iconst 0 rfl ?_
            refine Ar.fall 15 rfl ?_
            refine At.enter rfl ?_
            refine q_iretz (by decide) ?_
            refine At.enter rfl ?_
            refine r_iff 31 rfl (by decide) ?_
            refine At.enter rfl ?_
            refine r_iconst (-1) rfl ?_
            refine r_ireti ?_
            have zv51 : ((-1) : Int32).toInt = (-1) := rfl
            have x52 := HI.eqI hI0 (p := 1) (b := 0) (hv37)
            exact ⟨_, rfl, hI0, hF0, _, rfl, trivial, ⟨fun h => absurd h (by omega), fun _ => by omega⟩⟩
          · have c50_ : a3.toInt ≥ 0 := en_i_lt_f c50
            refine At.enter rfl ?_
            refine r_iload_n rfl ?_
            refine r_iload_n rfl ?_
            refine r_ics 10 rfl (fun c53 => ?_) (fun c53 => ?_)
            · have c53_ : a3.toInt > 1 := en_i_gt_t c53
              refine At.enter rfl ?_
              refine r_iconst 0 rfl ?_
              refine Ar.fall 15 rfl ?_
              refine At.enter rfl ?_
              refine q_iretz (by decide) ?_
              refine At.enter rfl ?_
              refine r_iff 31 rfl (by decide) ?_
              refine At.enter rfl ?_
              refine r_iconst (-1) rfl ?_
              refine r_ireti ?_
              have zv54 : ((-1) : Int32).toInt = (-1) := rfl
              have x55 := HI.eqI hI0 (p := 1) (b := 0) (hv37)
              exact ⟨_, rfl, hI0, hF0, _, rfl, trivial, ⟨fun h => absurd h (by omega), fun _ => by omega⟩⟩
            · have c53_ : a3.toInt ≤ 1 := en_i_gt_f c53
              refine At.enter rfl ?_
              refine r_iconst 1 rfl ?_
              refine r_goto ?_
              refine At.enter rfl ?_
              refine q_iretz (by decide) ?_
              refine At.enter rfl ?_
              refine r_ift (by decide) ?_
              refine At.enter rfl ?_
              refine r_aload_n rfl ?_
              refine q_getR (Sh.ref hI0.1 kx_0 rfl) ?_
              refine r_iload_n rfl ?_
              refine r_iload_n rfl ?_
              refine r_iload_n rfl ?_
              refine r_callV 43 rfl [.ref 184, .int a1, .int a2, .int a3] [] (Nat.le_of_ble_eq_true rfl) rfl (T_X9_meeting_184 _ hI0 a1 a2 a3) ?_
              rintro _ _ ⟨g56, rfl, hI57, hF58, v59, rfl, hr60⟩
              refine At.sti ?_
              have hF61 := Fr.tr hF0 hF58 rfl rfl
              refine At.enter rfl ?_
              refine r_ireti ?_
              have x62 := HI.eqI hI0 (p := 1) (b := 0) (hv37)
              exact ⟨_, rfl, hI57, hF61, _, rfl, trivial, ⟨fun _ => hr60.2, fun h => absurd (by omega) h⟩⟩

def F_X10_draw_0 : List (Nat × Nat) := [(0, 15), (0, 17), (185, 3), (204, 16), (204, 18)]
def A_X10_draw_0 : List Nat := [205, 206, 207, 208, 209, 210, 211, 212, 213, 214, 215, 216, 218, 219, 228, 229, 230]
set_option maxRecDepth 100000 in
set_option maxHeartbeats 4000000 in
theorem T_X10_draw_0 (d : Nat) {N : Nat} {g0 : List en_E} (hI0 : HI g0) (a1 : Int32) : Ev (d + 6) 138 [.ref 0, .int a1] (g0, N) (fun w h' => ∃ g', h' = (g', N) ∧ HI g' ∧ Fr F_X10_draw_0 A_X10_draw_0 g0 g' ∧ ∃ r : Int32, w = some (.int r) ∧ True) := by
  have hF0 : Fr F_X10_draw_0 A_X10_draw_0 g0 g0 := Fr.rf
  refine Ev.mk rfl rfl ⟨Nat.le_of_ble_eq_true rfl, Or.inr (q_rc hI0.1 kx_0 rfl)⟩ ?_
  show At _ none _ _ (0, [(0, .ref 0), (1, .int a1)], [], (_, _)) _
  refine At.enter rfl ?_
  refine r_iload_n rfl ?_
  refine r_iconst 0 rfl ?_
  refine r_ldcw 1000000 rfl ?_
  refine q_inlS 8 rfl [.int a1, .int 0, .int 1000000] [] (Nat.le_of_ble_eq_true rfl) rfl ?_
  refine Ev.mk rfl rfl ⟨Nat.le_of_ble_eq_true rfl, Or.inl rfl⟩ ?_
  show At _ none _ _ (0, [(0, .int a1), (1, .int 0), (2, .int 1000000)], [], (_, _)) _
  refine At.enter rfl ?_
  refine r_iload_n rfl ?_
  refine r_iload_n rfl ?_
  refine r_ics 5 rfl (fun c7925 => ?_) (fun c7925 => ?_)
  · have c7925_ : a1.toInt < 0 := en_i_lt_t c7925
    refine At.enter rfl ?_
    refine r_iconst 0 rfl ?_
    refine Ar.fall 15 rfl ?_
    refine At.enter rfl ?_
    refine q_iretz (by decide) ?_
    refine At.enter rfl ?_
    refine r_iff 11 rfl (by decide) ?_
    refine At.enter rfl ?_
    refine r_aload_n rfl ?_
    refine r_iconst (-1) rfl ?_
    refine r_callV 16 rfl [.ref 0, .int (-1)] [] (Nat.le_of_ble_eq_true rfl) rfl (T_X10_refused_0 _ hI0 (-1) (by decide)) ?_
    rintro _ _ ⟨g7926, rfl, hI7927, hF7928, v7929, rfl, hr7930⟩
    refine At.sti ?_
    have hF7931 := Fr.tr hF0 hF7928 rfl rfl
    have zv7932 : ((-1) : Int32).toInt = (-1) := rfl
    refine At.enter rfl ?_
    refine r_ireti ?_
    exact ⟨_, rfl, hI7927, hF7931, _, rfl, trivial⟩
  · have c7925_ : a1.toInt ≥ 0 := en_i_lt_f c7925
    refine At.enter rfl ?_
    refine r_iload_n rfl ?_
    refine r_iload_n rfl ?_
    refine r_ics 10 rfl (fun c7933 => ?_) (fun c7933 => ?_)
    · have c7933_ : a1.toInt > 1000000 := en_i_gt_t c7933
      refine At.enter rfl ?_
      refine r_iconst 0 rfl ?_
      refine Ar.fall 15 rfl ?_
      refine At.enter rfl ?_
      refine q_iretz (by decide) ?_
      refine At.enter rfl ?_
      refine r_iff 11 rfl (by decide) ?_
      refine At.enter rfl ?_
      refine r_aload_n rfl ?_
      refine r_iconst (-1) rfl ?_
      refine r_callV 16 rfl [.ref 0, .int (-1)] [] (Nat.le_of_ble_eq_true rfl) rfl (T_X10_refused_0 _ hI0 (-1) (by decide)) ?_
      rintro _ _ ⟨g7934, rfl, hI7935, hF7936, v7937, rfl, hr7938⟩
      refine At.sti ?_
      have hF7939 := Fr.tr hF0 hF7936 rfl rfl
      have zv7940 : ((-1) : Int32).toInt = (-1) := rfl
      refine At.enter rfl ?_
      refine r_ireti ?_
      exact ⟨_, rfl, hI7935, hF7939, _, rfl, trivial⟩
    · have c7933_ : a1.toInt ≤ 1000000 := en_i_gt_f c7933
      refine At.enter rfl ?_
      refine r_iconst 1 rfl ?_
      refine r_goto ?_
      refine At.enter rfl ?_
      refine q_iretz (by decide) ?_
      refine At.enter rfl ?_
      refine r_ift (by decide) ?_
      refine At.enter rfl ?_
      refine r_aload_n rfl ?_
      refine q_getR (Sh.ref hI0.1 kx_0 rfl) ?_
      refine r_iconst 0 rfl ?_
      refine r_callV 25 rfl [.ref 204, .int 0] [] (Nat.le_of_ble_eq_true rfl) rfl (T_X1_layOut_204 _ hI0 0) ?_
      rintro _ _ ⟨g7941, rfl, hI7942, hF7943, rfl⟩
      refine At.stn ?_
      have hF7946 := Fr.tr hF0 hF7943 rfl rfl
      refine At.enter rfl ?_
      refine r_iload_n rfl ?_
      refine r_istore_n ([(2, .int a1), (0, .ref 0), (1, .int a1)]) rfl ?_
      refine r_iconst 0 rfl ?_
      refine r_istore_n ([(3, .int 0), (2, .int a1), (0, .ref 0), (1, .int a1)]) rfl ?_
      refine Ar.fall 29 rfl ?_
      have z_11362 : (0 : Int32).toInt = 0 := rfl
      refine w_loopI (fun n_ l_ g_ => ∃ x11349 : Int32, ∃ x11350 : Int32, n_ = 8 - x11350.toInt ∧ HI g_ ∧ Fr F_X10_draw_0 A_X10_draw_0 g0 g_ ∧ en_get 0 l_ = some (.ref 0) ∧ en_get 1 l_ = some (.int a1) ∧ en_get 2 l_ = some (.int x11349) ∧ en_get 3 l_ = some (.int x11350) ∧ (0 ≤ x11350.toInt ∧ x11350.toInt ≤ 8)) ?_ (8 - 0) ⟨a1, 0, by first | rfl | omega, hI7942, hF7946, rfl, rfl, rfl, rfl, by decide⟩
      rintro n11355 l11354 g11351 ⟨x11349, x11350, hm11363, hI11352, hF11353, e11357, e11358, e11359, e11360, r11361⟩ ih11356
      refine At.enter rfl ?_
      refine r_iload_n e11360 ?_
      refine r_aload_n e11357 ?_
      refine q_getR (Sh.ref hI11352.1 kx_0 rfl) ?_
      obtain ⟨v11364, hv11364⟩ : ∃ v, gI g0 1 4 = v := ⟨_, rfl⟩
      have rv11364 := RgF.at hI0.2.1 (p := 1) (b := 4) rfl
      rw [hv11364] at rv11364
      dsimp only at rv11364
      refine q_getI (Sh.int hI11352.1 kx_1 rfl) v11364 ((hF11353.1 1 4 (by decide)).trans hv11364) ?_
      have bv11366 := q_bnd x11350
      have bv11367 := q_bnd v11364
      refine r_ics 40 rfl (fun c11365 => ?_) (fun c11365 => ?_)
      · have c11365_ : x11350.toInt ≥ v11364.toInt := en_i_ge_t c11365
        refine At.enter rfl ?_
        refine r_iconst 0 rfl ?_
        refine r_istore_n _ rfl ?_
        refine Ar.fall 66 rfl ?_
        have z_11795 : (0 : Int32).toInt = 0 := rfl
        refine w_loopI (fun n_ l_ g_ => ∃ x11782 : Int32, ∃ x11783 : Int32, n_ = 12 - x11783.toInt ∧ HI g_ ∧ Fr F_X10_draw_0 A_X10_draw_0 g0 g_ ∧ en_get 0 l_ = some (.ref 0) ∧ en_get 1 l_ = some (.int a1) ∧ en_get 2 l_ = some (.int x11782) ∧ en_get 3 l_ = some (.int x11783) ∧ (0 ≤ x11783.toInt ∧ x11783.toInt ≤ 12)) ?_ (12 - 0) ⟨x11349, 0, by first | rfl | omega, hI11352, hF11353, (w_p1 (by decide) (Or.inr rfl) e11357), (w_p1 (by decide) (Or.inr rfl) e11358), (w_p1 (by decide) (Or.inr rfl) e11359), (w_e1 _ _ _), by decide⟩
        rintro n11788 l11787 g11784 ⟨x11782, x11783, hm11796, hI11785, hF11786, e11790, e11791, e11792, e11793, r11794⟩ ih11789
        refine At.enter rfl ?_
        refine r_iload_n e11793 ?_
        refine r_aload_n e11790 ?_
        refine q_getR (Sh.ref hI11785.1 kx_0 rfl) ?_
        obtain ⟨v11797, hv11797⟩ : ∃ v, gI g0 1 0 = v := ⟨_, rfl⟩
        have rv11797 := RgF.at hI0.2.1 (p := 1) (b := 0) rfl
        rw [hv11797] at rv11797
        dsimp only at rv11797
        refine q_getI (Sh.int hI11785.1 kx_1 rfl) v11797 ((hF11786.1 1 0 (by decide)).trans hv11797) ?_
        have bv11799 := q_bnd x11783
        have bv11800 := q_bnd v11797
        refine r_ics 77 rfl (fun c11798 => ?_) (fun c11798 => ?_)
        · have c11798_ : x11783.toInt ≥ v11797.toInt := en_i_ge_t c11798
          refine At.enter rfl ?_
          refine r_aload_n e11790 ?_
          refine q_getR (Sh.ref hI11785.1 kx_0 rfl) ?_
          refine r_callV 125 rfl [.ref 204] [] (Nat.le_of_ble_eq_true rfl) rfl (T_X1_runWhole_204 _ hI11785) ?_
          rintro _ _ ⟨g11801, rfl, hI11802, hF11803, rfl⟩
          refine At.stn ?_
          have hF11806 := Fr.tr hF11786 hF11803 rfl rfl
          refine At.enter rfl ?_
          refine r_aload_n e11790 ?_
          refine r_aload_n e11790 ?_
          refine q_getR (Sh.ref hI11802.1 kx_0 rfl) ?_
          refine q_getI (Sh.int hI11802.1 kx_1 rfl) v11364 (((hF11803.1 1 4 (by decide)).trans (hF11786.1 1 4 (by decide))).trans hv11364) ?_
          refine q_putI (Sh.int hI11802.1 kx_0 rfl) rfl ?_
          have hI11807 := HI.wI1 hI11802 kx_0 rfl (p := 0) (b := 15) (v := v11364) rfl (by dsimp only; omega)
          have hF11808 := Fr.wI (p := 0) (b := 15) (v := v11364) hF11806 rfl
          refine r_aload_n e11790 ?_
          refine q_getR (Sh.ref hI11807.1 kx_0 rfl) ?_
          refine q_getR (Sh.ref hI11807.1 kx_204 rfl) ?_
          refine r_iconst 0 rfl ?_
          refine r_aload_n e11790 ?_
          refine q_getR (Sh.ref hI11807.1 kx_0 rfl) ?_
          refine r_iconst 0 rfl ?_
          refine r_bipush 8 rfl ?_
          have zv11809 : (0 : Int32).toInt = 0 := rfl
          have zv11810 : (0 : Int32).toInt = 0 := rfl
          have zv11811 : (8 : Int32).toInt = 8 := rfl
          refine q_cpy rfl (Nat.le_of_ble_eq_true rfl) (Sh.arr hI11807.1 ka_212) (Sh.arr hI11807.1 ka_228) ⟨by omega, by omega, by omega, by omega, by omega⟩ ?_
          have hI11812 := HI.cpy0 hI11807 ka_212 ka_228 rfl rfl ((0 : Int32).toInt.toNat) ((0 : Int32).toInt.toNat) ((8 : Int32).toInt.toNat) (by omega) (by omega)
          have hF11813 := Fr.cpy (p0 := 212) (p1 := 228) hF11808 rfl ((0 : Int32).toInt.toNat) ((0 : Int32).toInt.toNat) ((8 : Int32).toInt.toNat)
          refine r_aload_n e11790 ?_
          refine q_getR (Sh.ref hI11812.1 kx_0 rfl) ?_
          refine q_getR (Sh.ref hI11812.1 kx_204 rfl) ?_
          refine r_iconst 0 rfl ?_
          refine r_aload_n e11790 ?_
          refine q_getR (Sh.ref hI11812.1 kx_0 rfl) ?_
          refine r_iconst 0 rfl ?_
          refine r_bipush 8 rfl ?_
          have zv11814 : (0 : Int32).toInt = 0 := rfl
          have zv11815 : (0 : Int32).toInt = 0 := rfl
          have zv11816 : (8 : Int32).toInt = 8 := rfl
          refine q_cpy rfl (Nat.le_of_ble_eq_true rfl) (Sh.arr hI11812.1 ka_207) (Sh.arr hI11812.1 ka_229) ⟨by omega, by omega, by omega, by omega, by omega⟩ ?_
          have hI11817 := HI.cpy0 hI11812 ka_207 ka_229 rfl rfl ((0 : Int32).toInt.toNat) ((0 : Int32).toInt.toNat) ((8 : Int32).toInt.toNat) (by omega) (by omega)
          have hF11818 := Fr.cpy (p0 := 207) (p1 := 229) hF11813 rfl ((0 : Int32).toInt.toNat) ((0 : Int32).toInt.toNat) ((8 : Int32).toInt.toNat)
          refine r_aload_n e11790 ?_
          refine r_aload_n e11790 ?_
          refine q_getR (Sh.ref hI11817.1 kx_0 rfl) ?_
          refine r_callV 180 rfl [.ref 204] [.ref 0] (Nat.le_of_ble_eq_true rfl) rfl (T_X1_comeByNoon_204 _ hI11817) ?_
          rintro _ _ ⟨g11819, rfl, hI11820, hF11821, v11822, rfl, hr11823⟩
          refine At.sti ?_
          have hF11824 := Fr.tr hF11818 hF11821 rfl rfl
          refine At.enter rfl ?_
          refine q_inlV 183 rfl [.ref 0, .int v11822] [] (Nat.le_of_ble_eq_true rfl) rfl ?_
          refine Ev.mk rfl rfl ⟨Nat.le_of_ble_eq_true rfl, Or.inr (q_rc hI11820.1 kx_0 rfl)⟩ ?_
          show At _ none _ _ (0, [(0, .ref 0), (1, .int v11822)], [], (_, _)) _
          refine At.enter rfl ?_
          refine r_aload_n rfl ?_
          refine r_iconst 0 rfl ?_
          refine q_putI (Sh.int hI11820.1 kx_0 rfl) rfl ?_
          have hI11825 := HI.wI0 hI11820 kx_0 rfl (p := 0) (b := 17) (v := 0) rfl
          have hF11826 := Fr.wI (p := 0) (b := 17) (v := 0) hF11824 rfl
          refine r_iload_n rfl ?_
          refine q_ireti ?_
          refine At.enter rfl ?_
          refine r_ireti ?_
          exact ⟨_, rfl, hI11825, hF11826, _, rfl, trivial⟩
        · have c11798_ : x11783.toInt < v11797.toInt := en_i_ge_f c11798
          refine At.enter rfl ?_
          refine r_iload_n e11792 ?_
          refine q_inlS 81 rfl [.int x11782] [] (Nat.le_of_ble_eq_true rfl) rfl ?_
          refine Ev.mk rfl rfl ⟨Nat.le_of_ble_eq_true rfl, Or.inl rfl⟩ ?_
          show At _ none _ _ (0, [(0, .int x11782)], [], (_, _)) _
          refine At.enter rfl ?_
          refine r_iload_n rfl ?_
          refine r_sipush 1103 rfl ?_
          refine q_imulO (fun v11827 _ => ?_)
          refine r_sipush 12345 rfl ?_
          refine q_iaddO (fun v11828 _ => ?_)
          refine r_ldcw 1000003 rfl ?_
          refine q_iremO (by decide) (fun v11829 _ => ?_)
          refine q_ireti ?_
          refine At.enter rfl ?_
          refine r_istore_n _ rfl ?_
          refine r_iload_n (w_e1 _ _ _) ?_
          refine r_iconst 3 rfl ?_
          refine q_iremO (by decide) (fun v11830 _ => ?_)
          refine r_ifs 88 rfl (fun c11831 => ?_) (fun c11831 => ?_)
          · have c11831_ : v11830.toInt ≠ 0 := en_k_ne_t c11831
            refine At.enter rfl ?_
            refine q_iinc (w_p1 (by decide) (Or.inr rfl) e11793) (x11783.toInt + 1) rfl (by omega) (fun v11832 hv11832 => ?_)
            refine r_goto ?_
            have bv11833 := q_bnd v11829
            exact ih11789 (12 - v11832.toInt) _ _ ⟨v11829, v11832, by first | rfl | omega, hI11785, hF11786, (w_p1 (by decide) (Or.inr rfl) (w_p1 (by decide) (Or.inr rfl) e11790)), (w_p1 (by decide) (Or.inr rfl) (w_p1 (by decide) (Or.inr rfl) e11791)), (w_p1 (by decide) (Or.inr rfl) (w_e1 _ _ _)), (w_e1 _ _ _), by omega⟩ ⟨by omega, by omega⟩
          · have c11831_ : v11830.toInt = 0 := en_k_ne_f c11831
            refine At.enter rfl ?_
            refine r_aload_n (w_p1 (by decide) (Or.inr rfl) e11790) ?_
            refine q_getR (Sh.ref hI11785.1 kx_0 rfl) ?_
            refine q_getR (Sh.ref hI11785.1 kx_204 rfl) ?_
            refine r_iload_n (w_p1 (by decide) (Or.inr rfl) e11793) ?_
            refine r_iconst 1 rfl ?_
            refine r_aload_n (w_p1 (by decide) (Or.inr rfl) e11790) ?_
            refine q_getR (Sh.ref hI11785.1 kx_0 rfl) ?_
            refine q_getR (Sh.ref hI11785.1 kx_204 rfl) ?_
            refine r_iload_n (w_p1 (by decide) (Or.inr rfl) e11793) ?_
            obtain ⟨v11834, hv11834⟩ : ∃ v, eA g11784 205 x11783.toInt = v := ⟨_, rfl⟩
            refine q_iald (Sh.arr hI11785.1 ka_205) x11783.toInt rfl (by omega) v11834 hv11834 ?_
            refine r_iconst 1 rfl ?_
            refine q_isubO (fun v11835 _ => ?_)
            refine q_mmax rfl (Nat.le_of_ble_eq_true rfl) (fun v11836 hv11836 => ?_)
            have zv11837 : (1 : Int32).toInt = 1 := rfl
            refine q_iast (Sh.arr hI11785.1 ka_205) (x11783.toInt) rfl (by omega) ?_
            have hI11838 := HI.wA0 hI11785 ka_205 (p := 205) rfl rfl (x11783.toInt) (v11836)
            have hF11839 := Fr.wA (p := 205) (j := x11783.toInt) (v := v11836) hF11786 rfl
            refine Ar.fall 112 rfl ?_
            refine At.enter rfl ?_
            refine q_iinc (w_p1 (by decide) (Or.inr rfl) e11793) (x11783.toInt + 1) rfl (by omega) (fun v11840 hv11840 => ?_)
            refine r_goto ?_
            have bv11841 := q_bnd v11829
            exact ih11789 (12 - v11840.toInt) _ _ ⟨v11829, v11840, by first | rfl | omega, hI11838, hF11839, (w_p1 (by decide) (Or.inr rfl) (w_p1 (by decide) (Or.inr rfl) e11790)), (w_p1 (by decide) (Or.inr rfl) (w_p1 (by decide) (Or.inr rfl) e11791)), (w_p1 (by decide) (Or.inr rfl) (w_e1 _ _ _)), (w_e1 _ _ _), by omega⟩ ⟨by omega, by omega⟩
      · have c11365_ : x11350.toInt < v11364.toInt := en_i_ge_f c11365
        refine At.enter rfl ?_
        refine r_iload_n e11359 ?_
        refine q_inlS 44 rfl [.int x11349] [] (Nat.le_of_ble_eq_true rfl) rfl ?_
        refine Ev.mk rfl rfl ⟨Nat.le_of_ble_eq_true rfl, Or.inl rfl⟩ ?_
        show At _ none _ _ (0, [(0, .int x11349)], [], (_, _)) _
        refine At.enter rfl ?_
        refine r_iload_n rfl ?_
        refine r_sipush 1103 rfl ?_
        refine q_imulO (fun v11842 _ => ?_)
        refine r_sipush 12345 rfl ?_
        refine q_iaddO (fun v11843 _ => ?_)
        refine r_ldcw 1000003 rfl ?_
        refine q_iremO (by decide) (fun v11844 _ => ?_)
        refine q_ireti ?_
        refine At.enter rfl ?_
        refine r_istore_n _ rfl ?_
        refine r_aload_n (w_p1 (by decide) (Or.inr rfl) e11357) ?_
        refine q_getR (Sh.ref hI11352.1 kx_0 rfl) ?_
        refine q_getR (Sh.ref hI11352.1 kx_204 rfl) ?_
        refine r_iload_n (w_p1 (by decide) (Or.inr rfl) e11360) ?_
        refine r_iload_n (w_e1 _ _ _) ?_
        refine r_bipush 30 rfl ?_
        refine q_iremO (by decide) (fun v11845 _ => ?_)
        refine q_iast (Sh.arr hI11352.1 ka_207) (x11350.toInt) rfl (by omega) ?_
        have hI11846 := HI.wA0 hI11352 ka_207 (p := 207) rfl rfl (x11350.toInt) (v11845)
        have hF11847 := Fr.wA (p := 207) (j := x11350.toInt) (v := v11845) hF11353 rfl
        refine q_iinc (w_p1 (by decide) (Or.inr rfl) e11360) (x11350.toInt + 1) rfl (by omega) (fun v11848 hv11848 => ?_)
        refine r_goto ?_
        have bv11849 := q_bnd v11844
        exact ih11356 (8 - v11848.toInt) _ _ ⟨v11844, v11848, by first | rfl | omega, hI11846, hF11847, (w_p1 (by decide) (Or.inr rfl) (w_p1 (by decide) (Or.inr rfl) e11357)), (w_p1 (by decide) (Or.inr rfl) (w_p1 (by decide) (Or.inr rfl) e11358)), (w_p1 (by decide) (Or.inr rfl) (w_e1 _ _ _)), (w_e1 _ _ _), by omega⟩ ⟨by omega, by omega⟩

def F_X10_drawn_0 : List (Nat × Nat) := []
def A_X10_drawn_0 : List Nat := []
set_option maxRecDepth 100000 in
set_option maxHeartbeats 4000000 in
theorem T_X10_drawn_0 (d : Nat) {N : Nat} {g0 : List en_E} (hI0 : HI g0) (a1 : Int32) (a2 : Int32) : Ev (d + 2) 139 [.ref 0, .int a1, .int a2] (g0, N) (fun w h' => ∃ g', h' = (g', N) ∧ HI g' ∧ Fr F_X10_drawn_0 A_X10_drawn_0 g0 g' ∧ ∃ r : Int32, w = some (.int r) ∧ True) := by
  have hF0 : Fr F_X10_drawn_0 A_X10_drawn_0 g0 g0 := Fr.rf
  refine Ev.mk rfl rfl ⟨Nat.le_of_ble_eq_true rfl, Or.inr (q_rc hI0.1 kx_0 rfl)⟩ ?_
  show At _ none _ _ (0, [(0, .ref 0), (1, .int a1), (2, .int a2)], [], (_, _)) _
  refine At.enter rfl ?_
  refine r_iload_n rfl ?_
  refine r_iconst 0 rfl ?_
  refine r_aload_n rfl ?_
  obtain ⟨v23, hv23⟩ : ∃ v, gI g0 0 15 = v := ⟨_, rfl⟩
  have rv23 := RgF.at hI0.2.1 (p := 0) (b := 15) rfl
  rw [hv23] at rv23
  dsimp only at rv23
  refine q_getI (Sh.int hI0.1 kx_0 rfl) v23 hv23 ?_
  refine r_iconst 1 rfl ?_
  refine q_isub (v23.toInt - 1) rfl (by omega) (fun v24 hv24 => ?_)
  refine q_inlS 11 rfl [.int a1, .int 0, .int v24] [] (Nat.le_of_ble_eq_true rfl) rfl ?_
  refine Ev.mk rfl rfl ⟨Nat.le_of_ble_eq_true rfl, Or.inl rfl⟩ ?_
  show At _ none _ _ (0, [(0, .int a1), (1, .int 0), (2, .int v24)], [], (_, _)) _
  refine At.enter rfl ?_
  refine r_iload_n rfl ?_
  refine r_iload_n rfl ?_
  refine r_ics 5 rfl (fun c25 => ?_) (fun c25 => ?_)
  · have c25_ : a1.toInt < 0 := en_i_lt_t c25
    refine At.enter rfl ?_
    refine r_iconst 0 rfl ?_
    refine Ar.fall 15 rfl ?_
    refine At.enter rfl ?_
    refine q_iretz (by decide) ?_
    refine At.enter rfl ?_
    refine r_ift (by decide) ?_
    refine At.enter rfl ?_
    refine r_iconst (-1) rfl ?_
    refine r_ireti ?_
    exact ⟨_, rfl, hI0, hF0, _, rfl, trivial⟩
  · have c25_ : a1.toInt ≥ 0 := en_i_lt_f c25
    refine At.enter rfl ?_
    refine r_iload_n rfl ?_
    refine r_iload_n rfl ?_
    have bv27 := q_bnd a1
    have bv28 := q_bnd v24
    refine r_ics 10 rfl (fun c26 => ?_) (fun c26 => ?_)
    · have c26_ : a1.toInt > v24.toInt := en_i_gt_t c26
      refine At.enter rfl ?_
      refine r_iconst 0 rfl ?_
      refine Ar.fall 15 rfl ?_
      refine At.enter rfl ?_
      refine q_iretz (by decide) ?_
      refine At.enter rfl ?_
      refine r_ift (by decide) ?_
      refine At.enter rfl ?_
      refine r_iconst (-1) rfl ?_
      refine r_ireti ?_
      exact ⟨_, rfl, hI0, hF0, _, rfl, trivial⟩
    · have c26_ : a1.toInt ≤ v24.toInt := en_i_gt_f c26
      refine At.enter rfl ?_
      refine r_iconst 1 rfl ?_
      refine r_goto ?_
      refine At.enter rfl ?_
      refine q_iretz (by decide) ?_
      refine At.enter rfl ?_
      refine r_iff 14 rfl (by decide) ?_
      refine At.enter rfl ?_
      refine r_iload_n rfl ?_
      refine r_iconst 0 rfl ?_
      refine r_iconst 1 rfl ?_
      refine q_inlS 20 rfl [.int a2, .int 0, .int 1] [] (Nat.le_of_ble_eq_true rfl) rfl ?_
      refine Ev.mk rfl rfl ⟨Nat.le_of_ble_eq_true rfl, Or.inl rfl⟩ ?_
      show At _ none _ _ (0, [(0, .int a2), (1, .int 0), (2, .int 1)], [], (_, _)) _
      refine At.enter rfl ?_
      refine r_iload_n rfl ?_
      refine r_iload_n rfl ?_
      refine r_ics 5 rfl (fun c29 => ?_) (fun c29 => ?_)
      · have c29_ : a2.toInt < 0 := en_i_lt_t c29
        refine At.enter rfl ?_
        refine r_iconst 0 rfl ?_
        refine Ar.fall 15 rfl ?_
        refine At.enter rfl ?_
        refine q_iretz (by decide) ?_
        refine At.enter rfl ?_
        refine r_iff 23 rfl (by decide) ?_
        refine At.enter rfl ?_
        refine r_iconst (-1) rfl ?_
        refine r_ireti ?_
        exact ⟨_, rfl, hI0, hF0, _, rfl, trivial⟩
      · have c29_ : a2.toInt ≥ 0 := en_i_lt_f c29
        refine At.enter rfl ?_
        refine r_iload_n rfl ?_
        refine r_iload_n rfl ?_
        refine r_ics 10 rfl (fun c30 => ?_) (fun c30 => ?_)
        · have c30_ : a2.toInt > 1 := en_i_gt_t c30
          refine At.enter rfl ?_
          refine r_iconst 0 rfl ?_
          refine Ar.fall 15 rfl ?_
          refine At.enter rfl ?_
          refine q_iretz (by decide) ?_
          refine At.enter rfl ?_
          refine r_iff 23 rfl (by decide) ?_
          refine At.enter rfl ?_
          refine r_iconst (-1) rfl ?_
          refine r_ireti ?_
          exact ⟨_, rfl, hI0, hF0, _, rfl, trivial⟩
        · have c30_ : a2.toInt ≤ 1 := en_i_gt_f c30
          refine At.enter rfl ?_
          refine r_iconst 1 rfl ?_
          refine r_goto ?_
          refine At.enter rfl ?_
          refine q_iretz (by decide) ?_
          refine At.enter rfl ?_
          refine r_ift (by decide) ?_
          refine At.enter rfl ?_
          refine r_iload_n rfl ?_
          refine r_ifs 29 rfl (fun c31 => ?_) (fun c31 => ?_)
          · have c31_ : a2.toInt ≠ 0 := en_k_ne_t c31
            refine At.enter rfl ?_
            refine r_aload_n rfl ?_
            refine q_getR (Sh.ref hI0.1 kx_0 rfl) ?_
            refine r_iload_n rfl ?_
            obtain ⟨v32, hv32⟩ : ∃ v, eA g0 229 a1.toInt = v := ⟨_, rfl⟩
            refine q_iald (Sh.arr hI0.1 ka_229) a1.toInt rfl (by omega) v32 hv32 ?_
            refine Ar.fall 44 rfl ?_
            refine At.enter rfl ?_
            refine r_ireti ?_
            exact ⟨_, rfl, hI0, hF0, _, rfl, trivial⟩
          · have c31_ : a2.toInt = 0 := en_k_ne_f c31
            refine At.enter rfl ?_
            refine r_aload_n rfl ?_
            refine q_getR (Sh.ref hI0.1 kx_0 rfl) ?_
            refine r_iload_n rfl ?_
            obtain ⟨v33, hv33⟩ : ∃ v, eA g0 228 a1.toInt = v := ⟨_, rfl⟩
            refine q_iald (Sh.arr hI0.1 ka_228) a1.toInt rfl (by omega) v33 hv33 ?_
            refine r_goto ?_
            refine At.enter rfl ?_
            refine r_ireti ?_
            exact ⟨_, rfl, hI0, hF0, _, rfl, trivial⟩

def F_X10_image_0 : List (Nat × Nat) := [(0, 17), (7, 0), (7, 3), (7, 4), (16, 0), (16, 3), (16, 4), (23, 0), (23, 3), (23, 4), (30, 0), (30, 3), (30, 4), (37, 0), (37, 3), (37, 4), (44, 0), (44, 3), (44, 4), (51, 0), (51, 3), (51, 4), (59, 0), (59, 4), (59, 6), (59, 9), (59, 10), (59, 11), (59, 12), (65, 0), (65, 3), (65, 4), (74, 0), (74, 3), (74, 4), (81, 0), (81, 3), (81, 4), (88, 0), (88, 3), (88, 4), (95, 0), (95, 3), (95, 4), (102, 0), (102, 3), (102, 4), (109, 0), (109, 3), (109, 4), (116, 0), (116, 4), (116, 6), (116, 9), (116, 10), (116, 11), (116, 12), (122, 0), (122, 3), (122, 4), (131, 0), (131, 3), (131, 4), (138, 0), (138, 3), (138, 4), (145, 0), (145, 3), (145, 4), (152, 0), (152, 3), (152, 4), (159, 0), (159, 3), (159, 4), (166, 0), (166, 3), (166, 4), (177, 0), (177, 3), (177, 4)]
def A_X10_image_0 : List Nat := [8, 9, 10, 11, 12, 13, 17, 18, 19, 20, 21, 22, 24, 25, 26, 27, 28, 29, 31, 32, 33, 34, 35, 36, 38, 39, 40, 41, 42, 43, 45, 46, 47, 48, 49, 50, 52, 53, 54, 55, 56, 57, 60, 61, 62, 63, 66, 67, 68, 69, 70, 71, 72, 73, 75, 76, 77, 78, 79, 80, 82, 83, 84, 85, 86, 87, 89, 90, 91, 92, 93, 94, 96, 97, 98, 99, 100, 101, 103, 104, 105, 106, 107, 108, 110, 111, 112, 113, 114, 115, 117, 118, 119, 120, 123, 124, 125, 126, 127, 128, 129, 130, 132, 133, 134, 135, 136, 137, 139, 140, 141, 142, 143, 144, 146, 147, 148, 149, 150, 151, 153, 154, 155, 156, 157, 158, 160, 161, 162, 163, 164, 165, 167, 168, 169, 170, 171, 172, 173, 178, 179, 180, 181, 182, 183, 230]
set_option maxRecDepth 100000 in
set_option maxHeartbeats 4000000 in
theorem T_X10_image_0 (d : Nat) {N : Nat} {g0 : List en_E} (hI0 : HI g0) (a1 : Int32) : Ev (d + 3) 140 [.ref 0, .int a1] (g0, N) (fun w h' => ∃ g', h' = (g', N) ∧ HI g' ∧ Fr F_X10_image_0 A_X10_image_0 g0 g' ∧ ∃ r : Int32, w = some (.int r) ∧ ((-1) ≤ r.toInt ∧ r.toInt ≤ 0) ∧ (((a1.toInt = 0 → (eA g' 173 0).toInt = 1 ∧ r.toInt = 0 ∧ (gI g' 59 0).toInt = (gI g0 1 0).toInt ∧ (gI g' 59 12).toInt = (gI g0 1 12).toInt ∧ (gI g' 59 10).toInt = (gI g0 1 10).toInt ∧ (gI g' 59 11).toInt = (gI g0 1 11).toInt ∧ (gI g' 59 4).toInt = (gI g0 1 4).toInt) ∧ (a1.toInt ≠ 0 → (eA g' 173 0).toInt = (eA g0 173 0).toInt ∧ (gI g' 59 0).toInt = (gI g0 59 0).toInt ∧ (gI g' 59 12).toInt = (gI g0 59 12).toInt ∧ (gI g' 59 10).toInt = (gI g0 59 10).toInt ∧ (gI g' 59 11).toInt = (gI g0 59 11).toInt ∧ (gI g' 59 4).toInt = (gI g0 59 4).toInt) ∧ (a1.toInt = 1 → (eA g' 173 1).toInt = 1 ∧ r.toInt = 0 ∧ (gI g' 116 0).toInt = (gI g0 1 0).toInt ∧ (gI g' 116 12).toInt = (gI g0 1 12).toInt ∧ (gI g' 116 10).toInt = (gI g0 1 10).toInt ∧ (gI g' 116 11).toInt = (gI g0 1 11).toInt ∧ (gI g' 116 4).toInt = (gI g0 1 4).toInt) ∧ (a1.toInt ≠ 1 → (eA g' 173 1).toInt = (eA g0 173 1).toInt ∧ (gI g' 116 0).toInt = (gI g0 116 0).toInt ∧ (gI g' 116 12).toInt = (gI g0 116 12).toInt ∧ (gI g' 116 10).toInt = (gI g0 116 10).toInt ∧ (gI g' 116 11).toInt = (gI g0 116 11).toInt ∧ (gI g' 116 4).toInt = (gI g0 116 4).toInt) ∧ (a1.toInt < 0 ∨ 1 < a1.toInt → r.toInt = -1)) ∧ (∀ i : Int, 0 ≤ i → i < 12 → (eA g' 60 (i)).toInt = if a1.toInt = 0 then (eA g0 2 (i)).toInt else (eA g0 60 (i)).toInt) ∧ (∀ i : Int, 0 ≤ i → i < 12 → (eA g' 61 (i)).toInt = if a1.toInt = 0 then (eA g0 3 (i)).toInt else (eA g0 61 (i)).toInt) ∧ (∀ i : Int, 0 ≤ i → i < 12 → (eA g' 62 (i)).toInt = if a1.toInt = 0 then (eA g0 4 (i)).toInt else (eA g0 62 (i)).toInt) ∧ (∀ i : Int, 0 ≤ i → i < 8 → (eA g' 72 (i)).toInt = if a1.toInt = 0 then (eA g0 14 (i)).toInt else (eA g0 72 (i)).toInt) ∧ (∀ i : Int, 0 ≤ i → i < 8 → (eA g' 73 (i)).toInt = if a1.toInt = 0 then (eA g0 15 (i)).toInt else (eA g0 73 (i)).toInt) ∧ (∀ i : Int, 0 ≤ i → i < 12 → (eA g' 117 (i)).toInt = if a1.toInt = 1 then (eA g0 2 (i)).toInt else (eA g0 117 (i)).toInt) ∧ (∀ i : Int, 0 ≤ i → i < 12 → (eA g' 118 (i)).toInt = if a1.toInt = 1 then (eA g0 3 (i)).toInt else (eA g0 118 (i)).toInt) ∧ (∀ i : Int, 0 ≤ i → i < 12 → (eA g' 119 (i)).toInt = if a1.toInt = 1 then (eA g0 4 (i)).toInt else (eA g0 119 (i)).toInt) ∧ (∀ i : Int, 0 ≤ i → i < 8 → (eA g' 129 (i)).toInt = if a1.toInt = 1 then (eA g0 14 (i)).toInt else (eA g0 129 (i)).toInt) ∧ (∀ i : Int, 0 ≤ i → i < 8 → (eA g' 130 (i)).toInt = if a1.toInt = 1 then (eA g0 15 (i)).toInt else (eA g0 130 (i)).toInt) ∧ (∀ i : Int, 0 ≤ i → i < 48 → (eA g' 63 (i)).toInt = if a1.toInt = 0 then (eA g0 5 (i)).toInt else (eA g0 63 (i)).toInt) ∧ (∀ i : Int, 0 ≤ i → i < 48 → (eA g' 120 (i)).toInt = if a1.toInt = 1 then (eA g0 5 (i)).toInt else (eA g0 120 (i)).toInt))) := by
  have hF0 : Fr F_X10_image_0 A_X10_image_0 g0 g0 := Fr.rf
  refine Ev.mk rfl rfl ⟨Nat.le_of_ble_eq_true rfl, Or.inr (q_rc hI0.1 kx_0 rfl)⟩ ?_
  show At _ none _ _ (0, [(0, .ref 0), (1, .int a1)], [], (_, _)) _
  refine At.enter rfl ?_
  refine r_aload_n rfl ?_
  refine r_iload_n rfl ?_
  refine q_inlV 5 rfl [.ref 0, .int a1] [] (Nat.le_of_ble_eq_true rfl) rfl ?_
  refine Ev.mk rfl rfl ⟨Nat.le_of_ble_eq_true rfl, Or.inr (q_rc hI0.1 kx_0 rfl)⟩ ?_
  show At _ none _ _ (0, [(0, .ref 0), (1, .int a1)], [], (_, _)) _
  refine At.enter rfl ?_
  refine r_iload_n rfl ?_
  refine r_iconst 0 rfl ?_
  refine r_iconst 1 rfl ?_
  refine q_inlS 6 rfl [.int a1, .int 0, .int 1] [] (Nat.le_of_ble_eq_true rfl) rfl ?_
  refine Ev.mk rfl rfl ⟨Nat.le_of_ble_eq_true rfl, Or.inl rfl⟩ ?_
  show At _ none _ _ (0, [(0, .int a1), (1, .int 0), (2, .int 1)], [], (_, _)) _
  refine At.enter rfl ?_
  refine r_iload_n rfl ?_
  refine r_iload_n rfl ?_
  refine r_ics 5 rfl (fun c1395 => ?_) (fun c1395 => ?_)
  · have c1395_ : a1.toInt < 0 := en_i_lt_t c1395
    refine At.enter rfl ?_
    refine r_iconst 0 rfl ?_
    refine Ar.fall 15 rfl ?_
    refine At.enter rfl ?_
    refine q_iretz (by decide) ?_
    refine At.enter rfl ?_
    refine r_ift (by decide) ?_
    refine At.enter rfl ?_
    refine r_null ?_
    refine Ar.fall 19 rfl ?_
    refine At.enter rfl ?_
    refine q_zret ?_
    refine At.enter rfl ?_
    refine r_zstore_n ([(2, .null), (0, .ref 0), (1, .int a1)]) rfl ?_
    refine r_zload_n rfl ?_
    refine r_nnz 10 rfl ?_
    refine At.enter rfl ?_
    refine r_aload_n rfl ?_
    refine r_iconst (-1) rfl ?_
    refine r_callV 15 rfl [.ref 0, .int (-1)] [] (Nat.le_of_ble_eq_true rfl) rfl (T_X10_refused_0 _ hI0 (-1) (by decide)) ?_
    rintro _ _ ⟨g1396, rfl, hI1397, hF1398, v1399, rfl, hr1400⟩
    refine At.sti ?_
    have hF1401 := Fr.tr hF0 hF1398 rfl rfl
    have zv1402 : ((-1) : Int32).toInt = (-1) := rfl
    refine At.enter rfl ?_
    refine r_ireti ?_
    obtain ⟨v1403, hv1403⟩ : ∃ v, gI g0 1 0 = v := ⟨_, rfl⟩
    have rv1403 := RgF.at hI0.2.1 (p := 1) (b := 0) rfl
    rw [hv1403] at rv1403
    dsimp only at rv1403
    have tv1403 := congrArg Int32.toInt hv1403
    have x1404 := HI.eqI hI0 (p := 1) (b := 0) (hv1403)
    obtain ⟨v1405, hv1405⟩ : ∃ v, gI g0 1 12 = v := ⟨_, rfl⟩
    have rv1405 := RgF.at hI0.2.1 (p := 1) (b := 12) rfl
    rw [hv1405] at rv1405
    dsimp only at rv1405
    have tv1405 := congrArg Int32.toInt hv1405
    have x1406 := HI.eqI hI0 (p := 1) (b := 12) (hv1405)
    obtain ⟨v1407, hv1407⟩ : ∃ v, gI g0 1 10 = v := ⟨_, rfl⟩
    have tv1407 := congrArg Int32.toInt hv1407
    have x1408 := HI.eqI hI0 (p := 1) (b := 10) (hv1407)
    obtain ⟨v1409, hv1409⟩ : ∃ v, gI g0 1 11 = v := ⟨_, rfl⟩
    have tv1409 := congrArg Int32.toInt hv1409
    have x1410 := HI.eqI hI0 (p := 1) (b := 11) (hv1409)
    obtain ⟨v1411, hv1411⟩ : ∃ v, gI g0 1 4 = v := ⟨_, rfl⟩
    have rv1411 := RgF.at hI0.2.1 (p := 1) (b := 4) rfl
    rw [hv1411] at rv1411
    dsimp only at rv1411
    have tv1411 := congrArg Int32.toInt hv1411
    have x1412 := HI.eqI hI0 (p := 1) (b := 4) (hv1411)
    obtain ⟨v1413, hv1413⟩ : ∃ v, gI g0 59 0 = v := ⟨_, rfl⟩
    have rv1413 := RgF.at hI0.2.1 (p := 59) (b := 0) rfl
    rw [hv1413] at rv1413
    dsimp only at rv1413
    have tv1413 := congrArg Int32.toInt hv1413
    have x1414 := HI.eqI hI0 (p := 59) (b := 0) (hv1413)
    obtain ⟨v1415, hv1415⟩ : ∃ v, gI g0 59 12 = v := ⟨_, rfl⟩
    have rv1415 := RgF.at hI0.2.1 (p := 59) (b := 12) rfl
    rw [hv1415] at rv1415
    dsimp only at rv1415
    have tv1415 := congrArg Int32.toInt hv1415
    have x1416 := HI.eqI hI0 (p := 59) (b := 12) (hv1415)
    obtain ⟨v1417, hv1417⟩ : ∃ v, gI g0 59 10 = v := ⟨_, rfl⟩
    have tv1417 := congrArg Int32.toInt hv1417
    have x1418 := HI.eqI hI0 (p := 59) (b := 10) (hv1417)
    obtain ⟨v1419, hv1419⟩ : ∃ v, gI g0 59 11 = v := ⟨_, rfl⟩
    have tv1419 := congrArg Int32.toInt hv1419
    have x1420 := HI.eqI hI0 (p := 59) (b := 11) (hv1419)
    obtain ⟨v1421, hv1421⟩ : ∃ v, gI g0 59 4 = v := ⟨_, rfl⟩
    have rv1421 := RgF.at hI0.2.1 (p := 59) (b := 4) rfl
    rw [hv1421] at rv1421
    dsimp only at rv1421
    have tv1421 := congrArg Int32.toInt hv1421
    have x1422 := HI.eqI hI0 (p := 59) (b := 4) (hv1421)
    obtain ⟨v1423, hv1423⟩ : ∃ v, gI g0 116 0 = v := ⟨_, rfl⟩
    have rv1423 := RgF.at hI0.2.1 (p := 116) (b := 0) rfl
    rw [hv1423] at rv1423
    dsimp only at rv1423
    have tv1423 := congrArg Int32.toInt hv1423
    have x1424 := HI.eqI hI0 (p := 116) (b := 0) (hv1423)
    obtain ⟨v1425, hv1425⟩ : ∃ v, gI g0 116 12 = v := ⟨_, rfl⟩
    have rv1425 := RgF.at hI0.2.1 (p := 116) (b := 12) rfl
    rw [hv1425] at rv1425
    dsimp only at rv1425
    have tv1425 := congrArg Int32.toInt hv1425
    have x1426 := HI.eqI hI0 (p := 116) (b := 12) (hv1425)
    obtain ⟨v1427, hv1427⟩ : ∃ v, gI g0 116 10 = v := ⟨_, rfl⟩
    have tv1427 := congrArg Int32.toInt hv1427
    have x1428 := HI.eqI hI0 (p := 116) (b := 10) (hv1427)
    obtain ⟨v1429, hv1429⟩ : ∃ v, gI g0 116 11 = v := ⟨_, rfl⟩
    have tv1429 := congrArg Int32.toInt hv1429
    have x1430 := HI.eqI hI0 (p := 116) (b := 11) (hv1429)
    obtain ⟨v1431, hv1431⟩ : ∃ v, gI g0 116 4 = v := ⟨_, rfl⟩
    have rv1431 := RgF.at hI0.2.1 (p := 116) (b := 4) rfl
    rw [hv1431] at rv1431
    dsimp only at rv1431
    have tv1431 := congrArg Int32.toInt hv1431
    have x1432 := HI.eqI hI0 (p := 116) (b := 4) (hv1431)
    obtain ⟨v1433, hv1433⟩ : ∃ v, eA g0 173 0 = v := ⟨_, rfl⟩
    have tv1433 := congrArg Int32.toInt hv1433
    have x1434 := HI.eqA hI0 (p := 173) (j := 0) (hv1433)
    obtain ⟨v1435, hv1435⟩ : ∃ v, eA g0 173 1 = v := ⟨_, rfl⟩
    have tv1435 := congrArg Int32.toInt hv1435
    have x1436 := HI.eqA hI0 (p := 173) (j := 1) (hv1435)
    have x1437 := HI.eqI hI1397 (p := 59) (b := 0) (((hF1398.1 59 0 (by decide)).trans hv1413))
    have x1438 := HI.eqI hI1397 (p := 59) (b := 12) (((hF1398.1 59 12 (by decide)).trans hv1415))
    have x1439 := HI.eqI hI1397 (p := 59) (b := 10) (((hF1398.1 59 10 (by decide)).trans hv1417))
    have x1440 := HI.eqI hI1397 (p := 59) (b := 11) (((hF1398.1 59 11 (by decide)).trans hv1419))
    have x1441 := HI.eqI hI1397 (p := 59) (b := 4) (((hF1398.1 59 4 (by decide)).trans hv1421))
    have x1442 := HI.eqI hI1397 (p := 116) (b := 0) (((hF1398.1 116 0 (by decide)).trans hv1423))
    have x1443 := HI.eqI hI1397 (p := 116) (b := 12) (((hF1398.1 116 12 (by decide)).trans hv1425))
    have x1444 := HI.eqI hI1397 (p := 116) (b := 10) (((hF1398.1 116 10 (by decide)).trans hv1427))
    have x1445 := HI.eqI hI1397 (p := 116) (b := 11) (((hF1398.1 116 11 (by decide)).trans hv1429))
    have x1446 := HI.eqI hI1397 (p := 116) (b := 4) (((hF1398.1 116 4 (by decide)).trans hv1431))
    have x1447 := HI.eqA hI1397 (p := 173) (j := 0) (((eA_c (hF1398.2.1 173 (by decide))).trans hv1433))
    have x1448 := HI.eqA hI1397 (p := 173) (j := 1) (((eA_c (hF1398.2.1 173 (by decide))).trans hv1435))
    exact ⟨_, rfl, hI1397, hF1401, _, rfl, by omega, ⟨⟨by omega, by omega, by omega, by omega, by omega⟩, (by intro i i0 i1; refine Eq.trans ?_ (if_neg (show ¬ (a1.toInt = 0) from by omega)).symm; refine (eA_ti ((hF1398.2.1 60 (by decide)))).trans ?_; (first | rfl | exact eA_ix (by omega) | omega)), (by intro i i0 i1; refine Eq.trans ?_ (if_neg (show ¬ (a1.toInt = 0) from by omega)).symm; refine (eA_ti ((hF1398.2.1 61 (by decide)))).trans ?_; (first | rfl | exact eA_ix (by omega) | omega)), (by intro i i0 i1; refine Eq.trans ?_ (if_neg (show ¬ (a1.toInt = 0) from by omega)).symm; refine (eA_ti ((hF1398.2.1 62 (by decide)))).trans ?_; (first | rfl | exact eA_ix (by omega) | omega)), (by intro i i0 i1; refine Eq.trans ?_ (if_neg (show ¬ (a1.toInt = 0) from by omega)).symm; refine (eA_ti ((hF1398.2.1 72 (by decide)))).trans ?_; (first | rfl | exact eA_ix (by omega) | omega)), (by intro i i0 i1; refine Eq.trans ?_ (if_neg (show ¬ (a1.toInt = 0) from by omega)).symm; refine (eA_ti ((hF1398.2.1 73 (by decide)))).trans ?_; (first | rfl | exact eA_ix (by omega) | omega)), (by intro i i0 i1; refine Eq.trans ?_ (if_neg (show ¬ (a1.toInt = 1) from by omega)).symm; refine (eA_ti ((hF1398.2.1 117 (by decide)))).trans ?_; (first | rfl | exact eA_ix (by omega) | omega)), (by intro i i0 i1; refine Eq.trans ?_ (if_neg (show ¬ (a1.toInt = 1) from by omega)).symm; refine (eA_ti ((hF1398.2.1 118 (by decide)))).trans ?_; (first | rfl | exact eA_ix (by omega) | omega)), (by intro i i0 i1; refine Eq.trans ?_ (if_neg (show ¬ (a1.toInt = 1) from by omega)).symm; refine (eA_ti ((hF1398.2.1 119 (by decide)))).trans ?_; (first | rfl | exact eA_ix (by omega) | omega)), (by intro i i0 i1; refine Eq.trans ?_ (if_neg (show ¬ (a1.toInt = 1) from by omega)).symm; refine (eA_ti ((hF1398.2.1 129 (by decide)))).trans ?_; (first | rfl | exact eA_ix (by omega) | omega)), (by intro i i0 i1; refine Eq.trans ?_ (if_neg (show ¬ (a1.toInt = 1) from by omega)).symm; refine (eA_ti ((hF1398.2.1 130 (by decide)))).trans ?_; (first | rfl | exact eA_ix (by omega) | omega)), (by intro i i0 i1; refine Eq.trans ?_ (if_neg (show ¬ (a1.toInt = 0) from by omega)).symm; refine (eA_ti ((hF1398.2.1 63 (by decide)))).trans ?_; (first | rfl | exact eA_ix (by omega) | omega)), (by intro i i0 i1; refine Eq.trans ?_ (if_neg (show ¬ (a1.toInt = 1) from by omega)).symm; refine (eA_ti ((hF1398.2.1 120 (by decide)))).trans ?_; (first | rfl | exact eA_ix (by omega) | omega))⟩⟩
  · have c1395_ : a1.toInt ≥ 0 := en_i_lt_f c1395
    refine At.enter rfl ?_
    refine r_iload_n rfl ?_
    refine r_iload_n rfl ?_
    refine r_ics 10 rfl (fun c1449 => ?_) (fun c1449 => ?_)
    · have c1449_ : a1.toInt > 1 := en_i_gt_t c1449
      refine At.enter rfl ?_
      refine r_iconst 0 rfl ?_
      refine Ar.fall 15 rfl ?_
      refine At.enter rfl ?_
      refine q_iretz (by decide) ?_
      refine At.enter rfl ?_
      refine r_ift (by decide) ?_
      refine At.enter rfl ?_
      refine r_null ?_
      refine Ar.fall 19 rfl ?_
      refine At.enter rfl ?_
      refine q_zret ?_
      refine At.enter rfl ?_
      refine r_zstore_n ([(2, .null), (0, .ref 0), (1, .int a1)]) rfl ?_
      refine r_zload_n rfl ?_
      refine r_nnz 10 rfl ?_
      refine At.enter rfl ?_
      refine r_aload_n rfl ?_
      refine r_iconst (-1) rfl ?_
      refine r_callV 15 rfl [.ref 0, .int (-1)] [] (Nat.le_of_ble_eq_true rfl) rfl (T_X10_refused_0 _ hI0 (-1) (by decide)) ?_
      rintro _ _ ⟨g1450, rfl, hI1451, hF1452, v1453, rfl, hr1454⟩
      refine At.sti ?_
      have hF1455 := Fr.tr hF0 hF1452 rfl rfl
      have zv1456 : ((-1) : Int32).toInt = (-1) := rfl
      refine At.enter rfl ?_
      refine r_ireti ?_
      obtain ⟨v1457, hv1457⟩ : ∃ v, gI g0 1 0 = v := ⟨_, rfl⟩
      have rv1457 := RgF.at hI0.2.1 (p := 1) (b := 0) rfl
      rw [hv1457] at rv1457
      dsimp only at rv1457
      have tv1457 := congrArg Int32.toInt hv1457
      have x1458 := HI.eqI hI0 (p := 1) (b := 0) (hv1457)
      obtain ⟨v1459, hv1459⟩ : ∃ v, gI g0 1 12 = v := ⟨_, rfl⟩
      have rv1459 := RgF.at hI0.2.1 (p := 1) (b := 12) rfl
      rw [hv1459] at rv1459
      dsimp only at rv1459
      have tv1459 := congrArg Int32.toInt hv1459
      have x1460 := HI.eqI hI0 (p := 1) (b := 12) (hv1459)
      obtain ⟨v1461, hv1461⟩ : ∃ v, gI g0 1 10 = v := ⟨_, rfl⟩
      have tv1461 := congrArg Int32.toInt hv1461
      have x1462 := HI.eqI hI0 (p := 1) (b := 10) (hv1461)
      obtain ⟨v1463, hv1463⟩ : ∃ v, gI g0 1 11 = v := ⟨_, rfl⟩
      have tv1463 := congrArg Int32.toInt hv1463
      have x1464 := HI.eqI hI0 (p := 1) (b := 11) (hv1463)
      obtain ⟨v1465, hv1465⟩ : ∃ v, gI g0 1 4 = v := ⟨_, rfl⟩
      have rv1465 := RgF.at hI0.2.1 (p := 1) (b := 4) rfl
      rw [hv1465] at rv1465
      dsimp only at rv1465
      have tv1465 := congrArg Int32.toInt hv1465
      have x1466 := HI.eqI hI0 (p := 1) (b := 4) (hv1465)
      obtain ⟨v1467, hv1467⟩ : ∃ v, gI g0 59 0 = v := ⟨_, rfl⟩
      have rv1467 := RgF.at hI0.2.1 (p := 59) (b := 0) rfl
      rw [hv1467] at rv1467
      dsimp only at rv1467
      have tv1467 := congrArg Int32.toInt hv1467
      have x1468 := HI.eqI hI0 (p := 59) (b := 0) (hv1467)
      obtain ⟨v1469, hv1469⟩ : ∃ v, gI g0 59 12 = v := ⟨_, rfl⟩
      have rv1469 := RgF.at hI0.2.1 (p := 59) (b := 12) rfl
      rw [hv1469] at rv1469
      dsimp only at rv1469
      have tv1469 := congrArg Int32.toInt hv1469
      have x1470 := HI.eqI hI0 (p := 59) (b := 12) (hv1469)
      obtain ⟨v1471, hv1471⟩ : ∃ v, gI g0 59 10 = v := ⟨_, rfl⟩
      have tv1471 := congrArg Int32.toInt hv1471
      have x1472 := HI.eqI hI0 (p := 59) (b := 10) (hv1471)
      obtain ⟨v1473, hv1473⟩ : ∃ v, gI g0 59 11 = v := ⟨_, rfl⟩
      have tv1473 := congrArg Int32.toInt hv1473
      have x1474 := HI.eqI hI0 (p := 59) (b := 11) (hv1473)
      obtain ⟨v1475, hv1475⟩ : ∃ v, gI g0 59 4 = v := ⟨_, rfl⟩
      have rv1475 := RgF.at hI0.2.1 (p := 59) (b := 4) rfl
      rw [hv1475] at rv1475
      dsimp only at rv1475
      have tv1475 := congrArg Int32.toInt hv1475
      have x1476 := HI.eqI hI0 (p := 59) (b := 4) (hv1475)
      obtain ⟨v1477, hv1477⟩ : ∃ v, gI g0 116 0 = v := ⟨_, rfl⟩
      have rv1477 := RgF.at hI0.2.1 (p := 116) (b := 0) rfl
      rw [hv1477] at rv1477
      dsimp only at rv1477
      have tv1477 := congrArg Int32.toInt hv1477
      have x1478 := HI.eqI hI0 (p := 116) (b := 0) (hv1477)
      obtain ⟨v1479, hv1479⟩ : ∃ v, gI g0 116 12 = v := ⟨_, rfl⟩
      have rv1479 := RgF.at hI0.2.1 (p := 116) (b := 12) rfl
      rw [hv1479] at rv1479
      dsimp only at rv1479
      have tv1479 := congrArg Int32.toInt hv1479
      have x1480 := HI.eqI hI0 (p := 116) (b := 12) (hv1479)
      obtain ⟨v1481, hv1481⟩ : ∃ v, gI g0 116 10 = v := ⟨_, rfl⟩
      have tv1481 := congrArg Int32.toInt hv1481
      have x1482 := HI.eqI hI0 (p := 116) (b := 10) (hv1481)
      obtain ⟨v1483, hv1483⟩ : ∃ v, gI g0 116 11 = v := ⟨_, rfl⟩
      have tv1483 := congrArg Int32.toInt hv1483
      have x1484 := HI.eqI hI0 (p := 116) (b := 11) (hv1483)
      obtain ⟨v1485, hv1485⟩ : ∃ v, gI g0 116 4 = v := ⟨_, rfl⟩
      have rv1485 := RgF.at hI0.2.1 (p := 116) (b := 4) rfl
      rw [hv1485] at rv1485
      dsimp only at rv1485
      have tv1485 := congrArg Int32.toInt hv1485
      have x1486 := HI.eqI hI0 (p := 116) (b := 4) (hv1485)
      obtain ⟨v1487, hv1487⟩ : ∃ v, eA g0 173 0 = v := ⟨_, rfl⟩
      have tv1487 := congrArg Int32.toInt hv1487
      have x1488 := HI.eqA hI0 (p := 173) (j := 0) (hv1487)
      obtain ⟨v1489, hv1489⟩ : ∃ v, eA g0 173 1 = v := ⟨_, rfl⟩
      have tv1489 := congrArg Int32.toInt hv1489
      have x1490 := HI.eqA hI0 (p := 173) (j := 1) (hv1489)
      have x1491 := HI.eqI hI1451 (p := 59) (b := 0) (((hF1452.1 59 0 (by decide)).trans hv1467))
      have x1492 := HI.eqI hI1451 (p := 59) (b := 12) (((hF1452.1 59 12 (by decide)).trans hv1469))
      have x1493 := HI.eqI hI1451 (p := 59) (b := 10) (((hF1452.1 59 10 (by decide)).trans hv1471))
      have x1494 := HI.eqI hI1451 (p := 59) (b := 11) (((hF1452.1 59 11 (by decide)).trans hv1473))
      have x1495 := HI.eqI hI1451 (p := 59) (b := 4) (((hF1452.1 59 4 (by decide)).trans hv1475))
      have x1496 := HI.eqI hI1451 (p := 116) (b := 0) (((hF1452.1 116 0 (by decide)).trans hv1477))
      have x1497 := HI.eqI hI1451 (p := 116) (b := 12) (((hF1452.1 116 12 (by decide)).trans hv1479))
      have x1498 := HI.eqI hI1451 (p := 116) (b := 10) (((hF1452.1 116 10 (by decide)).trans hv1481))
      have x1499 := HI.eqI hI1451 (p := 116) (b := 11) (((hF1452.1 116 11 (by decide)).trans hv1483))
      have x1500 := HI.eqI hI1451 (p := 116) (b := 4) (((hF1452.1 116 4 (by decide)).trans hv1485))
      have x1501 := HI.eqA hI1451 (p := 173) (j := 0) (((eA_c (hF1452.2.1 173 (by decide))).trans hv1487))
      have x1502 := HI.eqA hI1451 (p := 173) (j := 1) (((eA_c (hF1452.2.1 173 (by decide))).trans hv1489))
      exact ⟨_, rfl, hI1451, hF1455, _, rfl, by omega, ⟨⟨by omega, by omega, by omega, by omega, by omega⟩, (by intro i i0 i1; refine Eq.trans ?_ (if_neg (show ¬ (a1.toInt = 0) from by omega)).symm; refine (eA_ti ((hF1452.2.1 60 (by decide)))).trans ?_; (first | rfl | exact eA_ix (by omega) | omega)), (by intro i i0 i1; refine Eq.trans ?_ (if_neg (show ¬ (a1.toInt = 0) from by omega)).symm; refine (eA_ti ((hF1452.2.1 61 (by decide)))).trans ?_; (first | rfl | exact eA_ix (by omega) | omega)), (by intro i i0 i1; refine Eq.trans ?_ (if_neg (show ¬ (a1.toInt = 0) from by omega)).symm; refine (eA_ti ((hF1452.2.1 62 (by decide)))).trans ?_; (first | rfl | exact eA_ix (by omega) | omega)), (by intro i i0 i1; refine Eq.trans ?_ (if_neg (show ¬ (a1.toInt = 0) from by omega)).symm; refine (eA_ti ((hF1452.2.1 72 (by decide)))).trans ?_; (first | rfl | exact eA_ix (by omega) | omega)), (by intro i i0 i1; refine Eq.trans ?_ (if_neg (show ¬ (a1.toInt = 0) from by omega)).symm; refine (eA_ti ((hF1452.2.1 73 (by decide)))).trans ?_; (first | rfl | exact eA_ix (by omega) | omega)), (by intro i i0 i1; refine Eq.trans ?_ (if_neg (show ¬ (a1.toInt = 1) from by omega)).symm; refine (eA_ti ((hF1452.2.1 117 (by decide)))).trans ?_; (first | rfl | exact eA_ix (by omega) | omega)), (by intro i i0 i1; refine Eq.trans ?_ (if_neg (show ¬ (a1.toInt = 1) from by omega)).symm; refine (eA_ti ((hF1452.2.1 118 (by decide)))).trans ?_; (first | rfl | exact eA_ix (by omega) | omega)), (by intro i i0 i1; refine Eq.trans ?_ (if_neg (show ¬ (a1.toInt = 1) from by omega)).symm; refine (eA_ti ((hF1452.2.1 119 (by decide)))).trans ?_; (first | rfl | exact eA_ix (by omega) | omega)), (by intro i i0 i1; refine Eq.trans ?_ (if_neg (show ¬ (a1.toInt = 1) from by omega)).symm; refine (eA_ti ((hF1452.2.1 129 (by decide)))).trans ?_; (first | rfl | exact eA_ix (by omega) | omega)), (by intro i i0 i1; refine Eq.trans ?_ (if_neg (show ¬ (a1.toInt = 1) from by omega)).symm; refine (eA_ti ((hF1452.2.1 130 (by decide)))).trans ?_; (first | rfl | exact eA_ix (by omega) | omega)), (by intro i i0 i1; refine Eq.trans ?_ (if_neg (show ¬ (a1.toInt = 0) from by omega)).symm; refine (eA_ti ((hF1452.2.1 63 (by decide)))).trans ?_; (first | rfl | exact eA_ix (by omega) | omega)), (by intro i i0 i1; refine Eq.trans ?_ (if_neg (show ¬ (a1.toInt = 1) from by omega)).symm; refine (eA_ti ((hF1452.2.1 120 (by decide)))).trans ?_; (first | rfl | exact eA_ix (by omega) | omega))⟩⟩
    · have c1449_ : a1.toInt ≤ 1 := en_i_gt_f c1449
      refine At.enter rfl ?_
      refine r_iconst 1 rfl ?_
      refine r_goto ?_
      refine At.enter rfl ?_
      refine q_iretz (by decide) ?_
      refine At.enter rfl ?_
      refine r_iff 9 rfl (by decide) ?_
      refine At.enter rfl ?_
      refine r_aload_n rfl ?_
      refine q_getR (Sh.ref hI0.1 kx_0 rfl) ?_
      refine r_iload_n rfl ?_
      by_cases c1503_0 : a1.toInt = 0
      · refine q_aald (Sh.rar hI0.1 ka_58) (by decide) 0 (by omega) (by decide) (some 59) rfl ?_
        refine r_goto ?_
        refine At.enter rfl ?_
        refine q_aret ?_
        refine At.enter rfl ?_
        refine r_astore_n ([(2, .ref 59), (0, .ref 0), (1, .int a1)]) rfl ?_
        refine r_aload_n rfl ?_
        refine r_nnr ?_
        refine At.enter rfl ?_
        refine r_aload_n rfl ?_
        refine r_aload_n rfl ?_
        refine q_getR (Sh.ref hI0.1 kx_0 rfl) ?_
        refine q_inlV 24 rfl [.ref 59, .ref 1] [] (Nat.le_of_ble_eq_true rfl) rfl ?_
        refine Ev.mk rfl rfl ⟨Nat.le_of_ble_eq_true rfl, Or.inr (q_rc hI0.1 kx_59 rfl)⟩ ?_
        show At _ none _ _ (0, [(0, .ref 59), (1, .ref 1)], [], (_, _)) _
        refine At.enter rfl ?_
        refine r_aload_n rfl ?_
        refine r_aload_n rfl ?_
        obtain ⟨v1504, hv1504⟩ : ∃ v, gI g0 1 0 = v := ⟨_, rfl⟩
        have rv1504 := RgF.at hI0.2.1 (p := 1) (b := 0) rfl
        rw [hv1504] at rv1504
        dsimp only at rv1504
        refine q_getI (Sh.int hI0.1 kx_1 rfl) v1504 hv1504 ?_
        refine q_putI (Sh.int hI0.1 kx_59 rfl) rfl ?_
        have hI1505 := HI.wI1 hI0 kx_59 rfl (p := 59) (b := 0) (v := v1504) rfl (by dsimp only; omega)
        have hF1506 := Fr.wI (p := 59) (b := 0) (v := v1504) hF0 rfl
        refine r_aload_n rfl ?_
        refine q_getR (Sh.ref hI1505.1 kx_1 rfl) ?_
        refine r_iconst 0 rfl ?_
        refine r_aload_n rfl ?_
        refine q_getR (Sh.ref hI1505.1 kx_59 rfl) ?_
        refine r_iconst 0 rfl ?_
        refine r_bipush 12 rfl ?_
        have zv1507 : (0 : Int32).toInt = 0 := rfl
        have zv1508 : (0 : Int32).toInt = 0 := rfl
        have zv1509 : (12 : Int32).toInt = 12 := rfl
        refine q_cpy rfl (Nat.le_of_ble_eq_true rfl) (Sh.arr hI1505.1 ka_2) (Sh.arr hI1505.1 ka_60) ⟨by omega, by omega, by omega, by omega, by omega⟩ ?_
        have hI1510 := HI.cpy0 hI1505 ka_2 ka_60 rfl rfl ((0 : Int32).toInt.toNat) ((0 : Int32).toInt.toNat) ((12 : Int32).toInt.toNat) (by omega) (by omega)
        have hF1511 := Fr.cpy (p0 := 2) (p1 := 60) hF1506 rfl ((0 : Int32).toInt.toNat) ((0 : Int32).toInt.toNat) ((12 : Int32).toInt.toNat)
        refine r_aload_n rfl ?_
        refine q_getR (Sh.ref hI1510.1 kx_1 rfl) ?_
        refine r_iconst 0 rfl ?_
        refine r_aload_n rfl ?_
        refine q_getR (Sh.ref hI1510.1 kx_59 rfl) ?_
        refine r_iconst 0 rfl ?_
        refine r_bipush 12 rfl ?_
        have zv1512 : (0 : Int32).toInt = 0 := rfl
        have zv1513 : (0 : Int32).toInt = 0 := rfl
        have zv1514 : (12 : Int32).toInt = 12 := rfl
        refine q_cpy rfl (Nat.le_of_ble_eq_true rfl) (Sh.arr hI1510.1 ka_3) (Sh.arr hI1510.1 ka_61) ⟨by omega, by omega, by omega, by omega, by omega⟩ ?_
        have hI1515 := HI.cpy0 hI1510 ka_3 ka_61 rfl rfl ((0 : Int32).toInt.toNat) ((0 : Int32).toInt.toNat) ((12 : Int32).toInt.toNat) (by omega) (by omega)
        have hF1516 := Fr.cpy (p0 := 3) (p1 := 61) hF1511 rfl ((0 : Int32).toInt.toNat) ((0 : Int32).toInt.toNat) ((12 : Int32).toInt.toNat)
        refine r_aload_n rfl ?_
        refine q_getR (Sh.ref hI1515.1 kx_1 rfl) ?_
        refine r_iconst 0 rfl ?_
        refine r_aload_n rfl ?_
        refine q_getR (Sh.ref hI1515.1 kx_59 rfl) ?_
        refine r_iconst 0 rfl ?_
        refine r_bipush 12 rfl ?_
        have zv1517 : (0 : Int32).toInt = 0 := rfl
        have zv1518 : (0 : Int32).toInt = 0 := rfl
        have zv1519 : (12 : Int32).toInt = 12 := rfl
        refine q_cpy rfl (Nat.le_of_ble_eq_true rfl) (Sh.arr hI1515.1 ka_4) (Sh.arr hI1515.1 ka_62) ⟨by omega, by omega, by omega, by omega, by omega⟩ ?_
        have hI1520 := HI.cpy0 hI1515 ka_4 ka_62 rfl rfl ((0 : Int32).toInt.toNat) ((0 : Int32).toInt.toNat) ((12 : Int32).toInt.toNat) (by omega) (by omega)
        have hF1521 := Fr.cpy (p0 := 4) (p1 := 62) hF1516 rfl ((0 : Int32).toInt.toNat) ((0 : Int32).toInt.toNat) ((12 : Int32).toInt.toNat)
        refine r_aload_n rfl ?_
        refine r_aload_n rfl ?_
        obtain ⟨v1522, hv1522⟩ : ∃ v, gI g0 1 4 = v := ⟨_, rfl⟩
        have rv1522 := RgF.at hI0.2.1 (p := 1) (b := 4) rfl
        rw [hv1522] at rv1522
        dsimp only at rv1522
        refine q_getI (Sh.int hI1520.1 kx_1 rfl) v1522 (((gI_sW).trans ((gI_sW).trans ((gI_sW).trans (gI_sI_ne (by decide))))).trans hv1522) ?_
        refine q_putI (Sh.int hI1520.1 kx_59 rfl) rfl ?_
        have hI1523 := HI.wI1 hI1520 kx_59 rfl (p := 59) (b := 4) (v := v1522) rfl (by dsimp only; omega)
        have hF1524 := Fr.wI (p := 59) (b := 4) (v := v1522) hF1521 rfl
        refine r_aload_n rfl ?_
        refine q_getR (Sh.ref hI1523.1 kx_1 rfl) ?_
        refine r_iconst 0 rfl ?_
        refine r_aload_n rfl ?_
        refine q_getR (Sh.ref hI1523.1 kx_59 rfl) ?_
        refine r_iconst 0 rfl ?_
        refine r_bipush 48 rfl ?_
        have zv1525 : (0 : Int32).toInt = 0 := rfl
        have zv1526 : (0 : Int32).toInt = 0 := rfl
        have zv1527 : (48 : Int32).toInt = 48 := rfl
        refine q_cpy rfl (Nat.le_of_ble_eq_true rfl) (Sh.arr hI1523.1 ka_5) (Sh.arr hI1523.1 ka_63) ⟨by omega, by omega, by omega, by omega, by omega⟩ ?_
        have hI1528 := HI.cpy0 hI1523 ka_5 ka_63 rfl rfl ((0 : Int32).toInt.toNat) ((0 : Int32).toInt.toNat) ((48 : Int32).toInt.toNat) (by omega) (by omega)
        have hF1529 := Fr.cpy (p0 := 5) (p1 := 63) hF1524 rfl ((0 : Int32).toInt.toNat) ((0 : Int32).toInt.toNat) ((48 : Int32).toInt.toNat)
        refine r_aload_n rfl ?_
        refine r_aload_n rfl ?_
        obtain ⟨v1530, hv1530⟩ : ∃ v, gI g0 1 6 = v := ⟨_, rfl⟩
        have rv1530 := RgF.at hI0.2.1 (p := 1) (b := 6) rfl
        rw [hv1530] at rv1530
        dsimp only at rv1530
        refine q_getI (Sh.int hI1528.1 kx_1 rfl) v1530 (((gI_sW).trans ((gI_sI_ne (by decide)).trans ((gI_sW).trans ((gI_sW).trans ((gI_sW).trans (gI_sI_ne (by decide))))))).trans hv1530) ?_
        refine q_putI (Sh.int hI1528.1 kx_59 rfl) rfl ?_
        have hI1531 := HI.wI1 hI1528 kx_59 rfl (p := 59) (b := 6) (v := v1530) rfl (by dsimp only; omega)
        have hF1532 := Fr.wI (p := 59) (b := 6) (v := v1530) hF1529 rfl
        refine r_iconst 0 rfl ?_
        refine r_istore_n ([(2, .int 0), (0, .ref 59), (1, .ref 1)]) rfl ?_
        refine Ar.fall 86 rfl ?_
        obtain ⟨v1533, hv1533⟩ : ∃ v, gI g0 59 10 = v := ⟨_, rfl⟩
        have tv1533 := congrArg Int32.toInt hv1533
        obtain ⟨v1534, hv1534⟩ : ∃ v, gI g0 59 11 = v := ⟨_, rfl⟩
        have tv1534 := congrArg Int32.toInt hv1534
        obtain ⟨v1535, hv1535⟩ : ∃ v, gI g0 59 12 = v := ⟨_, rfl⟩
        have rv1535 := RgF.at hI0.2.1 (p := 59) (b := 12) rfl
        rw [hv1535] at rv1535
        dsimp only at rv1535
        have tv1535 := congrArg Int32.toInt hv1535
        obtain ⟨v1536, hv1536⟩ : ∃ v, gI g0 116 0 = v := ⟨_, rfl⟩
        have rv1536 := RgF.at hI0.2.1 (p := 116) (b := 0) rfl
        rw [hv1536] at rv1536
        dsimp only at rv1536
        have tv1536 := congrArg Int32.toInt hv1536
        obtain ⟨v1537, hv1537⟩ : ∃ v, gI g0 116 10 = v := ⟨_, rfl⟩
        have tv1537 := congrArg Int32.toInt hv1537
        obtain ⟨v1538, hv1538⟩ : ∃ v, gI g0 116 11 = v := ⟨_, rfl⟩
        have tv1538 := congrArg Int32.toInt hv1538
        obtain ⟨v1539, hv1539⟩ : ∃ v, gI g0 116 12 = v := ⟨_, rfl⟩
        have rv1539 := RgF.at hI0.2.1 (p := 116) (b := 12) rfl
        rw [hv1539] at rv1539
        dsimp only at rv1539
        have tv1539 := congrArg Int32.toInt hv1539
        obtain ⟨v1540, hv1540⟩ : ∃ v, gI g0 116 4 = v := ⟨_, rfl⟩
        have rv1540 := RgF.at hI0.2.1 (p := 116) (b := 4) rfl
        rw [hv1540] at rv1540
        dsimp only at rv1540
        have tv1540 := congrArg Int32.toInt hv1540
        obtain ⟨v1541, hv1541⟩ : ∃ v, eA g0 173 0 = v := ⟨_, rfl⟩
        have tv1541 := congrArg Int32.toInt hv1541
        obtain ⟨v1542, hv1542⟩ : ∃ v, eA g0 173 1 = v := ⟨_, rfl⟩
        have tv1542 := congrArg Int32.toInt hv1542
        have z_1784 : (0 : Int32).toInt = 0 := rfl
        refine w_loopI (fun n_ l_ g_ => ∃ x1749 : Int32, n_ = 6 - x1749.toInt ∧ HI g_ ∧ Fr F_X10_image_0 A_X10_image_0 g0 g_ ∧ gI g_ 59 0 = v1504 ∧ gI g_ 59 10 = v1533 ∧ gI g_ 59 11 = v1534 ∧ gI g_ 59 12 = v1535 ∧ gI g_ 59 4 = v1522 ∧ gI g_ 116 0 = v1536 ∧ gI g_ 116 10 = v1537 ∧ gI g_ 116 11 = v1538 ∧ gI g_ 116 12 = v1539 ∧ gI g_ 116 4 = v1540 ∧ eA g_ 173 0 = v1541 ∧ eA g_ 173 1 = v1542 ∧ en_get 0 l_ = some (.ref 59) ∧ en_get 1 l_ = some (.ref 1) ∧ en_get 2 l_ = some (.int x1749) ∧ (0 ≤ x1749.toInt ∧ x1749.toInt ≤ 6) ∧ (∀ i : Int, 0 ≤ i → i < 12 → (eA g_ 60 (i)).toInt = (eA g0 2 (i)).toInt) ∧ (∀ i : Int, 0 ≤ i → i < 12 → (eA g_ 61 (i)).toInt = (eA g0 3 (i)).toInt) ∧ (∀ i : Int, 0 ≤ i → i < 12 → (eA g_ 62 (i)).toInt = (eA g0 4 (i)).toInt) ∧ (∀ i : Int, 0 ≤ i → i < 8 → (eA g_ 72 (i)).toInt = (eA g0 72 (i)).toInt) ∧ (∀ i : Int, 0 ≤ i → i < 8 → (eA g_ 73 (i)).toInt = (eA g0 73 (i)).toInt) ∧ (∀ i : Int, 0 ≤ i → i < 12 → (eA g_ 117 (i)).toInt = (eA g0 117 (i)).toInt) ∧ (∀ i : Int, 0 ≤ i → i < 12 → (eA g_ 118 (i)).toInt = (eA g0 118 (i)).toInt) ∧ (∀ i : Int, 0 ≤ i → i < 12 → (eA g_ 119 (i)).toInt = (eA g0 119 (i)).toInt) ∧ (∀ i : Int, 0 ≤ i → i < 8 → (eA g_ 129 (i)).toInt = (eA g0 129 (i)).toInt) ∧ (∀ i : Int, 0 ≤ i → i < 8 → (eA g_ 130 (i)).toInt = (eA g0 130 (i)).toInt) ∧ (∀ i : Int, 0 ≤ i → i < 48 → (eA g_ 63 (i)).toInt = (eA g0 5 (i)).toInt) ∧ (∀ i : Int, 0 ≤ i → i < 48 → (eA g_ 120 (i)).toInt = (eA g0 120 (i)).toInt)) ?_ (6 - 0) ⟨0, by first | rfl | omega, hI1531, hF1532, ((gI_sI_ne (by decide)).trans ((gI_sW).trans ((gI_sI_ne (by decide)).trans ((gI_sW).trans ((gI_sW).trans ((gI_sW).trans (gI_sI_eq hI0.1 kx_59 rfl _))))))), (((gI_sI_ne (by decide)).trans ((gI_sW).trans ((gI_sI_ne (by decide)).trans ((gI_sW).trans ((gI_sW).trans ((gI_sW).trans (gI_sI_ne (by decide)))))))).trans hv1533), (((gI_sI_ne (by decide)).trans ((gI_sW).trans ((gI_sI_ne (by decide)).trans ((gI_sW).trans ((gI_sW).trans ((gI_sW).trans (gI_sI_ne (by decide)))))))).trans hv1534), (((gI_sI_ne (by decide)).trans ((gI_sW).trans ((gI_sI_ne (by decide)).trans ((gI_sW).trans ((gI_sW).trans ((gI_sW).trans (gI_sI_ne (by decide)))))))).trans hv1535), ((gI_sI_ne (by decide)).trans ((gI_sW).trans (gI_sI_eq hI1520.1 kx_59 rfl _))), (((gI_sI_ne (by decide)).trans ((gI_sW).trans ((gI_sI_ne (by decide)).trans ((gI_sW).trans ((gI_sW).trans ((gI_sW).trans (gI_sI_ne (by decide)))))))).trans hv1536), (((gI_sI_ne (by decide)).trans ((gI_sW).trans ((gI_sI_ne (by decide)).trans ((gI_sW).trans ((gI_sW).trans ((gI_sW).trans (gI_sI_ne (by decide)))))))).trans hv1537), (((gI_sI_ne (by decide)).trans ((gI_sW).trans ((gI_sI_ne (by decide)).trans ((gI_sW).trans ((gI_sW).trans ((gI_sW).trans (gI_sI_ne (by decide)))))))).trans hv1538), (((gI_sI_ne (by decide)).trans ((gI_sW).trans ((gI_sI_ne (by decide)).trans ((gI_sW).trans ((gI_sW).trans ((gI_sW).trans (gI_sI_ne (by decide)))))))).trans hv1539), (((gI_sI_ne (by decide)).trans ((gI_sW).trans ((gI_sI_ne (by decide)).trans ((gI_sW).trans ((gI_sW).trans ((gI_sW).trans (gI_sI_ne (by decide)))))))).trans hv1540), (((eA_c gA_sI).trans ((eA_c (gA_sW_ne (by decide))).trans ((eA_c gA_sI).trans ((eA_c (gA_sW_ne (by decide))).trans ((eA_c (gA_sW_ne (by decide))).trans ((eA_c (gA_sW_ne (by decide))).trans (eA_c gA_sI))))))).trans hv1541), (((eA_c gA_sI).trans ((eA_c (gA_sW_ne (by decide))).trans ((eA_c gA_sI).trans ((eA_c (gA_sW_ne (by decide))).trans ((eA_c (gA_sW_ne (by decide))).trans ((eA_c (gA_sW_ne (by decide))).trans (eA_c gA_sI))))))).trans hv1542), rfl, rfl, rfl, by decide, (by intro i i0 i1; refine (eA_tq (((gA_sI).trans ((gA_sW_ne (by decide)).trans ((gA_sI).trans ((gA_sW_ne (by decide)).trans ((gA_sW_ne (by decide)).trans ((gA_cpF hI1505.1 ka_2 ka_60 (by decide) (by decide) (by decide)).trans (gA_sI))))))))).trans ?_; (first | rfl | exact eA_ix (by omega) | omega)), (by intro i i0 i1; refine (eA_tq (((gA_sI).trans ((gA_sW_ne (by decide)).trans ((gA_sI).trans ((gA_sW_ne (by decide)).trans ((gA_cpF hI1510.1 ka_3 ka_61 (by decide) (by decide) (by decide)).trans ((gA_sW_ne (by decide)).trans (gA_sI))))))))).trans ?_; (first | rfl | exact eA_ix (by omega) | omega)), (by intro i i0 i1; refine (eA_tq (((gA_sI).trans ((gA_sW_ne (by decide)).trans ((gA_sI).trans ((gA_cpF hI1515.1 ka_4 ka_62 (by decide) (by decide) (by decide)).trans ((gA_sW_ne (by decide)).trans ((gA_sW_ne (by decide)).trans (gA_sI))))))))).trans ?_; (first | rfl | exact eA_ix (by omega) | omega)), (by intro i i0 i1; refine (eA_ti (((gA_sI).trans ((gA_sW_ne (by decide)).trans ((gA_sI).trans ((gA_sW_ne (by decide)).trans ((gA_sW_ne (by decide)).trans ((gA_sW_ne (by decide)).trans (gA_sI))))))))).trans ?_; (first | rfl | exact eA_ix (by omega) | omega)), (by intro i i0 i1; refine (eA_ti (((gA_sI).trans ((gA_sW_ne (by decide)).trans ((gA_sI).trans ((gA_sW_ne (by decide)).trans ((gA_sW_ne (by decide)).trans ((gA_sW_ne (by decide)).trans (gA_sI))))))))).trans ?_; (first | rfl | exact eA_ix (by omega) | omega)), (by intro i i0 i1; refine (eA_ti (((gA_sI).trans ((gA_sW_ne (by decide)).trans ((gA_sI).trans ((gA_sW_ne (by decide)).trans ((gA_sW_ne (by decide)).trans ((gA_sW_ne (by decide)).trans (gA_sI))))))))).trans ?_; (first | rfl | exact eA_ix (by omega) | omega)), (by intro i i0 i1; refine (eA_ti (((gA_sI).trans ((gA_sW_ne (by decide)).trans ((gA_sI).trans ((gA_sW_ne (by decide)).trans ((gA_sW_ne (by decide)).trans ((gA_sW_ne (by decide)).trans (gA_sI))))))))).trans ?_; (first | rfl | exact eA_ix (by omega) | omega)), (by intro i i0 i1; refine (eA_ti (((gA_sI).trans ((gA_sW_ne (by decide)).trans ((gA_sI).trans ((gA_sW_ne (by decide)).trans ((gA_sW_ne (by decide)).trans ((gA_sW_ne (by decide)).trans (gA_sI))))))))).trans ?_; (first | rfl | exact eA_ix (by omega) | omega)), (by intro i i0 i1; refine (eA_ti (((gA_sI).trans ((gA_sW_ne (by decide)).trans ((gA_sI).trans ((gA_sW_ne (by decide)).trans ((gA_sW_ne (by decide)).trans ((gA_sW_ne (by decide)).trans (gA_sI))))))))).trans ?_; (first | rfl | exact eA_ix (by omega) | omega)), (by intro i i0 i1; refine (eA_ti (((gA_sI).trans ((gA_sW_ne (by decide)).trans ((gA_sI).trans ((gA_sW_ne (by decide)).trans ((gA_sW_ne (by decide)).trans ((gA_sW_ne (by decide)).trans (gA_sI))))))))).trans ?_; (first | rfl | exact eA_ix (by omega) | omega)), (by intro i i0 i1; refine (eA_tq (((gA_sI).trans ((gA_cpF hI1523.1 ka_5 ka_63 (by decide) (by decide) (by decide)).trans ((gA_sI).trans ((gA_sW_ne (by decide)).trans ((gA_sW_ne (by decide)).trans ((gA_sW_ne (by decide)).trans (gA_sI))))))))).trans ?_; (first | rfl | exact eA_ix (by omega) | omega)), (by intro i i0 i1; refine (eA_ti (((gA_sI).trans ((gA_sW_ne (by decide)).trans ((gA_sI).trans ((gA_sW_ne (by decide)).trans ((gA_sW_ne (by decide)).trans ((gA_sW_ne (by decide)).trans (gA_sI))))))))).trans ?_; (first | rfl | exact eA_ix (by omega) | omega))⟩
        rintro n1754 l1753 g1750 ⟨x1749, hm1785, hI1751, hF1752, e1756, e1757, e1758, e1759, e1760, e1761, e1762, e1763, e1764, e1765, e1766, e1767, e1768, e1769, e1770, r1771, q1772, q1773, q1774, q1775, q1776, q1777, q1778, q1779, q1780, q1781, q1782, q1783⟩ ih1755
        have tv1786 := congrArg Int32.toInt e1766
        have tv1787 := congrArg Int32.toInt e1767
        have tv1788 := congrArg Int32.toInt e1756
        have tv1789 := congrArg Int32.toInt e1757
        have tv1790 := congrArg Int32.toInt e1758
        have tv1791 := congrArg Int32.toInt e1759
        have tv1792 := congrArg Int32.toInt e1760
        have tv1793 := congrArg Int32.toInt e1761
        have tv1794 := congrArg Int32.toInt e1762
        have tv1795 := congrArg Int32.toInt e1763
        have tv1796 := congrArg Int32.toInt e1764
        have tv1797 := congrArg Int32.toInt e1765
        refine At.enter rfl ?_
        refine r_iload_n e1770 ?_
        refine r_bipush 6 rfl ?_
        refine r_ics 92 rfl (fun c1798 => ?_) (fun c1798 => ?_)
        · have c1798_ : x1749.toInt ≥ 6 := en_i_ge_t c1798
          refine At.enter rfl ?_
          refine r_aload_n e1768 ?_
          refine r_aload_n e1769 ?_
          obtain ⟨v1799, hv1799⟩ : ∃ v, gI g0 1 9 = v := ⟨_, rfl⟩
          refine q_getI (Sh.int hI1751.1 kx_1 rfl) v1799 ((hF1752.1 1 9 (by decide)).trans hv1799) ?_
          refine q_putI (Sh.int hI1751.1 kx_59 rfl) rfl ?_
          have hI1800 := HI.wI0 hI1751 kx_59 rfl (p := 59) (b := 9) (v := v1799) rfl
          have hF1801 := Fr.wI (p := 59) (b := 9) (v := v1799) hF1752 rfl
          refine r_aload_n e1768 ?_
          refine r_aload_n e1769 ?_
          obtain ⟨v1802, hv1802⟩ : ∃ v, gI g0 1 10 = v := ⟨_, rfl⟩
          refine q_getI (Sh.int hI1800.1 kx_1 rfl) v1802 (((gI_sI_ne (by decide)).trans (hF1752.1 1 10 (by decide))).trans hv1802) ?_
          refine q_putI (Sh.int hI1800.1 kx_59 rfl) rfl ?_
          have hI1803 := HI.wI0 hI1800 kx_59 rfl (p := 59) (b := 10) (v := v1802) rfl
          have hF1804 := Fr.wI (p := 59) (b := 10) (v := v1802) hF1801 rfl
          refine r_aload_n e1768 ?_
          refine r_aload_n e1769 ?_
          obtain ⟨v1805, hv1805⟩ : ∃ v, gI g0 1 11 = v := ⟨_, rfl⟩
          refine q_getI (Sh.int hI1803.1 kx_1 rfl) v1805 (((gI_sI_ne (by decide)).trans ((gI_sI_ne (by decide)).trans (hF1752.1 1 11 (by decide)))).trans hv1805) ?_
          refine q_putI (Sh.int hI1803.1 kx_59 rfl) rfl ?_
          have hI1806 := HI.wI0 hI1803 kx_59 rfl (p := 59) (b := 11) (v := v1805) rfl
          have hF1807 := Fr.wI (p := 59) (b := 11) (v := v1805) hF1804 rfl
          refine r_aload_n e1768 ?_
          refine r_aload_n e1769 ?_
          obtain ⟨v1808, hv1808⟩ : ∃ v, gI g0 1 12 = v := ⟨_, rfl⟩
          have rv1808 := RgF.at hI0.2.1 (p := 1) (b := 12) rfl
          rw [hv1808] at rv1808
          dsimp only at rv1808
          refine q_getI (Sh.int hI1806.1 kx_1 rfl) v1808 (((gI_sI_ne (by decide)).trans ((gI_sI_ne (by decide)).trans ((gI_sI_ne (by decide)).trans (hF1752.1 1 12 (by decide))))).trans hv1808) ?_
          refine q_putI (Sh.int hI1806.1 kx_59 rfl) rfl ?_
          have hI1809 := HI.wI1 hI1806 kx_59 rfl (p := 59) (b := 12) (v := v1808) rfl (by dsimp only; omega)
          have hF1810 := Fr.wI (p := 59) (b := 12) (v := v1808) hF1807 rfl
          refine r_aload_n e1769 ?_
          refine q_getR (Sh.ref hI1809.1 kx_1 rfl) ?_
          refine r_iconst 0 rfl ?_
          refine r_aload_n e1768 ?_
          refine q_getR (Sh.ref hI1809.1 kx_59 rfl) ?_
          refine r_iconst 0 rfl ?_
          refine r_bipush 8 rfl ?_
          have zv1811 : (0 : Int32).toInt = 0 := rfl
          have zv1812 : (0 : Int32).toInt = 0 := rfl
          have zv1813 : (8 : Int32).toInt = 8 := rfl
          refine q_cpy rfl (Nat.le_of_ble_eq_true rfl) (Sh.arr hI1809.1 ka_14) (Sh.arr hI1809.1 ka_72) ⟨by omega, by omega, by omega, by omega, by omega⟩ ?_
          have hI1814 := HI.cpy0 hI1809 ka_14 ka_72 rfl rfl ((0 : Int32).toInt.toNat) ((0 : Int32).toInt.toNat) ((8 : Int32).toInt.toNat) (by omega) (by omega)
          have hF1815 := Fr.cpy (p0 := 14) (p1 := 72) hF1810 rfl ((0 : Int32).toInt.toNat) ((0 : Int32).toInt.toNat) ((8 : Int32).toInt.toNat)
          refine r_aload_n e1769 ?_
          refine q_getR (Sh.ref hI1814.1 kx_1 rfl) ?_
          refine r_iconst 0 rfl ?_
          refine r_aload_n e1768 ?_
          refine q_getR (Sh.ref hI1814.1 kx_59 rfl) ?_
          refine r_iconst 0 rfl ?_
          refine r_bipush 8 rfl ?_
          have zv1816 : (0 : Int32).toInt = 0 := rfl
          have zv1817 : (0 : Int32).toInt = 0 := rfl
          have zv1818 : (8 : Int32).toInt = 8 := rfl
          refine q_cpy rfl (Nat.le_of_ble_eq_true rfl) (Sh.arr hI1814.1 ka_15) (Sh.arr hI1814.1 ka_73) ⟨by omega, by omega, by omega, by omega, by omega⟩ ?_
          have hI1819 := HI.cpy0 hI1814 ka_15 ka_73 rfl rfl ((0 : Int32).toInt.toNat) ((0 : Int32).toInt.toNat) ((8 : Int32).toInt.toNat) (by omega) (by omega)
          have hF1820 := Fr.cpy (p0 := 15) (p1 := 73) hF1815 rfl ((0 : Int32).toInt.toNat) ((0 : Int32).toInt.toNat) ((8 : Int32).toInt.toNat)
          refine q_vret ?_
          refine At.enter rfl ?_
          refine r_aload_n rfl ?_
          refine q_getR (Sh.ref hI1819.1 kx_0 rfl) ?_
          refine r_iload_n rfl ?_
          refine r_iconst 1 rfl ?_
          refine q_bast (Sh.arr hI1819.1 ka_173) (a1.toInt) rfl (by omega) rfl ?_
          have hI1821 := HI.wA0 hI1819 ka_173 (p := 173) rfl rfl (a1.toInt) (1)
          have hF1822 := Fr.wA (p := 173) (j := a1.toInt) (v := 1) hF1820 rfl
          refine r_aload_n rfl ?_
          refine r_iconst 0 rfl ?_
          refine q_inlV 36 rfl [.ref 0, .int 0] [] (Nat.le_of_ble_eq_true rfl) rfl ?_
          refine Ev.mk rfl rfl ⟨Nat.le_of_ble_eq_true rfl, Or.inr (q_rc hI1821.1 kx_0 rfl)⟩ ?_
          show At _ none _ _ (0, [(0, .ref 0), (1, .int 0)], [], (_, _)) _
          refine At.enter rfl ?_
          refine r_aload_n rfl ?_
          refine r_iconst 0 rfl ?_
          refine q_putI (Sh.int hI1821.1 kx_0 rfl) rfl ?_
          have hI1823 := HI.wI0 hI1821 kx_0 rfl (p := 0) (b := 17) (v := 0) rfl
          have hF1824 := Fr.wI (p := 0) (b := 17) (v := 0) hF1822 rfl
          refine r_iload_n rfl ?_
          refine q_ireti ?_
          refine At.enter rfl ?_
          refine r_ireti ?_
          have zv1825 : (0 : Int32).toInt = 0 := rfl
          have e : a1.toInt = 0 := by omega
          exact ⟨_, rfl, hI1823, hF1824, _, rfl, by decide, ⟨⟨(fun _ => ⟨(HI.eqA hI1823 (p := 173) (j := 0) (((eA_c gA_sI).trans (eA_sA_eq hI1819.1 ka_173 (by omega) (by first | decide | omega) (by first | decide | omega))))).trans rfl, (by first | rfl | decide), (HI.eqI hI1823 (p := 59) (b := 0) ((((gI_sI_ne (by decide)).trans ((gI_sW).trans ((gI_sW).trans ((gI_sW).trans ((gI_sI_ne (by decide)).trans ((gI_sI_ne (by decide)).trans ((gI_sI_ne (by decide)).trans (gI_sI_ne (by decide))))))))).trans e1756))).trans (HI.eqI hI0 (p := 1) (b := 0) (hv1504)).symm, (HI.eqI hI1823 (p := 59) (b := 12) (((gI_sI_ne (by decide)).trans ((gI_sW).trans ((gI_sW).trans ((gI_sW).trans (gI_sI_eq hI1806.1 kx_59 rfl _))))))).trans (HI.eqI hI0 (p := 1) (b := 12) (hv1808)).symm, (HI.eqI hI1823 (p := 59) (b := 10) (((gI_sI_ne (by decide)).trans ((gI_sW).trans ((gI_sW).trans ((gI_sW).trans ((gI_sI_ne (by decide)).trans ((gI_sI_ne (by decide)).trans (gI_sI_eq hI1800.1 kx_59 rfl _))))))))).trans (HI.eqI hI0 (p := 1) (b := 10) (hv1802)).symm, (HI.eqI hI1823 (p := 59) (b := 11) (((gI_sI_ne (by decide)).trans ((gI_sW).trans ((gI_sW).trans ((gI_sW).trans ((gI_sI_ne (by decide)).trans (gI_sI_eq hI1803.1 kx_59 rfl _)))))))).trans (HI.eqI hI0 (p := 1) (b := 11) (hv1805)).symm, (HI.eqI hI1823 (p := 59) (b := 4) ((((gI_sI_ne (by decide)).trans ((gI_sW).trans ((gI_sW).trans ((gI_sW).trans ((gI_sI_ne (by decide)).trans ((gI_sI_ne (by decide)).trans ((gI_sI_ne (by decide)).trans (gI_sI_ne (by decide))))))))).trans e1760))).trans (HI.eqI hI0 (p := 1) (b := 4) (hv1522)).symm⟩), (fun h => absurd e h), (fun h => absurd (e.symm.trans h) (by decide)), (fun _ => ⟨(HI.eqA hI1823 (p := 173) (j := 1) ((((eA_c gA_sI).trans ((eA_sA_ne hI1819.1 ka_173 (by first | decide | omega) (by first | decide | omega) (by first | decide | omega)).trans ((eA_c (gA_sW_ne (by decide))).trans ((eA_c (gA_sW_ne (by decide))).trans ((eA_c gA_sI).trans ((eA_c gA_sI).trans ((eA_c gA_sI).trans (eA_c gA_sI)))))))).trans e1767))).trans (HI.eqA hI0 (p := 173) (j := 1) (hv1542)).symm, (HI.eqI hI1823 (p := 116) (b := 0) ((((gI_sI_ne (by decide)).trans ((gI_sW).trans ((gI_sW).trans ((gI_sW).trans ((gI_sI_ne (by decide)).trans ((gI_sI_ne (by decide)).trans ((gI_sI_ne (by decide)).trans (gI_sI_ne (by decide))))))))).trans e1761))).trans (HI.eqI hI0 (p := 116) (b := 0) (hv1536)).symm, (HI.eqI hI1823 (p := 116) (b := 12) ((((gI_sI_ne (by decide)).trans ((gI_sW).trans ((gI_sW).trans ((gI_sW).trans ((gI_sI_ne (by decide)).trans ((gI_sI_ne (by decide)).trans ((gI_sI_ne (by decide)).trans (gI_sI_ne (by decide))))))))).trans e1764))).trans (HI.eqI hI0 (p := 116) (b := 12) (hv1539)).symm, (HI.eqI hI1823 (p := 116) (b := 10) ((((gI_sI_ne (by decide)).trans ((gI_sW).trans ((gI_sW).trans ((gI_sW).trans ((gI_sI_ne (by decide)).trans ((gI_sI_ne (by decide)).trans ((gI_sI_ne (by decide)).trans (gI_sI_ne (by decide))))))))).trans e1762))).trans (HI.eqI hI0 (p := 116) (b := 10) (hv1537)).symm, (HI.eqI hI1823 (p := 116) (b := 11) ((((gI_sI_ne (by decide)).trans ((gI_sW).trans ((gI_sW).trans ((gI_sW).trans ((gI_sI_ne (by decide)).trans ((gI_sI_ne (by decide)).trans ((gI_sI_ne (by decide)).trans (gI_sI_ne (by decide))))))))).trans e1763))).trans (HI.eqI hI0 (p := 116) (b := 11) (hv1538)).symm, (HI.eqI hI1823 (p := 116) (b := 4) ((((gI_sI_ne (by decide)).trans ((gI_sW).trans ((gI_sW).trans ((gI_sW).trans ((gI_sI_ne (by decide)).trans ((gI_sI_ne (by decide)).trans ((gI_sI_ne (by decide)).trans (gI_sI_ne (by decide))))))))).trans e1765))).trans (HI.eqI hI0 (p := 116) (b := 4) (hv1540)).symm⟩), (fun h => False.elim (by omega))⟩, (by intro i i0 i1; exact (Decidable.em (a1.toInt = 0)).elim (fun k112_ => by refine Eq.trans ?_ (if_pos k112_).symm; refine (eA_ti (((gA_sI).trans ((gA_sA_ne (by decide)).trans ((gA_sW_ne (by decide)).trans ((gA_sW_ne (by decide)).trans ((gA_sI).trans ((gA_sI).trans ((gA_sI).trans (gA_sI)))))))))).trans ?_; refine ((q1772 (i) (by omega) (by omega))).trans ?_; (first | rfl | exact eA_ix (by omega) | omega)) (fun k112_ => by refine Eq.trans ?_ (if_neg k112_).symm; refine (eA_ti (((gA_sI).trans ((gA_sA_ne (by decide)).trans ((gA_sW_ne (by decide)).trans ((gA_sW_ne (by decide)).trans ((gA_sI).trans ((gA_sI).trans ((gA_sI).trans (gA_sI)))))))))).trans ?_; refine ((q1772 (i) (by omega) (by omega))).trans ?_; (first | rfl | exact eA_ix (by omega) | omega))), (by intro i i0 i1; exact (Decidable.em (a1.toInt = 0)).elim (fun k113_ => by refine Eq.trans ?_ (if_pos k113_).symm; refine (eA_ti (((gA_sI).trans ((gA_sA_ne (by decide)).trans ((gA_sW_ne (by decide)).trans ((gA_sW_ne (by decide)).trans ((gA_sI).trans ((gA_sI).trans ((gA_sI).trans (gA_sI)))))))))).trans ?_; refine ((q1773 (i) (by omega) (by omega))).trans ?_; (first | rfl | exact eA_ix (by omega) | omega)) (fun k113_ => by refine Eq.trans ?_ (if_neg k113_).symm; refine (eA_ti (((gA_sI).trans ((gA_sA_ne (by decide)).trans ((gA_sW_ne (by decide)).trans ((gA_sW_ne (by decide)).trans ((gA_sI).trans ((gA_sI).trans ((gA_sI).trans (gA_sI)))))))))).trans ?_; refine ((q1773 (i) (by omega) (by omega))).trans ?_; (first | rfl | exact eA_ix (by omega) | omega))), (by intro i i0 i1; exact (Decidable.em (a1.toInt = 0)).elim (fun k114_ => by refine Eq.trans ?_ (if_pos k114_).symm; refine (eA_ti (((gA_sI).trans ((gA_sA_ne (by decide)).trans ((gA_sW_ne (by decide)).trans ((gA_sW_ne (by decide)).trans ((gA_sI).trans ((gA_sI).trans ((gA_sI).trans (gA_sI)))))))))).trans ?_; refine ((q1774 (i) (by omega) (by omega))).trans ?_; (first | rfl | exact eA_ix (by omega) | omega)) (fun k114_ => by refine Eq.trans ?_ (if_neg k114_).symm; refine (eA_ti (((gA_sI).trans ((gA_sA_ne (by decide)).trans ((gA_sW_ne (by decide)).trans ((gA_sW_ne (by decide)).trans ((gA_sI).trans ((gA_sI).trans ((gA_sI).trans (gA_sI)))))))))).trans ?_; refine ((q1774 (i) (by omega) (by omega))).trans ?_; (first | rfl | exact eA_ix (by omega) | omega))), (by intro i i0 i1; exact (Decidable.em (a1.toInt = 0)).elim (fun k115_ => by refine Eq.trans ?_ (if_pos k115_).symm; refine (eA_tq (((gA_sI).trans ((gA_sA_ne (by decide)).trans ((gA_sW_ne (by decide)).trans ((gA_cpF hI1809.1 ka_14 ka_72 (by decide) (by decide) (by decide)).trans ((gA_sI).trans ((gA_sI).trans ((gA_sI).trans ((gA_sI).trans (hF1752.2.1 14 (by decide)))))))))))).trans ?_; (first | rfl | exact eA_ix (by omega) | omega)) (fun k115_ => by refine Eq.trans ?_ (if_neg k115_).symm; refine (eA_tq (((gA_sI).trans ((gA_sA_ne (by decide)).trans ((gA_sW_ne (by decide)).trans ((gA_cpF hI1809.1 ka_14 ka_72 (by decide) (by decide) (by decide)).trans ((gA_sI).trans ((gA_sI).trans ((gA_sI).trans ((gA_sI).trans (hF1752.2.1 14 (by decide)))))))))))).trans ?_; (first | rfl | exact eA_ix (by omega) | omega))), (by intro i i0 i1; exact (Decidable.em (a1.toInt = 0)).elim (fun k116_ => by refine Eq.trans ?_ (if_pos k116_).symm; refine (eA_tq (((gA_sI).trans ((gA_sA_ne (by decide)).trans ((gA_cpF hI1814.1 ka_15 ka_73 (by decide) (by decide) (by decide)).trans ((gA_sW_ne (by decide)).trans ((gA_sI).trans ((gA_sI).trans ((gA_sI).trans ((gA_sI).trans (hF1752.2.1 15 (by decide)))))))))))).trans ?_; (first | rfl | exact eA_ix (by omega) | omega)) (fun k116_ => by refine Eq.trans ?_ (if_neg k116_).symm; refine (eA_tq (((gA_sI).trans ((gA_sA_ne (by decide)).trans ((gA_cpF hI1814.1 ka_15 ka_73 (by decide) (by decide) (by decide)).trans ((gA_sW_ne (by decide)).trans ((gA_sI).trans ((gA_sI).trans ((gA_sI).trans ((gA_sI).trans (hF1752.2.1 15 (by decide)))))))))))).trans ?_; (first | rfl | exact eA_ix (by omega) | omega))), (by intro i i0 i1; exact (Decidable.em (a1.toInt = 1)).elim (fun k117_ => by refine Eq.trans ?_ (if_pos k117_).symm; refine (eA_ti (((gA_sI).trans ((gA_sA_ne (by decide)).trans ((gA_sW_ne (by decide)).trans ((gA_sW_ne (by decide)).trans ((gA_sI).trans ((gA_sI).trans ((gA_sI).trans (gA_sI)))))))))).trans ?_; refine ((q1777 (i) (by omega) (by omega))).trans ?_; (first | rfl | exact eA_ix (by omega) | omega)) (fun k117_ => by refine Eq.trans ?_ (if_neg k117_).symm; refine (eA_ti (((gA_sI).trans ((gA_sA_ne (by decide)).trans ((gA_sW_ne (by decide)).trans ((gA_sW_ne (by decide)).trans ((gA_sI).trans ((gA_sI).trans ((gA_sI).trans (gA_sI)))))))))).trans ?_; refine ((q1777 (i) (by omega) (by omega))).trans ?_; (first | rfl | exact eA_ix (by omega) | omega))), (by intro i i0 i1; exact (Decidable.em (a1.toInt = 1)).elim (fun k118_ => by refine Eq.trans ?_ (if_pos k118_).symm; refine (eA_ti (((gA_sI).trans ((gA_sA_ne (by decide)).trans ((gA_sW_ne (by decide)).trans ((gA_sW_ne (by decide)).trans ((gA_sI).trans ((gA_sI).trans ((gA_sI).trans (gA_sI)))))))))).trans ?_; refine ((q1778 (i) (by omega) (by omega))).trans ?_; (first | rfl | exact eA_ix (by omega) | omega)) (fun k118_ => by refine Eq.trans ?_ (if_neg k118_).symm; refine (eA_ti (((gA_sI).trans ((gA_sA_ne (by decide)).trans ((gA_sW_ne (by decide)).trans ((gA_sW_ne (by decide)).trans ((gA_sI).trans ((gA_sI).trans ((gA_sI).trans (gA_sI)))))))))).trans ?_; refine ((q1778 (i) (by omega) (by omega))).trans ?_; (first | rfl | exact eA_ix (by omega) | omega))), (by intro i i0 i1; exact (Decidable.em (a1.toInt = 1)).elim (fun k119_ => by refine Eq.trans ?_ (if_pos k119_).symm; refine (eA_ti (((gA_sI).trans ((gA_sA_ne (by decide)).trans ((gA_sW_ne (by decide)).trans ((gA_sW_ne (by decide)).trans ((gA_sI).trans ((gA_sI).trans ((gA_sI).trans (gA_sI)))))))))).trans ?_; refine ((q1779 (i) (by omega) (by omega))).trans ?_; (first | rfl | exact eA_ix (by omega) | omega)) (fun k119_ => by refine Eq.trans ?_ (if_neg k119_).symm; refine (eA_ti (((gA_sI).trans ((gA_sA_ne (by decide)).trans ((gA_sW_ne (by decide)).trans ((gA_sW_ne (by decide)).trans ((gA_sI).trans ((gA_sI).trans ((gA_sI).trans (gA_sI)))))))))).trans ?_; refine ((q1779 (i) (by omega) (by omega))).trans ?_; (first | rfl | exact eA_ix (by omega) | omega))), (by intro i i0 i1; exact (Decidable.em (a1.toInt = 1)).elim (fun k120_ => by refine Eq.trans ?_ (if_pos k120_).symm; refine (eA_ti (((gA_sI).trans ((gA_sA_ne (by decide)).trans ((gA_sW_ne (by decide)).trans ((gA_sW_ne (by decide)).trans ((gA_sI).trans ((gA_sI).trans ((gA_sI).trans (gA_sI)))))))))).trans ?_; refine ((q1780 (i) (by omega) (by omega))).trans ?_; (first | rfl | exact eA_ix (by omega) | omega)) (fun k120_ => by refine Eq.trans ?_ (if_neg k120_).symm; refine (eA_ti (((gA_sI).trans ((gA_sA_ne (by decide)).trans ((gA_sW_ne (by decide)).trans ((gA_sW_ne (by decide)).trans ((gA_sI).trans ((gA_sI).trans ((gA_sI).trans (gA_sI)))))))))).trans ?_; refine ((q1780 (i) (by omega) (by omega))).trans ?_; (first | rfl | exact eA_ix (by omega) | omega))), (by intro i i0 i1; exact (Decidable.em (a1.toInt = 1)).elim (fun k121_ => by refine Eq.trans ?_ (if_pos k121_).symm; refine (eA_ti (((gA_sI).trans ((gA_sA_ne (by decide)).trans ((gA_sW_ne (by decide)).trans ((gA_sW_ne (by decide)).trans ((gA_sI).trans ((gA_sI).trans ((gA_sI).trans (gA_sI)))))))))).trans ?_; refine ((q1781 (i) (by omega) (by omega))).trans ?_; (first | rfl | exact eA_ix (by omega) | omega)) (fun k121_ => by refine Eq.trans ?_ (if_neg k121_).symm; refine (eA_ti (((gA_sI).trans ((gA_sA_ne (by decide)).trans ((gA_sW_ne (by decide)).trans ((gA_sW_ne (by decide)).trans ((gA_sI).trans ((gA_sI).trans ((gA_sI).trans (gA_sI)))))))))).trans ?_; refine ((q1781 (i) (by omega) (by omega))).trans ?_; (first | rfl | exact eA_ix (by omega) | omega))), (by intro i i0 i1; exact (Decidable.em (a1.toInt = 0)).elim (fun k122_ => by refine Eq.trans ?_ (if_pos k122_).symm; refine (eA_ti (((gA_sI).trans ((gA_sA_ne (by decide)).trans ((gA_sW_ne (by decide)).trans ((gA_sW_ne (by decide)).trans ((gA_sI).trans ((gA_sI).trans ((gA_sI).trans (gA_sI)))))))))).trans ?_; refine ((q1782 (i) (by omega) (by omega))).trans ?_; (first | rfl | exact eA_ix (by omega) | omega)) (fun k122_ => by refine Eq.trans ?_ (if_neg k122_).symm; refine (eA_ti (((gA_sI).trans ((gA_sA_ne (by decide)).trans ((gA_sW_ne (by decide)).trans ((gA_sW_ne (by decide)).trans ((gA_sI).trans ((gA_sI).trans ((gA_sI).trans (gA_sI)))))))))).trans ?_; refine ((q1782 (i) (by omega) (by omega))).trans ?_; (first | rfl | exact eA_ix (by omega) | omega))), (by intro i i0 i1; exact (Decidable.em (a1.toInt = 1)).elim (fun k123_ => by refine Eq.trans ?_ (if_pos k123_).symm; refine (eA_ti (((gA_sI).trans ((gA_sA_ne (by decide)).trans ((gA_sW_ne (by decide)).trans ((gA_sW_ne (by decide)).trans ((gA_sI).trans ((gA_sI).trans ((gA_sI).trans (gA_sI)))))))))).trans ?_; refine ((q1783 (i) (by omega) (by omega))).trans ?_; (first | rfl | exact eA_ix (by omega) | omega)) (fun k123_ => by refine Eq.trans ?_ (if_neg k123_).symm; refine (eA_ti (((gA_sI).trans ((gA_sA_ne (by decide)).trans ((gA_sW_ne (by decide)).trans ((gA_sW_ne (by decide)).trans ((gA_sI).trans ((gA_sI).trans ((gA_sI).trans (gA_sI)))))))))).trans ?_; refine ((q1783 (i) (by omega) (by omega))).trans ?_; (first | rfl | exact eA_ix (by omega) | omega)))⟩⟩
        · have c1798_ : x1749.toInt < 6 := en_i_ge_f c1798
          refine At.enter rfl ?_
          refine r_aload_n e1768 ?_
          refine r_iload_n e1770 ?_
          refine r_callV 97 rfl [.ref 59, .int x1749] [] (Nat.le_of_ble_eq_true rfl) rfl (T_X0_lawAt_59 _ hI1751 x1749) ?_
          rintro _ _ ⟨g1826, rfl, hI1827, hF1828, v1829, rfl, hr1830⟩
          refine At.str ?_
          have hF1831 := Fr.tr hF1752 hF1828 rfl rfl
          refine At.enter rfl ?_
          refine r_aload_n e1769 ?_
          refine r_iload_n e1770 ?_
          refine r_callV 102 rfl [.ref 1, .int x1749] [.ref (v1829)] (Nat.le_of_ble_eq_true rfl) rfl (T_X0_lawAt_1 _ hI1827 x1749) ?_
          rintro _ _ ⟨g1832, rfl, hI1833, hF1834, v1835, rfl, hr1836⟩
          refine At.str ?_
          have hF1837 := Fr.tr hF1831 hF1834 rfl rfl
          refine At.enter rfl ?_
          refine r_callV 105 rfl [.ref (v1829), .ref (v1835)] [] (Nat.le_of_ble_eq_true rfl) rfl (T_X4_become_law _ hI1833 (v1829) hr1830 (v1835) hr1836) ?_
          rintro _ _ ⟨g1838, rfl, hI1839, hF1840, rfl⟩
          refine At.stn ?_
          have hF1843 := Fr.tr hF1837 hF1840 rfl rfl
          refine At.enter rfl ?_
          refine q_iinc e1770 (x1749.toInt + 1) rfl (by omega) (fun v1844 hv1844 => ?_)
          refine r_goto ?_
          exact ih1755 (6 - v1844.toInt) _ _ ⟨v1844, by first | rfl | omega, hI1839, hF1843, (((hF1840.1 59 0 (by decide)).trans ((hF1834.1 59 0 (by decide)).trans (hF1828.1 59 0 (by decide)))).trans e1756), (((hF1840.1 59 10 (by decide)).trans ((hF1834.1 59 10 (by decide)).trans (hF1828.1 59 10 (by decide)))).trans e1757), (((hF1840.1 59 11 (by decide)).trans ((hF1834.1 59 11 (by decide)).trans (hF1828.1 59 11 (by decide)))).trans e1758), (((hF1840.1 59 12 (by decide)).trans ((hF1834.1 59 12 (by decide)).trans (hF1828.1 59 12 (by decide)))).trans e1759), (((hF1840.1 59 4 (by decide)).trans ((hF1834.1 59 4 (by decide)).trans (hF1828.1 59 4 (by decide)))).trans e1760), (((hF1840.1 116 0 (by decide)).trans ((hF1834.1 116 0 (by decide)).trans (hF1828.1 116 0 (by decide)))).trans e1761), (((hF1840.1 116 10 (by decide)).trans ((hF1834.1 116 10 (by decide)).trans (hF1828.1 116 10 (by decide)))).trans e1762), (((hF1840.1 116 11 (by decide)).trans ((hF1834.1 116 11 (by decide)).trans (hF1828.1 116 11 (by decide)))).trans e1763), (((hF1840.1 116 12 (by decide)).trans ((hF1834.1 116 12 (by decide)).trans (hF1828.1 116 12 (by decide)))).trans e1764), (((hF1840.1 116 4 (by decide)).trans ((hF1834.1 116 4 (by decide)).trans (hF1828.1 116 4 (by decide)))).trans e1765), (((eA_c (hF1840.2.1 173 (by decide))).trans ((eA_c (hF1834.2.1 173 (by decide))).trans (eA_c (hF1828.2.1 173 (by decide))))).trans e1766), (((eA_c (hF1840.2.1 173 (by decide))).trans ((eA_c (hF1834.2.1 173 (by decide))).trans (eA_c (hF1828.2.1 173 (by decide))))).trans e1767), (w_p1 (by decide) (Or.inr rfl) e1768), (w_p1 (by decide) (Or.inr rfl) e1769), (w_e1 _ _ _), by omega, (by intro i i0 i1; refine (eA_ti (((hF1840.2.1 60 (by decide)).trans ((hF1834.2.1 60 (by decide)).trans (hF1828.2.1 60 (by decide)))))).trans ?_; refine ((q1772 (i) (by omega) (by omega))).trans ?_; (first | rfl | exact eA_ix (by omega) | omega)), (by intro i i0 i1; refine (eA_ti (((hF1840.2.1 61 (by decide)).trans ((hF1834.2.1 61 (by decide)).trans (hF1828.2.1 61 (by decide)))))).trans ?_; refine ((q1773 (i) (by omega) (by omega))).trans ?_; (first | rfl | exact eA_ix (by omega) | omega)), (by intro i i0 i1; refine (eA_ti (((hF1840.2.1 62 (by decide)).trans ((hF1834.2.1 62 (by decide)).trans (hF1828.2.1 62 (by decide)))))).trans ?_; refine ((q1774 (i) (by omega) (by omega))).trans ?_; (first | rfl | exact eA_ix (by omega) | omega)), (by intro i i0 i1; refine (eA_ti (((hF1840.2.1 72 (by decide)).trans ((hF1834.2.1 72 (by decide)).trans (hF1828.2.1 72 (by decide)))))).trans ?_; refine ((q1775 (i) (by omega) (by omega))).trans ?_; (first | rfl | exact eA_ix (by omega) | omega)), (by intro i i0 i1; refine (eA_ti (((hF1840.2.1 73 (by decide)).trans ((hF1834.2.1 73 (by decide)).trans (hF1828.2.1 73 (by decide)))))).trans ?_; refine ((q1776 (i) (by omega) (by omega))).trans ?_; (first | rfl | exact eA_ix (by omega) | omega)), (by intro i i0 i1; refine (eA_ti (((hF1840.2.1 117 (by decide)).trans ((hF1834.2.1 117 (by decide)).trans (hF1828.2.1 117 (by decide)))))).trans ?_; refine ((q1777 (i) (by omega) (by omega))).trans ?_; (first | rfl | exact eA_ix (by omega) | omega)), (by intro i i0 i1; refine (eA_ti (((hF1840.2.1 118 (by decide)).trans ((hF1834.2.1 118 (by decide)).trans (hF1828.2.1 118 (by decide)))))).trans ?_; refine ((q1778 (i) (by omega) (by omega))).trans ?_; (first | rfl | exact eA_ix (by omega) | omega)), (by intro i i0 i1; refine (eA_ti (((hF1840.2.1 119 (by decide)).trans ((hF1834.2.1 119 (by decide)).trans (hF1828.2.1 119 (by decide)))))).trans ?_; refine ((q1779 (i) (by omega) (by omega))).trans ?_; (first | rfl | exact eA_ix (by omega) | omega)), (by intro i i0 i1; refine (eA_ti (((hF1840.2.1 129 (by decide)).trans ((hF1834.2.1 129 (by decide)).trans (hF1828.2.1 129 (by decide)))))).trans ?_; refine ((q1780 (i) (by omega) (by omega))).trans ?_; (first | rfl | exact eA_ix (by omega) | omega)), (by intro i i0 i1; refine (eA_ti (((hF1840.2.1 130 (by decide)).trans ((hF1834.2.1 130 (by decide)).trans (hF1828.2.1 130 (by decide)))))).trans ?_; refine ((q1781 (i) (by omega) (by omega))).trans ?_; (first | rfl | exact eA_ix (by omega) | omega)), (by intro i i0 i1; refine (eA_ti (((hF1840.2.1 63 (by decide)).trans ((hF1834.2.1 63 (by decide)).trans (hF1828.2.1 63 (by decide)))))).trans ?_; refine ((q1782 (i) (by omega) (by omega))).trans ?_; (first | rfl | exact eA_ix (by omega) | omega)), (by intro i i0 i1; refine (eA_ti (((hF1840.2.1 120 (by decide)).trans ((hF1834.2.1 120 (by decide)).trans (hF1828.2.1 120 (by decide)))))).trans ?_; refine ((q1783 (i) (by omega) (by omega))).trans ?_; (first | rfl | exact eA_ix (by omega) | omega))⟩ ⟨by omega, by omega⟩
      have c1503_1 : a1.toInt = 1 := by omega
      refine q_aald (Sh.rar hI0.1 ka_58) (by decide) 1 (by omega) (by decide) (some 116) rfl ?_
      refine r_goto ?_
      refine At.enter rfl ?_
      refine q_aret ?_
      refine At.enter rfl ?_
      refine r_astore_n ([(2, .ref 116), (0, .ref 0), (1, .int a1)]) rfl ?_
      refine r_aload_n rfl ?_
      refine r_nnr ?_
      refine At.enter rfl ?_
      refine r_aload_n rfl ?_
      refine r_aload_n rfl ?_
      refine q_getR (Sh.ref hI0.1 kx_0 rfl) ?_
      refine q_inlV 24 rfl [.ref 116, .ref 1] [] (Nat.le_of_ble_eq_true rfl) rfl ?_
      refine Ev.mk rfl rfl ⟨Nat.le_of_ble_eq_true rfl, Or.inr (q_rc hI0.1 kx_116 rfl)⟩ ?_
      show At _ none _ _ (0, [(0, .ref 116), (1, .ref 1)], [], (_, _)) _
      refine At.enter rfl ?_
      refine r_aload_n rfl ?_
      refine r_aload_n rfl ?_
      obtain ⟨v1845, hv1845⟩ : ∃ v, gI g0 1 0 = v := ⟨_, rfl⟩
      have rv1845 := RgF.at hI0.2.1 (p := 1) (b := 0) rfl
      rw [hv1845] at rv1845
      dsimp only at rv1845
      refine q_getI (Sh.int hI0.1 kx_1 rfl) v1845 hv1845 ?_
      refine q_putI (Sh.int hI0.1 kx_116 rfl) rfl ?_
      have hI1846 := HI.wI1 hI0 kx_116 rfl (p := 116) (b := 0) (v := v1845) rfl (by dsimp only; omega)
      have hF1847 := Fr.wI (p := 116) (b := 0) (v := v1845) hF0 rfl
      refine r_aload_n rfl ?_
      refine q_getR (Sh.ref hI1846.1 kx_1 rfl) ?_
      refine r_iconst 0 rfl ?_
      refine r_aload_n rfl ?_
      refine q_getR (Sh.ref hI1846.1 kx_116 rfl) ?_
      refine r_iconst 0 rfl ?_
      refine r_bipush 12 rfl ?_
      have zv1848 : (0 : Int32).toInt = 0 := rfl
      have zv1849 : (0 : Int32).toInt = 0 := rfl
      have zv1850 : (12 : Int32).toInt = 12 := rfl
      refine q_cpy rfl (Nat.le_of_ble_eq_true rfl) (Sh.arr hI1846.1 ka_2) (Sh.arr hI1846.1 ka_117) ⟨by omega, by omega, by omega, by omega, by omega⟩ ?_
      have hI1851 := HI.cpy0 hI1846 ka_2 ka_117 rfl rfl ((0 : Int32).toInt.toNat) ((0 : Int32).toInt.toNat) ((12 : Int32).toInt.toNat) (by omega) (by omega)
      have hF1852 := Fr.cpy (p0 := 2) (p1 := 117) hF1847 rfl ((0 : Int32).toInt.toNat) ((0 : Int32).toInt.toNat) ((12 : Int32).toInt.toNat)
      refine r_aload_n rfl ?_
      refine q_getR (Sh.ref hI1851.1 kx_1 rfl) ?_
      refine r_iconst 0 rfl ?_
      refine r_aload_n rfl ?_
      refine q_getR (Sh.ref hI1851.1 kx_116 rfl) ?_
      refine r_iconst 0 rfl ?_
      refine r_bipush 12 rfl ?_
      have zv1853 : (0 : Int32).toInt = 0 := rfl
      have zv1854 : (0 : Int32).toInt = 0 := rfl
      have zv1855 : (12 : Int32).toInt = 12 := rfl
      refine q_cpy rfl (Nat.le_of_ble_eq_true rfl) (Sh.arr hI1851.1 ka_3) (Sh.arr hI1851.1 ka_118) ⟨by omega, by omega, by omega, by omega, by omega⟩ ?_
      have hI1856 := HI.cpy0 hI1851 ka_3 ka_118 rfl rfl ((0 : Int32).toInt.toNat) ((0 : Int32).toInt.toNat) ((12 : Int32).toInt.toNat) (by omega) (by omega)
      have hF1857 := Fr.cpy (p0 := 3) (p1 := 118) hF1852 rfl ((0 : Int32).toInt.toNat) ((0 : Int32).toInt.toNat) ((12 : Int32).toInt.toNat)
      refine r_aload_n rfl ?_
      refine q_getR (Sh.ref hI1856.1 kx_1 rfl) ?_
      refine r_iconst 0 rfl ?_
      refine r_aload_n rfl ?_
      refine q_getR (Sh.ref hI1856.1 kx_116 rfl) ?_
      refine r_iconst 0 rfl ?_
      refine r_bipush 12 rfl ?_
      have zv1858 : (0 : Int32).toInt = 0 := rfl
      have zv1859 : (0 : Int32).toInt = 0 := rfl
      have zv1860 : (12 : Int32).toInt = 12 := rfl
      refine q_cpy rfl (Nat.le_of_ble_eq_true rfl) (Sh.arr hI1856.1 ka_4) (Sh.arr hI1856.1 ka_119) ⟨by omega, by omega, by omega, by omega, by omega⟩ ?_
      have hI1861 := HI.cpy0 hI1856 ka_4 ka_119 rfl rfl ((0 : Int32).toInt.toNat) ((0 : Int32).toInt.toNat) ((12 : Int32).toInt.toNat) (by omega) (by omega)
      have hF1862 := Fr.cpy (p0 := 4) (p1 := 119) hF1857 rfl ((0 : Int32).toInt.toNat) ((0 : Int32).toInt.toNat) ((12 : Int32).toInt.toNat)
      refine r_aload_n rfl ?_
      refine r_aload_n rfl ?_
      obtain ⟨v1863, hv1863⟩ : ∃ v, gI g0 1 4 = v := ⟨_, rfl⟩
      have rv1863 := RgF.at hI0.2.1 (p := 1) (b := 4) rfl
      rw [hv1863] at rv1863
      dsimp only at rv1863
      refine q_getI (Sh.int hI1861.1 kx_1 rfl) v1863 (((gI_sW).trans ((gI_sW).trans ((gI_sW).trans (gI_sI_ne (by decide))))).trans hv1863) ?_
      refine q_putI (Sh.int hI1861.1 kx_116 rfl) rfl ?_
      have hI1864 := HI.wI1 hI1861 kx_116 rfl (p := 116) (b := 4) (v := v1863) rfl (by dsimp only; omega)
      have hF1865 := Fr.wI (p := 116) (b := 4) (v := v1863) hF1862 rfl
      refine r_aload_n rfl ?_
      refine q_getR (Sh.ref hI1864.1 kx_1 rfl) ?_
      refine r_iconst 0 rfl ?_
      refine r_aload_n rfl ?_
      refine q_getR (Sh.ref hI1864.1 kx_116 rfl) ?_
      refine r_iconst 0 rfl ?_
      refine r_bipush 48 rfl ?_
      have zv1866 : (0 : Int32).toInt = 0 := rfl
      have zv1867 : (0 : Int32).toInt = 0 := rfl
      have zv1868 : (48 : Int32).toInt = 48 := rfl
      refine q_cpy rfl (Nat.le_of_ble_eq_true rfl) (Sh.arr hI1864.1 ka_5) (Sh.arr hI1864.1 ka_120) ⟨by omega, by omega, by omega, by omega, by omega⟩ ?_
      have hI1869 := HI.cpy0 hI1864 ka_5 ka_120 rfl rfl ((0 : Int32).toInt.toNat) ((0 : Int32).toInt.toNat) ((48 : Int32).toInt.toNat) (by omega) (by omega)
      have hF1870 := Fr.cpy (p0 := 5) (p1 := 120) hF1865 rfl ((0 : Int32).toInt.toNat) ((0 : Int32).toInt.toNat) ((48 : Int32).toInt.toNat)
      refine r_aload_n rfl ?_
      refine r_aload_n rfl ?_
      obtain ⟨v1871, hv1871⟩ : ∃ v, gI g0 1 6 = v := ⟨_, rfl⟩
      have rv1871 := RgF.at hI0.2.1 (p := 1) (b := 6) rfl
      rw [hv1871] at rv1871
      dsimp only at rv1871
      refine q_getI (Sh.int hI1869.1 kx_1 rfl) v1871 (((gI_sW).trans ((gI_sI_ne (by decide)).trans ((gI_sW).trans ((gI_sW).trans ((gI_sW).trans (gI_sI_ne (by decide))))))).trans hv1871) ?_
      refine q_putI (Sh.int hI1869.1 kx_116 rfl) rfl ?_
      have hI1872 := HI.wI1 hI1869 kx_116 rfl (p := 116) (b := 6) (v := v1871) rfl (by dsimp only; omega)
      have hF1873 := Fr.wI (p := 116) (b := 6) (v := v1871) hF1870 rfl
      refine r_iconst 0 rfl ?_
      refine r_istore_n ([(2, .int 0), (0, .ref 116), (1, .ref 1)]) rfl ?_
      refine Ar.fall 86 rfl ?_
      obtain ⟨v1874, hv1874⟩ : ∃ v, gI g0 59 0 = v := ⟨_, rfl⟩
      have rv1874 := RgF.at hI0.2.1 (p := 59) (b := 0) rfl
      rw [hv1874] at rv1874
      dsimp only at rv1874
      have tv1874 := congrArg Int32.toInt hv1874
      obtain ⟨v1875, hv1875⟩ : ∃ v, gI g0 59 10 = v := ⟨_, rfl⟩
      have tv1875 := congrArg Int32.toInt hv1875
      obtain ⟨v1876, hv1876⟩ : ∃ v, gI g0 59 11 = v := ⟨_, rfl⟩
      have tv1876 := congrArg Int32.toInt hv1876
      obtain ⟨v1877, hv1877⟩ : ∃ v, gI g0 59 12 = v := ⟨_, rfl⟩
      have rv1877 := RgF.at hI0.2.1 (p := 59) (b := 12) rfl
      rw [hv1877] at rv1877
      dsimp only at rv1877
      have tv1877 := congrArg Int32.toInt hv1877
      obtain ⟨v1878, hv1878⟩ : ∃ v, gI g0 59 4 = v := ⟨_, rfl⟩
      have rv1878 := RgF.at hI0.2.1 (p := 59) (b := 4) rfl
      rw [hv1878] at rv1878
      dsimp only at rv1878
      have tv1878 := congrArg Int32.toInt hv1878
      obtain ⟨v1879, hv1879⟩ : ∃ v, gI g0 116 10 = v := ⟨_, rfl⟩
      have tv1879 := congrArg Int32.toInt hv1879
      obtain ⟨v1880, hv1880⟩ : ∃ v, gI g0 116 11 = v := ⟨_, rfl⟩
      have tv1880 := congrArg Int32.toInt hv1880
      obtain ⟨v1881, hv1881⟩ : ∃ v, gI g0 116 12 = v := ⟨_, rfl⟩
      have rv1881 := RgF.at hI0.2.1 (p := 116) (b := 12) rfl
      rw [hv1881] at rv1881
      dsimp only at rv1881
      have tv1881 := congrArg Int32.toInt hv1881
      obtain ⟨v1882, hv1882⟩ : ∃ v, eA g0 173 0 = v := ⟨_, rfl⟩
      have tv1882 := congrArg Int32.toInt hv1882
      obtain ⟨v1883, hv1883⟩ : ∃ v, eA g0 173 1 = v := ⟨_, rfl⟩
      have tv1883 := congrArg Int32.toInt hv1883
      have z_2125 : (0 : Int32).toInt = 0 := rfl
      refine w_loopI (fun n_ l_ g_ => ∃ x2090 : Int32, n_ = 6 - x2090.toInt ∧ HI g_ ∧ Fr F_X10_image_0 A_X10_image_0 g0 g_ ∧ gI g_ 59 0 = v1874 ∧ gI g_ 59 10 = v1875 ∧ gI g_ 59 11 = v1876 ∧ gI g_ 59 12 = v1877 ∧ gI g_ 59 4 = v1878 ∧ gI g_ 116 0 = v1845 ∧ gI g_ 116 10 = v1879 ∧ gI g_ 116 11 = v1880 ∧ gI g_ 116 12 = v1881 ∧ gI g_ 116 4 = v1863 ∧ eA g_ 173 0 = v1882 ∧ eA g_ 173 1 = v1883 ∧ en_get 0 l_ = some (.ref 116) ∧ en_get 1 l_ = some (.ref 1) ∧ en_get 2 l_ = some (.int x2090) ∧ (0 ≤ x2090.toInt ∧ x2090.toInt ≤ 6) ∧ (∀ i : Int, 0 ≤ i → i < 12 → (eA g_ 60 (i)).toInt = (eA g0 60 (i)).toInt) ∧ (∀ i : Int, 0 ≤ i → i < 12 → (eA g_ 61 (i)).toInt = (eA g0 61 (i)).toInt) ∧ (∀ i : Int, 0 ≤ i → i < 12 → (eA g_ 62 (i)).toInt = (eA g0 62 (i)).toInt) ∧ (∀ i : Int, 0 ≤ i → i < 8 → (eA g_ 72 (i)).toInt = (eA g0 72 (i)).toInt) ∧ (∀ i : Int, 0 ≤ i → i < 8 → (eA g_ 73 (i)).toInt = (eA g0 73 (i)).toInt) ∧ (∀ i : Int, 0 ≤ i → i < 12 → (eA g_ 117 (i)).toInt = (eA g0 2 (i)).toInt) ∧ (∀ i : Int, 0 ≤ i → i < 12 → (eA g_ 118 (i)).toInt = (eA g0 3 (i)).toInt) ∧ (∀ i : Int, 0 ≤ i → i < 12 → (eA g_ 119 (i)).toInt = (eA g0 4 (i)).toInt) ∧ (∀ i : Int, 0 ≤ i → i < 8 → (eA g_ 129 (i)).toInt = (eA g0 129 (i)).toInt) ∧ (∀ i : Int, 0 ≤ i → i < 8 → (eA g_ 130 (i)).toInt = (eA g0 130 (i)).toInt) ∧ (∀ i : Int, 0 ≤ i → i < 48 → (eA g_ 63 (i)).toInt = (eA g0 63 (i)).toInt) ∧ (∀ i : Int, 0 ≤ i → i < 48 → (eA g_ 120 (i)).toInt = (eA g0 5 (i)).toInt)) ?_ (6 - 0) ⟨0, by first | rfl | omega, hI1872, hF1873, (((gI_sI_ne (by decide)).trans ((gI_sW).trans ((gI_sI_ne (by decide)).trans ((gI_sW).trans ((gI_sW).trans ((gI_sW).trans (gI_sI_ne (by decide)))))))).trans hv1874), (((gI_sI_ne (by decide)).trans ((gI_sW).trans ((gI_sI_ne (by decide)).trans ((gI_sW).trans ((gI_sW).trans ((gI_sW).trans (gI_sI_ne (by decide)))))))).trans hv1875), (((gI_sI_ne (by decide)).trans ((gI_sW).trans ((gI_sI_ne (by decide)).trans ((gI_sW).trans ((gI_sW).trans ((gI_sW).trans (gI_sI_ne (by decide)))))))).trans hv1876), (((gI_sI_ne (by decide)).trans ((gI_sW).trans ((gI_sI_ne (by decide)).trans ((gI_sW).trans ((gI_sW).trans ((gI_sW).trans (gI_sI_ne (by decide)))))))).trans hv1877), (((gI_sI_ne (by decide)).trans ((gI_sW).trans ((gI_sI_ne (by decide)).trans ((gI_sW).trans ((gI_sW).trans ((gI_sW).trans (gI_sI_ne (by decide)))))))).trans hv1878), ((gI_sI_ne (by decide)).trans ((gI_sW).trans ((gI_sI_ne (by decide)).trans ((gI_sW).trans ((gI_sW).trans ((gI_sW).trans (gI_sI_eq hI0.1 kx_116 rfl _))))))), (((gI_sI_ne (by decide)).trans ((gI_sW).trans ((gI_sI_ne (by decide)).trans ((gI_sW).trans ((gI_sW).trans ((gI_sW).trans (gI_sI_ne (by decide)))))))).trans hv1879), (((gI_sI_ne (by decide)).trans ((gI_sW).trans ((gI_sI_ne (by decide)).trans ((gI_sW).trans ((gI_sW).trans ((gI_sW).trans (gI_sI_ne (by decide)))))))).trans hv1880), (((gI_sI_ne (by decide)).trans ((gI_sW).trans ((gI_sI_ne (by decide)).trans ((gI_sW).trans ((gI_sW).trans ((gI_sW).trans (gI_sI_ne (by decide)))))))).trans hv1881), ((gI_sI_ne (by decide)).trans ((gI_sW).trans (gI_sI_eq hI1861.1 kx_116 rfl _))), (((eA_c gA_sI).trans ((eA_c (gA_sW_ne (by decide))).trans ((eA_c gA_sI).trans ((eA_c (gA_sW_ne (by decide))).trans ((eA_c (gA_sW_ne (by decide))).trans ((eA_c (gA_sW_ne (by decide))).trans (eA_c gA_sI))))))).trans hv1882), (((eA_c gA_sI).trans ((eA_c (gA_sW_ne (by decide))).trans ((eA_c gA_sI).trans ((eA_c (gA_sW_ne (by decide))).trans ((eA_c (gA_sW_ne (by decide))).trans ((eA_c (gA_sW_ne (by decide))).trans (eA_c gA_sI))))))).trans hv1883), rfl, rfl, rfl, by decide, (by intro i i0 i1; refine (eA_ti (((gA_sI).trans ((gA_sW_ne (by decide)).trans ((gA_sI).trans ((gA_sW_ne (by decide)).trans ((gA_sW_ne (by decide)).trans ((gA_sW_ne (by decide)).trans (gA_sI))))))))).trans ?_; (first | rfl | exact eA_ix (by omega) | omega)), (by intro i i0 i1; refine (eA_ti (((gA_sI).trans ((gA_sW_ne (by decide)).trans ((gA_sI).trans ((gA_sW_ne (by decide)).trans ((gA_sW_ne (by decide)).trans ((gA_sW_ne (by decide)).trans (gA_sI))))))))).trans ?_; (first | rfl | exact eA_ix (by omega) | omega)), (by intro i i0 i1; refine (eA_ti (((gA_sI).trans ((gA_sW_ne (by decide)).trans ((gA_sI).trans ((gA_sW_ne (by decide)).trans ((gA_sW_ne (by decide)).trans ((gA_sW_ne (by decide)).trans (gA_sI))))))))).trans ?_; (first | rfl | exact eA_ix (by omega) | omega)), (by intro i i0 i1; refine (eA_ti (((gA_sI).trans ((gA_sW_ne (by decide)).trans ((gA_sI).trans ((gA_sW_ne (by decide)).trans ((gA_sW_ne (by decide)).trans ((gA_sW_ne (by decide)).trans (gA_sI))))))))).trans ?_; (first | rfl | exact eA_ix (by omega) | omega)), (by intro i i0 i1; refine (eA_ti (((gA_sI).trans ((gA_sW_ne (by decide)).trans ((gA_sI).trans ((gA_sW_ne (by decide)).trans ((gA_sW_ne (by decide)).trans ((gA_sW_ne (by decide)).trans (gA_sI))))))))).trans ?_; (first | rfl | exact eA_ix (by omega) | omega)), (by intro i i0 i1; refine (eA_tq (((gA_sI).trans ((gA_sW_ne (by decide)).trans ((gA_sI).trans ((gA_sW_ne (by decide)).trans ((gA_sW_ne (by decide)).trans ((gA_cpF hI1846.1 ka_2 ka_117 (by decide) (by decide) (by decide)).trans (gA_sI))))))))).trans ?_; (first | rfl | exact eA_ix (by omega) | omega)), (by intro i i0 i1; refine (eA_tq (((gA_sI).trans ((gA_sW_ne (by decide)).trans ((gA_sI).trans ((gA_sW_ne (by decide)).trans ((gA_cpF hI1851.1 ka_3 ka_118 (by decide) (by decide) (by decide)).trans ((gA_sW_ne (by decide)).trans (gA_sI))))))))).trans ?_; (first | rfl | exact eA_ix (by omega) | omega)), (by intro i i0 i1; refine (eA_tq (((gA_sI).trans ((gA_sW_ne (by decide)).trans ((gA_sI).trans ((gA_cpF hI1856.1 ka_4 ka_119 (by decide) (by decide) (by decide)).trans ((gA_sW_ne (by decide)).trans ((gA_sW_ne (by decide)).trans (gA_sI))))))))).trans ?_; (first | rfl | exact eA_ix (by omega) | omega)), (by intro i i0 i1; refine (eA_ti (((gA_sI).trans ((gA_sW_ne (by decide)).trans ((gA_sI).trans ((gA_sW_ne (by decide)).trans ((gA_sW_ne (by decide)).trans ((gA_sW_ne (by decide)).trans (gA_sI))))))))).trans ?_; (first | rfl | exact eA_ix (by omega) | omega)), (by intro i i0 i1; refine (eA_ti (((gA_sI).trans ((gA_sW_ne (by decide)).trans ((gA_sI).trans ((gA_sW_ne (by decide)).trans ((gA_sW_ne (by decide)).trans ((gA_sW_ne (by decide)).trans (gA_sI))))))))).trans ?_; (first | rfl | exact eA_ix (by omega) | omega)), (by intro i i0 i1; refine (eA_ti (((gA_sI).trans ((gA_sW_ne (by decide)).trans ((gA_sI).trans ((gA_sW_ne (by decide)).trans ((gA_sW_ne (by decide)).trans ((gA_sW_ne (by decide)).trans (gA_sI))))))))).trans ?_; (first | rfl | exact eA_ix (by omega) | omega)), (by intro i i0 i1; refine (eA_tq (((gA_sI).trans ((gA_cpF hI1864.1 ka_5 ka_120 (by decide) (by decide) (by decide)).trans ((gA_sI).trans ((gA_sW_ne (by decide)).trans ((gA_sW_ne (by decide)).trans ((gA_sW_ne (by decide)).trans (gA_sI))))))))).trans ?_; (first | rfl | exact eA_ix (by omega) | omega))⟩
      rintro n2095 l2094 g2091 ⟨x2090, hm2126, hI2092, hF2093, e2097, e2098, e2099, e2100, e2101, e2102, e2103, e2104, e2105, e2106, e2107, e2108, e2109, e2110, e2111, r2112, q2113, q2114, q2115, q2116, q2117, q2118, q2119, q2120, q2121, q2122, q2123, q2124⟩ ih2096
      have tv2127 := congrArg Int32.toInt e2107
      have tv2128 := congrArg Int32.toInt e2108
      have tv2129 := congrArg Int32.toInt e2097
      have tv2130 := congrArg Int32.toInt e2098
      have tv2131 := congrArg Int32.toInt e2099
      have tv2132 := congrArg Int32.toInt e2100
      have tv2133 := congrArg Int32.toInt e2101
      have tv2134 := congrArg Int32.toInt e2102
      have tv2135 := congrArg Int32.toInt e2103
      have tv2136 := congrArg Int32.toInt e2104
      have tv2137 := congrArg Int32.toInt e2105
      have tv2138 := congrArg Int32.toInt e2106
      refine At.enter rfl ?_
      refine r_iload_n e2111 ?_
      refine r_bipush 6 rfl ?_
      refine r_ics 92 rfl (fun c2139 => ?_) (fun c2139 => ?_)
      · have c2139_ : x2090.toInt ≥ 6 := en_i_ge_t c2139
        refine At.enter rfl ?_
        refine r_aload_n e2109 ?_
        refine r_aload_n e2110 ?_
        obtain ⟨v2140, hv2140⟩ : ∃ v, gI g0 1 9 = v := ⟨_, rfl⟩
        refine q_getI (Sh.int hI2092.1 kx_1 rfl) v2140 ((hF2093.1 1 9 (by decide)).trans hv2140) ?_
        refine q_putI (Sh.int hI2092.1 kx_116 rfl) rfl ?_
        have hI2141 := HI.wI0 hI2092 kx_116 rfl (p := 116) (b := 9) (v := v2140) rfl
        have hF2142 := Fr.wI (p := 116) (b := 9) (v := v2140) hF2093 rfl
        refine r_aload_n e2109 ?_
        refine r_aload_n e2110 ?_
        obtain ⟨v2143, hv2143⟩ : ∃ v, gI g0 1 10 = v := ⟨_, rfl⟩
        refine q_getI (Sh.int hI2141.1 kx_1 rfl) v2143 (((gI_sI_ne (by decide)).trans (hF2093.1 1 10 (by decide))).trans hv2143) ?_
        refine q_putI (Sh.int hI2141.1 kx_116 rfl) rfl ?_
        have hI2144 := HI.wI0 hI2141 kx_116 rfl (p := 116) (b := 10) (v := v2143) rfl
        have hF2145 := Fr.wI (p := 116) (b := 10) (v := v2143) hF2142 rfl
        refine r_aload_n e2109 ?_
        refine r_aload_n e2110 ?_
        obtain ⟨v2146, hv2146⟩ : ∃ v, gI g0 1 11 = v := ⟨_, rfl⟩
        refine q_getI (Sh.int hI2144.1 kx_1 rfl) v2146 (((gI_sI_ne (by decide)).trans ((gI_sI_ne (by decide)).trans (hF2093.1 1 11 (by decide)))).trans hv2146) ?_
        refine q_putI (Sh.int hI2144.1 kx_116 rfl) rfl ?_
        have hI2147 := HI.wI0 hI2144 kx_116 rfl (p := 116) (b := 11) (v := v2146) rfl
        have hF2148 := Fr.wI (p := 116) (b := 11) (v := v2146) hF2145 rfl
        refine r_aload_n e2109 ?_
        refine r_aload_n e2110 ?_
        obtain ⟨v2149, hv2149⟩ : ∃ v, gI g0 1 12 = v := ⟨_, rfl⟩
        have rv2149 := RgF.at hI0.2.1 (p := 1) (b := 12) rfl
        rw [hv2149] at rv2149
        dsimp only at rv2149
        refine q_getI (Sh.int hI2147.1 kx_1 rfl) v2149 (((gI_sI_ne (by decide)).trans ((gI_sI_ne (by decide)).trans ((gI_sI_ne (by decide)).trans (hF2093.1 1 12 (by decide))))).trans hv2149) ?_
        refine q_putI (Sh.int hI2147.1 kx_116 rfl) rfl ?_
        have hI2150 := HI.wI1 hI2147 kx_116 rfl (p := 116) (b := 12) (v := v2149) rfl (by dsimp only; omega)
        have hF2151 := Fr.wI (p := 116) (b := 12) (v := v2149) hF2148 rfl
        refine r_aload_n e2110 ?_
        refine q_getR (Sh.ref hI2150.1 kx_1 rfl) ?_
        refine r_iconst 0 rfl ?_
        refine r_aload_n e2109 ?_
        refine q_getR (Sh.ref hI2150.1 kx_116 rfl) ?_
        refine r_iconst 0 rfl ?_
        refine r_bipush 8 rfl ?_
        have zv2152 : (0 : Int32).toInt = 0 := rfl
        have zv2153 : (0 : Int32).toInt = 0 := rfl
        have zv2154 : (8 : Int32).toInt = 8 := rfl
        refine q_cpy rfl (Nat.le_of_ble_eq_true rfl) (Sh.arr hI2150.1 ka_14) (Sh.arr hI2150.1 ka_129) ⟨by omega, by omega, by omega, by omega, by omega⟩ ?_
        have hI2155 := HI.cpy0 hI2150 ka_14 ka_129 rfl rfl ((0 : Int32).toInt.toNat) ((0 : Int32).toInt.toNat) ((8 : Int32).toInt.toNat) (by omega) (by omega)
        have hF2156 := Fr.cpy (p0 := 14) (p1 := 129) hF2151 rfl ((0 : Int32).toInt.toNat) ((0 : Int32).toInt.toNat) ((8 : Int32).toInt.toNat)
        refine r_aload_n e2110 ?_
        refine q_getR (Sh.ref hI2155.1 kx_1 rfl) ?_
        refine r_iconst 0 rfl ?_
        refine r_aload_n e2109 ?_
        refine q_getR (Sh.ref hI2155.1 kx_116 rfl) ?_
        refine r_iconst 0 rfl ?_
        refine r_bipush 8 rfl ?_
        have zv2157 : (0 : Int32).toInt = 0 := rfl
        have zv2158 : (0 : Int32).toInt = 0 := rfl
        have zv2159 : (8 : Int32).toInt = 8 := rfl
        refine q_cpy rfl (Nat.le_of_ble_eq_true rfl) (Sh.arr hI2155.1 ka_15) (Sh.arr hI2155.1 ka_130) ⟨by omega, by omega, by omega, by omega, by omega⟩ ?_
        have hI2160 := HI.cpy0 hI2155 ka_15 ka_130 rfl rfl ((0 : Int32).toInt.toNat) ((0 : Int32).toInt.toNat) ((8 : Int32).toInt.toNat) (by omega) (by omega)
        have hF2161 := Fr.cpy (p0 := 15) (p1 := 130) hF2156 rfl ((0 : Int32).toInt.toNat) ((0 : Int32).toInt.toNat) ((8 : Int32).toInt.toNat)
        refine q_vret ?_
        refine At.enter rfl ?_
        refine r_aload_n rfl ?_
        refine q_getR (Sh.ref hI2160.1 kx_0 rfl) ?_
        refine r_iload_n rfl ?_
        refine r_iconst 1 rfl ?_
        refine q_bast (Sh.arr hI2160.1 ka_173) (a1.toInt) rfl (by omega) rfl ?_
        have hI2162 := HI.wA0 hI2160 ka_173 (p := 173) rfl rfl (a1.toInt) (1)
        have hF2163 := Fr.wA (p := 173) (j := a1.toInt) (v := 1) hF2161 rfl
        refine r_aload_n rfl ?_
        refine r_iconst 0 rfl ?_
        refine q_inlV 36 rfl [.ref 0, .int 0] [] (Nat.le_of_ble_eq_true rfl) rfl ?_
        refine Ev.mk rfl rfl ⟨Nat.le_of_ble_eq_true rfl, Or.inr (q_rc hI2162.1 kx_0 rfl)⟩ ?_
        show At _ none _ _ (0, [(0, .ref 0), (1, .int 0)], [], (_, _)) _
        refine At.enter rfl ?_
        refine r_aload_n rfl ?_
        refine r_iconst 0 rfl ?_
        refine q_putI (Sh.int hI2162.1 kx_0 rfl) rfl ?_
        have hI2164 := HI.wI0 hI2162 kx_0 rfl (p := 0) (b := 17) (v := 0) rfl
        have hF2165 := Fr.wI (p := 0) (b := 17) (v := 0) hF2163 rfl
        refine r_iload_n rfl ?_
        refine q_ireti ?_
        refine At.enter rfl ?_
        refine r_ireti ?_
        have zv2166 : (0 : Int32).toInt = 0 := rfl
        have e : a1.toInt = 1 := by omega
        exact ⟨_, rfl, hI2164, hF2165, _, rfl, by decide, ⟨⟨(fun h => absurd (e.symm.trans h) (by decide)), (fun _ => ⟨(HI.eqA hI2164 (p := 173) (j := 0) ((((eA_c gA_sI).trans ((eA_sA_ne hI2160.1 ka_173 (by first | decide | omega) (by first | decide | omega) (by first | decide | omega)).trans ((eA_c (gA_sW_ne (by decide))).trans ((eA_c (gA_sW_ne (by decide))).trans ((eA_c gA_sI).trans ((eA_c gA_sI).trans ((eA_c gA_sI).trans (eA_c gA_sI)))))))).trans e2107))).trans (HI.eqA hI0 (p := 173) (j := 0) (hv1882)).symm, (HI.eqI hI2164 (p := 59) (b := 0) ((((gI_sI_ne (by decide)).trans ((gI_sW).trans ((gI_sW).trans ((gI_sW).trans ((gI_sI_ne (by decide)).trans ((gI_sI_ne (by decide)).trans ((gI_sI_ne (by decide)).trans (gI_sI_ne (by decide))))))))).trans e2097))).trans (HI.eqI hI0 (p := 59) (b := 0) (hv1874)).symm, (HI.eqI hI2164 (p := 59) (b := 12) ((((gI_sI_ne (by decide)).trans ((gI_sW).trans ((gI_sW).trans ((gI_sW).trans ((gI_sI_ne (by decide)).trans ((gI_sI_ne (by decide)).trans ((gI_sI_ne (by decide)).trans (gI_sI_ne (by decide))))))))).trans e2100))).trans (HI.eqI hI0 (p := 59) (b := 12) (hv1877)).symm, (HI.eqI hI2164 (p := 59) (b := 10) ((((gI_sI_ne (by decide)).trans ((gI_sW).trans ((gI_sW).trans ((gI_sW).trans ((gI_sI_ne (by decide)).trans ((gI_sI_ne (by decide)).trans ((gI_sI_ne (by decide)).trans (gI_sI_ne (by decide))))))))).trans e2098))).trans (HI.eqI hI0 (p := 59) (b := 10) (hv1875)).symm, (HI.eqI hI2164 (p := 59) (b := 11) ((((gI_sI_ne (by decide)).trans ((gI_sW).trans ((gI_sW).trans ((gI_sW).trans ((gI_sI_ne (by decide)).trans ((gI_sI_ne (by decide)).trans ((gI_sI_ne (by decide)).trans (gI_sI_ne (by decide))))))))).trans e2099))).trans (HI.eqI hI0 (p := 59) (b := 11) (hv1876)).symm, (HI.eqI hI2164 (p := 59) (b := 4) ((((gI_sI_ne (by decide)).trans ((gI_sW).trans ((gI_sW).trans ((gI_sW).trans ((gI_sI_ne (by decide)).trans ((gI_sI_ne (by decide)).trans ((gI_sI_ne (by decide)).trans (gI_sI_ne (by decide))))))))).trans e2101))).trans (HI.eqI hI0 (p := 59) (b := 4) (hv1878)).symm⟩), (fun _ => ⟨(HI.eqA hI2164 (p := 173) (j := 1) (((eA_c gA_sI).trans (eA_sA_eq hI2160.1 ka_173 (by omega) (by first | decide | omega) (by first | decide | omega))))).trans rfl, (by first | rfl | decide), (HI.eqI hI2164 (p := 116) (b := 0) ((((gI_sI_ne (by decide)).trans ((gI_sW).trans ((gI_sW).trans ((gI_sW).trans ((gI_sI_ne (by decide)).trans ((gI_sI_ne (by decide)).trans ((gI_sI_ne (by decide)).trans (gI_sI_ne (by decide))))))))).trans e2102))).trans (HI.eqI hI0 (p := 1) (b := 0) (hv1845)).symm, (HI.eqI hI2164 (p := 116) (b := 12) (((gI_sI_ne (by decide)).trans ((gI_sW).trans ((gI_sW).trans ((gI_sW).trans (gI_sI_eq hI2147.1 kx_116 rfl _))))))).trans (HI.eqI hI0 (p := 1) (b := 12) (hv2149)).symm, (HI.eqI hI2164 (p := 116) (b := 10) (((gI_sI_ne (by decide)).trans ((gI_sW).trans ((gI_sW).trans ((gI_sW).trans ((gI_sI_ne (by decide)).trans ((gI_sI_ne (by decide)).trans (gI_sI_eq hI2141.1 kx_116 rfl _))))))))).trans (HI.eqI hI0 (p := 1) (b := 10) (hv2143)).symm, (HI.eqI hI2164 (p := 116) (b := 11) (((gI_sI_ne (by decide)).trans ((gI_sW).trans ((gI_sW).trans ((gI_sW).trans ((gI_sI_ne (by decide)).trans (gI_sI_eq hI2144.1 kx_116 rfl _)))))))).trans (HI.eqI hI0 (p := 1) (b := 11) (hv2146)).symm, (HI.eqI hI2164 (p := 116) (b := 4) ((((gI_sI_ne (by decide)).trans ((gI_sW).trans ((gI_sW).trans ((gI_sW).trans ((gI_sI_ne (by decide)).trans ((gI_sI_ne (by decide)).trans ((gI_sI_ne (by decide)).trans (gI_sI_ne (by decide))))))))).trans e2106))).trans (HI.eqI hI0 (p := 1) (b := 4) (hv1863)).symm⟩), (fun h => absurd e h), (fun h => False.elim (by omega))⟩, (by intro i i0 i1; exact (Decidable.em (a1.toInt = 0)).elim (fun k124_ => by refine Eq.trans ?_ (if_pos k124_).symm; refine (eA_ti (((gA_sI).trans ((gA_sA_ne (by decide)).trans ((gA_sW_ne (by decide)).trans ((gA_sW_ne (by decide)).trans ((gA_sI).trans ((gA_sI).trans ((gA_sI).trans (gA_sI)))))))))).trans ?_; refine ((q2113 (i) (by omega) (by omega))).trans ?_; (first | rfl | exact eA_ix (by omega) | omega)) (fun k124_ => by refine Eq.trans ?_ (if_neg k124_).symm; refine (eA_ti (((gA_sI).trans ((gA_sA_ne (by decide)).trans ((gA_sW_ne (by decide)).trans ((gA_sW_ne (by decide)).trans ((gA_sI).trans ((gA_sI).trans ((gA_sI).trans (gA_sI)))))))))).trans ?_; refine ((q2113 (i) (by omega) (by omega))).trans ?_; (first | rfl | exact eA_ix (by omega) | omega))), (by intro i i0 i1; exact (Decidable.em (a1.toInt = 0)).elim (fun k125_ => by refine Eq.trans ?_ (if_pos k125_).symm; refine (eA_ti (((gA_sI).trans ((gA_sA_ne (by decide)).trans ((gA_sW_ne (by decide)).trans ((gA_sW_ne (by decide)).trans ((gA_sI).trans ((gA_sI).trans ((gA_sI).trans (gA_sI)))))))))).trans ?_; refine ((q2114 (i) (by omega) (by omega))).trans ?_; (first | rfl | exact eA_ix (by omega) | omega)) (fun k125_ => by refine Eq.trans ?_ (if_neg k125_).symm; refine (eA_ti (((gA_sI).trans ((gA_sA_ne (by decide)).trans ((gA_sW_ne (by decide)).trans ((gA_sW_ne (by decide)).trans ((gA_sI).trans ((gA_sI).trans ((gA_sI).trans (gA_sI)))))))))).trans ?_; refine ((q2114 (i) (by omega) (by omega))).trans ?_; (first | rfl | exact eA_ix (by omega) | omega))), (by intro i i0 i1; exact (Decidable.em (a1.toInt = 0)).elim (fun k126_ => by refine Eq.trans ?_ (if_pos k126_).symm; refine (eA_ti (((gA_sI).trans ((gA_sA_ne (by decide)).trans ((gA_sW_ne (by decide)).trans ((gA_sW_ne (by decide)).trans ((gA_sI).trans ((gA_sI).trans ((gA_sI).trans (gA_sI)))))))))).trans ?_; refine ((q2115 (i) (by omega) (by omega))).trans ?_; (first | rfl | exact eA_ix (by omega) | omega)) (fun k126_ => by refine Eq.trans ?_ (if_neg k126_).symm; refine (eA_ti (((gA_sI).trans ((gA_sA_ne (by decide)).trans ((gA_sW_ne (by decide)).trans ((gA_sW_ne (by decide)).trans ((gA_sI).trans ((gA_sI).trans ((gA_sI).trans (gA_sI)))))))))).trans ?_; refine ((q2115 (i) (by omega) (by omega))).trans ?_; (first | rfl | exact eA_ix (by omega) | omega))), (by intro i i0 i1; exact (Decidable.em (a1.toInt = 0)).elim (fun k127_ => by refine Eq.trans ?_ (if_pos k127_).symm; refine (eA_ti (((gA_sI).trans ((gA_sA_ne (by decide)).trans ((gA_sW_ne (by decide)).trans ((gA_sW_ne (by decide)).trans ((gA_sI).trans ((gA_sI).trans ((gA_sI).trans (gA_sI)))))))))).trans ?_; refine ((q2116 (i) (by omega) (by omega))).trans ?_; (first | rfl | exact eA_ix (by omega) | omega)) (fun k127_ => by refine Eq.trans ?_ (if_neg k127_).symm; refine (eA_ti (((gA_sI).trans ((gA_sA_ne (by decide)).trans ((gA_sW_ne (by decide)).trans ((gA_sW_ne (by decide)).trans ((gA_sI).trans ((gA_sI).trans ((gA_sI).trans (gA_sI)))))))))).trans ?_; refine ((q2116 (i) (by omega) (by omega))).trans ?_; (first | rfl | exact eA_ix (by omega) | omega))), (by intro i i0 i1; exact (Decidable.em (a1.toInt = 0)).elim (fun k128_ => by refine Eq.trans ?_ (if_pos k128_).symm; refine (eA_ti (((gA_sI).trans ((gA_sA_ne (by decide)).trans ((gA_sW_ne (by decide)).trans ((gA_sW_ne (by decide)).trans ((gA_sI).trans ((gA_sI).trans ((gA_sI).trans (gA_sI)))))))))).trans ?_; refine ((q2117 (i) (by omega) (by omega))).trans ?_; (first | rfl | exact eA_ix (by omega) | omega)) (fun k128_ => by refine Eq.trans ?_ (if_neg k128_).symm; refine (eA_ti (((gA_sI).trans ((gA_sA_ne (by decide)).trans ((gA_sW_ne (by decide)).trans ((gA_sW_ne (by decide)).trans ((gA_sI).trans ((gA_sI).trans ((gA_sI).trans (gA_sI)))))))))).trans ?_; refine ((q2117 (i) (by omega) (by omega))).trans ?_; (first | rfl | exact eA_ix (by omega) | omega))), (by intro i i0 i1; exact (Decidable.em (a1.toInt = 1)).elim (fun k129_ => by refine Eq.trans ?_ (if_pos k129_).symm; refine (eA_ti (((gA_sI).trans ((gA_sA_ne (by decide)).trans ((gA_sW_ne (by decide)).trans ((gA_sW_ne (by decide)).trans ((gA_sI).trans ((gA_sI).trans ((gA_sI).trans (gA_sI)))))))))).trans ?_; refine ((q2118 (i) (by omega) (by omega))).trans ?_; (first | rfl | exact eA_ix (by omega) | omega)) (fun k129_ => by refine Eq.trans ?_ (if_neg k129_).symm; refine (eA_ti (((gA_sI).trans ((gA_sA_ne (by decide)).trans ((gA_sW_ne (by decide)).trans ((gA_sW_ne (by decide)).trans ((gA_sI).trans ((gA_sI).trans ((gA_sI).trans (gA_sI)))))))))).trans ?_; refine ((q2118 (i) (by omega) (by omega))).trans ?_; (first | rfl | exact eA_ix (by omega) | omega))), (by intro i i0 i1; exact (Decidable.em (a1.toInt = 1)).elim (fun k130_ => by refine Eq.trans ?_ (if_pos k130_).symm; refine (eA_ti (((gA_sI).trans ((gA_sA_ne (by decide)).trans ((gA_sW_ne (by decide)).trans ((gA_sW_ne (by decide)).trans ((gA_sI).trans ((gA_sI).trans ((gA_sI).trans (gA_sI)))))))))).trans ?_; refine ((q2119 (i) (by omega) (by omega))).trans ?_; (first | rfl | exact eA_ix (by omega) | omega)) (fun k130_ => by refine Eq.trans ?_ (if_neg k130_).symm; refine (eA_ti (((gA_sI).trans ((gA_sA_ne (by decide)).trans ((gA_sW_ne (by decide)).trans ((gA_sW_ne (by decide)).trans ((gA_sI).trans ((gA_sI).trans ((gA_sI).trans (gA_sI)))))))))).trans ?_; refine ((q2119 (i) (by omega) (by omega))).trans ?_; (first | rfl | exact eA_ix (by omega) | omega))), (by intro i i0 i1; exact (Decidable.em (a1.toInt = 1)).elim (fun k131_ => by refine Eq.trans ?_ (if_pos k131_).symm; refine (eA_ti (((gA_sI).trans ((gA_sA_ne (by decide)).trans ((gA_sW_ne (by decide)).trans ((gA_sW_ne (by decide)).trans ((gA_sI).trans ((gA_sI).trans ((gA_sI).trans (gA_sI)))))))))).trans ?_; refine ((q2120 (i) (by omega) (by omega))).trans ?_; (first | rfl | exact eA_ix (by omega) | omega)) (fun k131_ => by refine Eq.trans ?_ (if_neg k131_).symm; refine (eA_ti (((gA_sI).trans ((gA_sA_ne (by decide)).trans ((gA_sW_ne (by decide)).trans ((gA_sW_ne (by decide)).trans ((gA_sI).trans ((gA_sI).trans ((gA_sI).trans (gA_sI)))))))))).trans ?_; refine ((q2120 (i) (by omega) (by omega))).trans ?_; (first | rfl | exact eA_ix (by omega) | omega))), (by intro i i0 i1; exact (Decidable.em (a1.toInt = 1)).elim (fun k132_ => by refine Eq.trans ?_ (if_pos k132_).symm; refine (eA_tq (((gA_sI).trans ((gA_sA_ne (by decide)).trans ((gA_sW_ne (by decide)).trans ((gA_cpF hI2150.1 ka_14 ka_129 (by decide) (by decide) (by decide)).trans ((gA_sI).trans ((gA_sI).trans ((gA_sI).trans ((gA_sI).trans (hF2093.2.1 14 (by decide)))))))))))).trans ?_; (first | rfl | exact eA_ix (by omega) | omega)) (fun k132_ => by refine Eq.trans ?_ (if_neg k132_).symm; refine (eA_tq (((gA_sI).trans ((gA_sA_ne (by decide)).trans ((gA_sW_ne (by decide)).trans ((gA_cpF hI2150.1 ka_14 ka_129 (by decide) (by decide) (by decide)).trans ((gA_sI).trans ((gA_sI).trans ((gA_sI).trans ((gA_sI).trans (hF2093.2.1 14 (by decide)))))))))))).trans ?_; (first | rfl | exact eA_ix (by omega) | omega))), (by intro i i0 i1; exact (Decidable.em (a1.toInt = 1)).elim (fun k133_ => by refine Eq.trans ?_ (if_pos k133_).symm; refine (eA_tq (((gA_sI).trans ((gA_sA_ne (by decide)).trans ((gA_cpF hI2155.1 ka_15 ka_130 (by decide) (by decide) (by decide)).trans ((gA_sW_ne (by decide)).trans ((gA_sI).trans ((gA_sI).trans ((gA_sI).trans ((gA_sI).trans (hF2093.2.1 15 (by decide)))))))))))).trans ?_; (first | rfl | exact eA_ix (by omega) | omega)) (fun k133_ => by refine Eq.trans ?_ (if_neg k133_).symm; refine (eA_tq (((gA_sI).trans ((gA_sA_ne (by decide)).trans ((gA_cpF hI2155.1 ka_15 ka_130 (by decide) (by decide) (by decide)).trans ((gA_sW_ne (by decide)).trans ((gA_sI).trans ((gA_sI).trans ((gA_sI).trans ((gA_sI).trans (hF2093.2.1 15 (by decide)))))))))))).trans ?_; (first | rfl | exact eA_ix (by omega) | omega))), (by intro i i0 i1; exact (Decidable.em (a1.toInt = 0)).elim (fun k134_ => by refine Eq.trans ?_ (if_pos k134_).symm; refine (eA_ti (((gA_sI).trans ((gA_sA_ne (by decide)).trans ((gA_sW_ne (by decide)).trans ((gA_sW_ne (by decide)).trans ((gA_sI).trans ((gA_sI).trans ((gA_sI).trans (gA_sI)))))))))).trans ?_; refine ((q2123 (i) (by omega) (by omega))).trans ?_; (first | rfl | exact eA_ix (by omega) | omega)) (fun k134_ => by refine Eq.trans ?_ (if_neg k134_).symm; refine (eA_ti (((gA_sI).trans ((gA_sA_ne (by decide)).trans ((gA_sW_ne (by decide)).trans ((gA_sW_ne (by decide)).trans ((gA_sI).trans ((gA_sI).trans ((gA_sI).trans (gA_sI)))))))))).trans ?_; refine ((q2123 (i) (by omega) (by omega))).trans ?_; (first | rfl | exact eA_ix (by omega) | omega))), (by intro i i0 i1; exact (Decidable.em (a1.toInt = 1)).elim (fun k135_ => by refine Eq.trans ?_ (if_pos k135_).symm; refine (eA_ti (((gA_sI).trans ((gA_sA_ne (by decide)).trans ((gA_sW_ne (by decide)).trans ((gA_sW_ne (by decide)).trans ((gA_sI).trans ((gA_sI).trans ((gA_sI).trans (gA_sI)))))))))).trans ?_; refine ((q2124 (i) (by omega) (by omega))).trans ?_; (first | rfl | exact eA_ix (by omega) | omega)) (fun k135_ => by refine Eq.trans ?_ (if_neg k135_).symm; refine (eA_ti (((gA_sI).trans ((gA_sA_ne (by decide)).trans ((gA_sW_ne (by decide)).trans ((gA_sW_ne (by decide)).trans ((gA_sI).trans ((gA_sI).trans ((gA_sI).trans (gA_sI)))))))))).trans ?_; refine ((q2124 (i) (by omega) (by omega))).trans ?_; (first | rfl | exact eA_ix (by omega) | omega)))⟩⟩
      · have c2139_ : x2090.toInt < 6 := en_i_ge_f c2139
        refine At.enter rfl ?_
        refine r_aload_n e2109 ?_
        refine r_iload_n e2111 ?_
        refine r_callV 97 rfl [.ref 116, .int x2090] [] (Nat.le_of_ble_eq_true rfl) rfl (T_X0_lawAt_116 _ hI2092 x2090) ?_
        rintro _ _ ⟨g2167, rfl, hI2168, hF2169, v2170, rfl, hr2171⟩
        refine At.str ?_
        have hF2172 := Fr.tr hF2093 hF2169 rfl rfl
        refine At.enter rfl ?_
        refine r_aload_n e2110 ?_
        refine r_iload_n e2111 ?_
        refine r_callV 102 rfl [.ref 1, .int x2090] [.ref (v2170)] (Nat.le_of_ble_eq_true rfl) rfl (T_X0_lawAt_1 _ hI2168 x2090) ?_
        rintro _ _ ⟨g2173, rfl, hI2174, hF2175, v2176, rfl, hr2177⟩
        refine At.str ?_
        have hF2178 := Fr.tr hF2172 hF2175 rfl rfl
        refine At.enter rfl ?_
        refine r_callV 105 rfl [.ref (v2170), .ref (v2176)] [] (Nat.le_of_ble_eq_true rfl) rfl (T_X4_become_law _ hI2174 (v2170) hr2171 (v2176) hr2177) ?_
        rintro _ _ ⟨g2179, rfl, hI2180, hF2181, rfl⟩
        refine At.stn ?_
        have hF2184 := Fr.tr hF2178 hF2181 rfl rfl
        refine At.enter rfl ?_
        refine q_iinc e2111 (x2090.toInt + 1) rfl (by omega) (fun v2185 hv2185 => ?_)
        refine r_goto ?_
        exact ih2096 (6 - v2185.toInt) _ _ ⟨v2185, by first | rfl | omega, hI2180, hF2184, (((hF2181.1 59 0 (by decide)).trans ((hF2175.1 59 0 (by decide)).trans (hF2169.1 59 0 (by decide)))).trans e2097), (((hF2181.1 59 10 (by decide)).trans ((hF2175.1 59 10 (by decide)).trans (hF2169.1 59 10 (by decide)))).trans e2098), (((hF2181.1 59 11 (by decide)).trans ((hF2175.1 59 11 (by decide)).trans (hF2169.1 59 11 (by decide)))).trans e2099), (((hF2181.1 59 12 (by decide)).trans ((hF2175.1 59 12 (by decide)).trans (hF2169.1 59 12 (by decide)))).trans e2100), (((hF2181.1 59 4 (by decide)).trans ((hF2175.1 59 4 (by decide)).trans (hF2169.1 59 4 (by decide)))).trans e2101), (((hF2181.1 116 0 (by decide)).trans ((hF2175.1 116 0 (by decide)).trans (hF2169.1 116 0 (by decide)))).trans e2102), (((hF2181.1 116 10 (by decide)).trans ((hF2175.1 116 10 (by decide)).trans (hF2169.1 116 10 (by decide)))).trans e2103), (((hF2181.1 116 11 (by decide)).trans ((hF2175.1 116 11 (by decide)).trans (hF2169.1 116 11 (by decide)))).trans e2104), (((hF2181.1 116 12 (by decide)).trans ((hF2175.1 116 12 (by decide)).trans (hF2169.1 116 12 (by decide)))).trans e2105), (((hF2181.1 116 4 (by decide)).trans ((hF2175.1 116 4 (by decide)).trans (hF2169.1 116 4 (by decide)))).trans e2106), (((eA_c (hF2181.2.1 173 (by decide))).trans ((eA_c (hF2175.2.1 173 (by decide))).trans (eA_c (hF2169.2.1 173 (by decide))))).trans e2107), (((eA_c (hF2181.2.1 173 (by decide))).trans ((eA_c (hF2175.2.1 173 (by decide))).trans (eA_c (hF2169.2.1 173 (by decide))))).trans e2108), (w_p1 (by decide) (Or.inr rfl) e2109), (w_p1 (by decide) (Or.inr rfl) e2110), (w_e1 _ _ _), by omega, (by intro i i0 i1; refine (eA_ti (((hF2181.2.1 60 (by decide)).trans ((hF2175.2.1 60 (by decide)).trans (hF2169.2.1 60 (by decide)))))).trans ?_; refine ((q2113 (i) (by omega) (by omega))).trans ?_; (first | rfl | exact eA_ix (by omega) | omega)), (by intro i i0 i1; refine (eA_ti (((hF2181.2.1 61 (by decide)).trans ((hF2175.2.1 61 (by decide)).trans (hF2169.2.1 61 (by decide)))))).trans ?_; refine ((q2114 (i) (by omega) (by omega))).trans ?_; (first | rfl | exact eA_ix (by omega) | omega)), (by intro i i0 i1; refine (eA_ti (((hF2181.2.1 62 (by decide)).trans ((hF2175.2.1 62 (by decide)).trans (hF2169.2.1 62 (by decide)))))).trans ?_; refine ((q2115 (i) (by omega) (by omega))).trans ?_; (first | rfl | exact eA_ix (by omega) | omega)), (by intro i i0 i1; refine (eA_ti (((hF2181.2.1 72 (by decide)).trans ((hF2175.2.1 72 (by decide)).trans (hF2169.2.1 72 (by decide)))))).trans ?_; refine ((q2116 (i) (by omega) (by omega))).trans ?_; (first | rfl | exact eA_ix (by omega) | omega)), (by intro i i0 i1; refine (eA_ti (((hF2181.2.1 73 (by decide)).trans ((hF2175.2.1 73 (by decide)).trans (hF2169.2.1 73 (by decide)))))).trans ?_; refine ((q2117 (i) (by omega) (by omega))).trans ?_; (first | rfl | exact eA_ix (by omega) | omega)), (by intro i i0 i1; refine (eA_ti (((hF2181.2.1 117 (by decide)).trans ((hF2175.2.1 117 (by decide)).trans (hF2169.2.1 117 (by decide)))))).trans ?_; refine ((q2118 (i) (by omega) (by omega))).trans ?_; (first | rfl | exact eA_ix (by omega) | omega)), (by intro i i0 i1; refine (eA_ti (((hF2181.2.1 118 (by decide)).trans ((hF2175.2.1 118 (by decide)).trans (hF2169.2.1 118 (by decide)))))).trans ?_; refine ((q2119 (i) (by omega) (by omega))).trans ?_; (first | rfl | exact eA_ix (by omega) | omega)), (by intro i i0 i1; refine (eA_ti (((hF2181.2.1 119 (by decide)).trans ((hF2175.2.1 119 (by decide)).trans (hF2169.2.1 119 (by decide)))))).trans ?_; refine ((q2120 (i) (by omega) (by omega))).trans ?_; (first | rfl | exact eA_ix (by omega) | omega)), (by intro i i0 i1; refine (eA_ti (((hF2181.2.1 129 (by decide)).trans ((hF2175.2.1 129 (by decide)).trans (hF2169.2.1 129 (by decide)))))).trans ?_; refine ((q2121 (i) (by omega) (by omega))).trans ?_; (first | rfl | exact eA_ix (by omega) | omega)), (by intro i i0 i1; refine (eA_ti (((hF2181.2.1 130 (by decide)).trans ((hF2175.2.1 130 (by decide)).trans (hF2169.2.1 130 (by decide)))))).trans ?_; refine ((q2122 (i) (by omega) (by omega))).trans ?_; (first | rfl | exact eA_ix (by omega) | omega)), (by intro i i0 i1; refine (eA_ti (((hF2181.2.1 63 (by decide)).trans ((hF2175.2.1 63 (by decide)).trans (hF2169.2.1 63 (by decide)))))).trans ?_; refine ((q2123 (i) (by omega) (by omega))).trans ?_; (first | rfl | exact eA_ix (by omega) | omega)), (by intro i i0 i1; refine (eA_ti (((hF2181.2.1 120 (by decide)).trans ((hF2175.2.1 120 (by decide)).trans (hF2169.2.1 120 (by decide)))))).trans ?_; refine ((q2124 (i) (by omega) (by omega))).trans ?_; (first | rfl | exact eA_ix (by omega) | omega))⟩ ⟨by omega, by omega⟩

def F_X10_back_0 : List (Nat × Nat) := [(0, 14), (0, 17), (1, 0), (1, 4), (1, 6), (1, 9), (1, 10), (1, 11), (1, 12), (7, 0), (7, 3), (7, 4), (16, 0), (16, 3), (16, 4), (23, 0), (23, 3), (23, 4), (30, 0), (30, 3), (30, 4), (37, 0), (37, 3), (37, 4), (44, 0), (44, 3), (44, 4), (51, 0), (51, 3), (51, 4), (65, 0), (65, 3), (65, 4), (74, 0), (74, 3), (74, 4), (81, 0), (81, 3), (81, 4), (88, 0), (88, 3), (88, 4), (95, 0), (95, 3), (95, 4), (102, 0), (102, 3), (102, 4), (109, 0), (109, 3), (109, 4), (122, 0), (122, 3), (122, 4), (131, 0), (131, 3), (131, 4), (138, 0), (138, 3), (138, 4), (145, 0), (145, 3), (145, 4), (152, 0), (152, 3), (152, 4), (159, 0), (159, 3), (159, 4), (166, 0), (166, 3), (166, 4), (177, 0), (177, 3), (177, 4), (220, 2), (222, 2), (223, 5), (223, 10)]
def A_X10_back_0 : List Nat := [2, 3, 4, 5, 8, 9, 10, 11, 12, 13, 14, 15, 17, 18, 19, 20, 21, 22, 24, 25, 26, 27, 28, 29, 31, 32, 33, 34, 35, 36, 38, 39, 40, 41, 42, 43, 45, 46, 47, 48, 49, 50, 52, 53, 54, 55, 56, 57, 66, 67, 68, 69, 70, 71, 75, 76, 77, 78, 79, 80, 82, 83, 84, 85, 86, 87, 89, 90, 91, 92, 93, 94, 96, 97, 98, 99, 100, 101, 103, 104, 105, 106, 107, 108, 110, 111, 112, 113, 114, 115, 123, 124, 125, 126, 127, 128, 132, 133, 134, 135, 136, 137, 139, 140, 141, 142, 143, 144, 146, 147, 148, 149, 150, 151, 153, 154, 155, 156, 157, 158, 160, 161, 162, 163, 164, 165, 167, 168, 169, 170, 171, 172, 178, 179, 180, 181, 182, 183, 230]
set_option maxRecDepth 100000 in
set_option maxHeartbeats 4000000 in
theorem T_X10_back_0 (d : Nat) {N : Nat} {g0 : List en_E} (hI0 : HI g0) (a1 : Int32) : Ev (d + 3) 141 [.ref 0, .int a1] (g0, N) (fun w h' => ∃ g', h' = (g', N) ∧ HI g' ∧ Fr F_X10_back_0 A_X10_back_0 g0 g' ∧ ∃ r : Int32, w = some (.int r) ∧ ((-2) ≤ r.toInt ∧ r.toInt ≤ 0) ∧ (((a1.toInt = 0 ∧ (eA g0 173 0).toInt ≠ 0 → r.toInt = 0 ∧ (gI g' 1 0).toInt = (gI g0 59 0).toInt ∧ (gI g' 1 12).toInt = (gI g0 59 12).toInt ∧ (gI g' 1 10).toInt = (gI g0 59 10).toInt ∧ (gI g' 1 11).toInt = (gI g0 59 11).toInt ∧ (gI g' 1 4).toInt = (gI g0 59 4).toInt) ∧ (a1.toInt = 1 ∧ (eA g0 173 1).toInt ≠ 0 → r.toInt = 0 ∧ (gI g' 1 0).toInt = (gI g0 116 0).toInt ∧ (gI g' 1 12).toInt = (gI g0 116 12).toInt ∧ (gI g' 1 10).toInt = (gI g0 116 10).toInt ∧ (gI g' 1 11).toInt = (gI g0 116 11).toInt ∧ (gI g' 1 4).toInt = (gI g0 116 4).toInt) ∧ (¬ (a1.toInt = 0 ∧ (eA g0 173 0).toInt ≠ 0) ∧ ¬ (a1.toInt = 1 ∧ (eA g0 173 1).toInt ≠ 0) → (gI g' 1 0).toInt = (gI g0 1 0).toInt ∧ (gI g' 1 12).toInt = (gI g0 1 12).toInt ∧ (gI g' 1 10).toInt = (gI g0 1 10).toInt ∧ (gI g' 1 11).toInt = (gI g0 1 11).toInt ∧ (gI g' 1 4).toInt = (gI g0 1 4).toInt) ∧ (a1.toInt < 0 ∨ 1 < a1.toInt → r.toInt = -1) ∧ (0 ≤ a1.toInt ∧ a1.toInt ≤ 1 ∧ ¬ (a1.toInt = 0 ∧ (eA g0 173 0).toInt ≠ 0) ∧ ¬ (a1.toInt = 1 ∧ (eA g0 173 1).toInt ≠ 0) → r.toInt = -2)) ∧ (∀ i : Int, 0 ≤ i → i < 12 → (eA g' 2 (i)).toInt = if a1.toInt = 0 ∧ (eA g0 173 0).toInt ≠ 0 then (eA g0 60 (i)).toInt else if a1.toInt = 1 ∧ (eA g0 173 1).toInt ≠ 0 then (eA g0 117 (i)).toInt else (eA g0 2 (i)).toInt) ∧ (∀ i : Int, 0 ≤ i → i < 12 → (eA g' 3 (i)).toInt = if a1.toInt = 0 ∧ (eA g0 173 0).toInt ≠ 0 then (eA g0 61 (i)).toInt else if a1.toInt = 1 ∧ (eA g0 173 1).toInt ≠ 0 then (eA g0 118 (i)).toInt else (eA g0 3 (i)).toInt) ∧ (∀ i : Int, 0 ≤ i → i < 12 → (eA g' 4 (i)).toInt = if a1.toInt = 0 ∧ (eA g0 173 0).toInt ≠ 0 then (eA g0 62 (i)).toInt else if a1.toInt = 1 ∧ (eA g0 173 1).toInt ≠ 0 then (eA g0 119 (i)).toInt else (eA g0 4 (i)).toInt) ∧ (∀ i : Int, 0 ≤ i → i < 8 → (eA g' 14 (i)).toInt = if a1.toInt = 0 ∧ (eA g0 173 0).toInt ≠ 0 then (eA g0 72 (i)).toInt else if a1.toInt = 1 ∧ (eA g0 173 1).toInt ≠ 0 then (eA g0 129 (i)).toInt else (eA g0 14 (i)).toInt) ∧ (∀ i : Int, 0 ≤ i → i < 8 → (eA g' 15 (i)).toInt = if a1.toInt = 0 ∧ (eA g0 173 0).toInt ≠ 0 then (eA g0 73 (i)).toInt else if a1.toInt = 1 ∧ (eA g0 173 1).toInt ≠ 0 then (eA g0 130 (i)).toInt else (eA g0 15 (i)).toInt) ∧ (∀ i : Int, 0 ≤ i → i < 48 → (eA g' 5 (i)).toInt = if a1.toInt = 0 ∧ (eA g0 173 0).toInt ≠ 0 then (eA g0 63 (i)).toInt else if a1.toInt = 1 ∧ (eA g0 173 1).toInt ≠ 0 then (eA g0 120 (i)).toInt else (eA g0 5 (i)).toInt))) := by
  have hF0 : Fr F_X10_back_0 A_X10_back_0 g0 g0 := Fr.rf
  refine Ev.mk rfl rfl ⟨Nat.le_of_ble_eq_true rfl, Or.inr (q_rc hI0.1 kx_0 rfl)⟩ ?_
  show At _ none _ _ (0, [(0, .ref 0), (1, .int a1)], [], (_, _)) _
  refine At.enter rfl ?_
  refine r_aload_n rfl ?_
  refine r_iload_n rfl ?_
  refine q_inlV 5 rfl [.ref 0, .int a1] [] (Nat.le_of_ble_eq_true rfl) rfl ?_
  refine Ev.mk rfl rfl ⟨Nat.le_of_ble_eq_true rfl, Or.inr (q_rc hI0.1 kx_0 rfl)⟩ ?_
  show At _ none _ _ (0, [(0, .ref 0), (1, .int a1)], [], (_, _)) _
  refine At.enter rfl ?_
  refine r_iload_n rfl ?_
  refine r_iconst 0 rfl ?_
  refine r_iconst 1 rfl ?_
  refine q_inlS 6 rfl [.int a1, .int 0, .int 1] [] (Nat.le_of_ble_eq_true rfl) rfl ?_
  refine Ev.mk rfl rfl ⟨Nat.le_of_ble_eq_true rfl, Or.inl rfl⟩ ?_
  show At _ none _ _ (0, [(0, .int a1), (1, .int 0), (2, .int 1)], [], (_, _)) _
  refine At.enter rfl ?_
  refine r_iload_n rfl ?_
  refine r_iload_n rfl ?_
  refine r_ics 5 rfl (fun c1335 => ?_) (fun c1335 => ?_)
  · have c1335_ : a1.toInt < 0 := en_i_lt_t c1335
    refine At.enter rfl ?_
    refine r_iconst 0 rfl ?_
    refine Ar.fall 15 rfl ?_
    refine At.enter rfl ?_
    refine q_iretz (by decide) ?_
    refine At.enter rfl ?_
    refine r_ift (by decide) ?_
    refine At.enter rfl ?_
    refine r_null ?_
    refine Ar.fall 19 rfl ?_
    refine At.enter rfl ?_
    refine q_zret ?_
    refine At.enter rfl ?_
    refine r_zstore_n ([(2, .null), (0, .ref 0), (1, .int a1)]) rfl ?_
    refine r_zload_n rfl ?_
    refine r_nnz 10 rfl ?_
    refine At.enter rfl ?_
    refine r_aload_n rfl ?_
    refine r_iconst (-1) rfl ?_
    refine r_callV 15 rfl [.ref 0, .int (-1)] [] (Nat.le_of_ble_eq_true rfl) rfl (T_X10_refused_0 _ hI0 (-1) (by decide)) ?_
    rintro _ _ ⟨g1336, rfl, hI1337, hF1338, v1339, rfl, hr1340⟩
    refine At.sti ?_
    have hF1341 := Fr.tr hF0 hF1338 rfl rfl
    have zv1342 : ((-1) : Int32).toInt = (-1) := rfl
    refine At.enter rfl ?_
    refine r_ireti ?_
    obtain ⟨v1343, hv1343⟩ : ∃ v, gI g0 1 0 = v := ⟨_, rfl⟩
    have rv1343 := RgF.at hI0.2.1 (p := 1) (b := 0) rfl
    rw [hv1343] at rv1343
    dsimp only at rv1343
    have tv1343 := congrArg Int32.toInt hv1343
    have x1344 := HI.eqI hI0 (p := 1) (b := 0) (hv1343)
    obtain ⟨v1345, hv1345⟩ : ∃ v, gI g0 1 12 = v := ⟨_, rfl⟩
    have rv1345 := RgF.at hI0.2.1 (p := 1) (b := 12) rfl
    rw [hv1345] at rv1345
    dsimp only at rv1345
    have tv1345 := congrArg Int32.toInt hv1345
    have x1346 := HI.eqI hI0 (p := 1) (b := 12) (hv1345)
    obtain ⟨v1347, hv1347⟩ : ∃ v, gI g0 1 10 = v := ⟨_, rfl⟩
    have tv1347 := congrArg Int32.toInt hv1347
    have x1348 := HI.eqI hI0 (p := 1) (b := 10) (hv1347)
    obtain ⟨v1349, hv1349⟩ : ∃ v, gI g0 1 11 = v := ⟨_, rfl⟩
    have tv1349 := congrArg Int32.toInt hv1349
    have x1350 := HI.eqI hI0 (p := 1) (b := 11) (hv1349)
    obtain ⟨v1351, hv1351⟩ : ∃ v, gI g0 1 4 = v := ⟨_, rfl⟩
    have rv1351 := RgF.at hI0.2.1 (p := 1) (b := 4) rfl
    rw [hv1351] at rv1351
    dsimp only at rv1351
    have tv1351 := congrArg Int32.toInt hv1351
    have x1352 := HI.eqI hI0 (p := 1) (b := 4) (hv1351)
    obtain ⟨v1353, hv1353⟩ : ∃ v, gI g0 59 0 = v := ⟨_, rfl⟩
    have rv1353 := RgF.at hI0.2.1 (p := 59) (b := 0) rfl
    rw [hv1353] at rv1353
    dsimp only at rv1353
    have tv1353 := congrArg Int32.toInt hv1353
    have x1354 := HI.eqI hI0 (p := 59) (b := 0) (hv1353)
    obtain ⟨v1355, hv1355⟩ : ∃ v, gI g0 59 12 = v := ⟨_, rfl⟩
    have rv1355 := RgF.at hI0.2.1 (p := 59) (b := 12) rfl
    rw [hv1355] at rv1355
    dsimp only at rv1355
    have tv1355 := congrArg Int32.toInt hv1355
    have x1356 := HI.eqI hI0 (p := 59) (b := 12) (hv1355)
    obtain ⟨v1357, hv1357⟩ : ∃ v, gI g0 59 10 = v := ⟨_, rfl⟩
    have tv1357 := congrArg Int32.toInt hv1357
    have x1358 := HI.eqI hI0 (p := 59) (b := 10) (hv1357)
    obtain ⟨v1359, hv1359⟩ : ∃ v, gI g0 59 11 = v := ⟨_, rfl⟩
    have tv1359 := congrArg Int32.toInt hv1359
    have x1360 := HI.eqI hI0 (p := 59) (b := 11) (hv1359)
    obtain ⟨v1361, hv1361⟩ : ∃ v, gI g0 59 4 = v := ⟨_, rfl⟩
    have rv1361 := RgF.at hI0.2.1 (p := 59) (b := 4) rfl
    rw [hv1361] at rv1361
    dsimp only at rv1361
    have tv1361 := congrArg Int32.toInt hv1361
    have x1362 := HI.eqI hI0 (p := 59) (b := 4) (hv1361)
    obtain ⟨v1363, hv1363⟩ : ∃ v, gI g0 116 0 = v := ⟨_, rfl⟩
    have rv1363 := RgF.at hI0.2.1 (p := 116) (b := 0) rfl
    rw [hv1363] at rv1363
    dsimp only at rv1363
    have tv1363 := congrArg Int32.toInt hv1363
    have x1364 := HI.eqI hI0 (p := 116) (b := 0) (hv1363)
    obtain ⟨v1365, hv1365⟩ : ∃ v, gI g0 116 12 = v := ⟨_, rfl⟩
    have rv1365 := RgF.at hI0.2.1 (p := 116) (b := 12) rfl
    rw [hv1365] at rv1365
    dsimp only at rv1365
    have tv1365 := congrArg Int32.toInt hv1365
    have x1366 := HI.eqI hI0 (p := 116) (b := 12) (hv1365)
    obtain ⟨v1367, hv1367⟩ : ∃ v, gI g0 116 10 = v := ⟨_, rfl⟩
    have tv1367 := congrArg Int32.toInt hv1367
    have x1368 := HI.eqI hI0 (p := 116) (b := 10) (hv1367)
    obtain ⟨v1369, hv1369⟩ : ∃ v, gI g0 116 11 = v := ⟨_, rfl⟩
    have tv1369 := congrArg Int32.toInt hv1369
    have x1370 := HI.eqI hI0 (p := 116) (b := 11) (hv1369)
    obtain ⟨v1371, hv1371⟩ : ∃ v, gI g0 116 4 = v := ⟨_, rfl⟩
    have rv1371 := RgF.at hI0.2.1 (p := 116) (b := 4) rfl
    rw [hv1371] at rv1371
    dsimp only at rv1371
    have tv1371 := congrArg Int32.toInt hv1371
    have x1372 := HI.eqI hI0 (p := 116) (b := 4) (hv1371)
    obtain ⟨v1373, hv1373⟩ : ∃ v, eA g0 173 0 = v := ⟨_, rfl⟩
    have tv1373 := congrArg Int32.toInt hv1373
    have x1374 := HI.eqA hI0 (p := 173) (j := 0) (hv1373)
    obtain ⟨v1375, hv1375⟩ : ∃ v, eA g0 173 1 = v := ⟨_, rfl⟩
    have tv1375 := congrArg Int32.toInt hv1375
    have x1376 := HI.eqA hI0 (p := 173) (j := 1) (hv1375)
    have x1377 := HI.eqI hI1337 (p := 1) (b := 0) (((hF1338.1 1 0 (by decide)).trans hv1343))
    have x1378 := HI.eqI hI1337 (p := 1) (b := 12) (((hF1338.1 1 12 (by decide)).trans hv1345))
    have x1379 := HI.eqI hI1337 (p := 1) (b := 10) (((hF1338.1 1 10 (by decide)).trans hv1347))
    have x1380 := HI.eqI hI1337 (p := 1) (b := 11) (((hF1338.1 1 11 (by decide)).trans hv1349))
    have x1381 := HI.eqI hI1337 (p := 1) (b := 4) (((hF1338.1 1 4 (by decide)).trans hv1351))
    have x1382 := HI.eqA hI0 (p := 173) (j := 0) (hv1373)
    have x1383 := HI.eqA hI0 (p := 173) (j := 1) (hv1375)
    exact ⟨_, rfl, hI1337, hF1341, _, rfl, by omega, ⟨⟨by omega, by omega, by omega, by omega, by omega⟩, (by intro i i0 i1; refine Eq.trans ?_ (if_neg (show ¬ (a1.toInt = 0 ∧ (eA g0 173 0).toInt ≠ 0) from by omega)).symm; refine Eq.trans ?_ (if_neg (show ¬ (a1.toInt = 1 ∧ (eA g0 173 1).toInt ≠ 0) from by omega)).symm; refine (eA_ti ((hF1338.2.1 2 (by decide)))).trans ?_; (first | rfl | exact eA_ix (by omega) | omega)), (by intro i i0 i1; refine Eq.trans ?_ (if_neg (show ¬ (a1.toInt = 0 ∧ (eA g0 173 0).toInt ≠ 0) from by omega)).symm; refine Eq.trans ?_ (if_neg (show ¬ (a1.toInt = 1 ∧ (eA g0 173 1).toInt ≠ 0) from by omega)).symm; refine (eA_ti ((hF1338.2.1 3 (by decide)))).trans ?_; (first | rfl | exact eA_ix (by omega) | omega)), (by intro i i0 i1; refine Eq.trans ?_ (if_neg (show ¬ (a1.toInt = 0 ∧ (eA g0 173 0).toInt ≠ 0) from by omega)).symm; refine Eq.trans ?_ (if_neg (show ¬ (a1.toInt = 1 ∧ (eA g0 173 1).toInt ≠ 0) from by omega)).symm; refine (eA_ti ((hF1338.2.1 4 (by decide)))).trans ?_; (first | rfl | exact eA_ix (by omega) | omega)), (by intro i i0 i1; refine Eq.trans ?_ (if_neg (show ¬ (a1.toInt = 0 ∧ (eA g0 173 0).toInt ≠ 0) from by omega)).symm; refine Eq.trans ?_ (if_neg (show ¬ (a1.toInt = 1 ∧ (eA g0 173 1).toInt ≠ 0) from by omega)).symm; refine (eA_ti ((hF1338.2.1 14 (by decide)))).trans ?_; (first | rfl | exact eA_ix (by omega) | omega)), (by intro i i0 i1; refine Eq.trans ?_ (if_neg (show ¬ (a1.toInt = 0 ∧ (eA g0 173 0).toInt ≠ 0) from by omega)).symm; refine Eq.trans ?_ (if_neg (show ¬ (a1.toInt = 1 ∧ (eA g0 173 1).toInt ≠ 0) from by omega)).symm; refine (eA_ti ((hF1338.2.1 15 (by decide)))).trans ?_; (first | rfl | exact eA_ix (by omega) | omega)), (by intro i i0 i1; refine Eq.trans ?_ (if_neg (show ¬ (a1.toInt = 0 ∧ (eA g0 173 0).toInt ≠ 0) from by omega)).symm; refine Eq.trans ?_ (if_neg (show ¬ (a1.toInt = 1 ∧ (eA g0 173 1).toInt ≠ 0) from by omega)).symm; refine (eA_ti ((hF1338.2.1 5 (by decide)))).trans ?_; (first | rfl | exact eA_ix (by omega) | omega))⟩⟩
  · have c1335_ : a1.toInt ≥ 0 := en_i_lt_f c1335
    refine At.enter rfl ?_
    refine r_iload_n rfl ?_
    refine r_iload_n rfl ?_
    refine r_ics 10 rfl (fun c1384 => ?_) (fun c1384 => ?_)
    · have c1384_ : a1.toInt > 1 := en_i_gt_t c1384
      refine At.enter rfl ?_
      refine r_iconst 0 rfl ?_
      refine Ar.fall 15 rfl ?_
      refine At.enter rfl ?_
      refine q_iretz (by decide) ?_
      refine At.enter rfl ?_
      refine r_ift (by decide) ?_
      refine At.enter rfl ?_
      refine r_null ?_
      refine Ar.fall 19 rfl ?_
      refine At.enter rfl ?_
      refine q_zret ?_
      refine At.enter rfl ?_
      refine r_zstore_n ([(2, .null), (0, .ref 0), (1, .int a1)]) rfl ?_
      refine r_zload_n rfl ?_
      refine r_nnz 10 rfl ?_
      refine At.enter rfl ?_
      refine r_aload_n rfl ?_
      refine r_iconst (-1) rfl ?_
      refine r_callV 15 rfl [.ref 0, .int (-1)] [] (Nat.le_of_ble_eq_true rfl) rfl (T_X10_refused_0 _ hI0 (-1) (by decide)) ?_
      rintro _ _ ⟨g1385, rfl, hI1386, hF1387, v1388, rfl, hr1389⟩
      refine At.sti ?_
      have hF1390 := Fr.tr hF0 hF1387 rfl rfl
      have zv1391 : ((-1) : Int32).toInt = (-1) := rfl
      refine At.enter rfl ?_
      refine r_ireti ?_
      obtain ⟨v1392, hv1392⟩ : ∃ v, gI g0 1 0 = v := ⟨_, rfl⟩
      have rv1392 := RgF.at hI0.2.1 (p := 1) (b := 0) rfl
      rw [hv1392] at rv1392
      dsimp only at rv1392
      have tv1392 := congrArg Int32.toInt hv1392
      have x1393 := HI.eqI hI0 (p := 1) (b := 0) (hv1392)
      obtain ⟨v1394, hv1394⟩ : ∃ v, gI g0 1 12 = v := ⟨_, rfl⟩
      have rv1394 := RgF.at hI0.2.1 (p := 1) (b := 12) rfl
      rw [hv1394] at rv1394
      dsimp only at rv1394
      have tv1394 := congrArg Int32.toInt hv1394
      have x1395 := HI.eqI hI0 (p := 1) (b := 12) (hv1394)
      obtain ⟨v1396, hv1396⟩ : ∃ v, gI g0 1 10 = v := ⟨_, rfl⟩
      have tv1396 := congrArg Int32.toInt hv1396
      have x1397 := HI.eqI hI0 (p := 1) (b := 10) (hv1396)
      obtain ⟨v1398, hv1398⟩ : ∃ v, gI g0 1 11 = v := ⟨_, rfl⟩
      have tv1398 := congrArg Int32.toInt hv1398
      have x1399 := HI.eqI hI0 (p := 1) (b := 11) (hv1398)
      obtain ⟨v1400, hv1400⟩ : ∃ v, gI g0 1 4 = v := ⟨_, rfl⟩
      have rv1400 := RgF.at hI0.2.1 (p := 1) (b := 4) rfl
      rw [hv1400] at rv1400
      dsimp only at rv1400
      have tv1400 := congrArg Int32.toInt hv1400
      have x1401 := HI.eqI hI0 (p := 1) (b := 4) (hv1400)
      obtain ⟨v1402, hv1402⟩ : ∃ v, gI g0 59 0 = v := ⟨_, rfl⟩
      have rv1402 := RgF.at hI0.2.1 (p := 59) (b := 0) rfl
      rw [hv1402] at rv1402
      dsimp only at rv1402
      have tv1402 := congrArg Int32.toInt hv1402
      have x1403 := HI.eqI hI0 (p := 59) (b := 0) (hv1402)
      obtain ⟨v1404, hv1404⟩ : ∃ v, gI g0 59 12 = v := ⟨_, rfl⟩
      have rv1404 := RgF.at hI0.2.1 (p := 59) (b := 12) rfl
      rw [hv1404] at rv1404
      dsimp only at rv1404
      have tv1404 := congrArg Int32.toInt hv1404
      have x1405 := HI.eqI hI0 (p := 59) (b := 12) (hv1404)
      obtain ⟨v1406, hv1406⟩ : ∃ v, gI g0 59 10 = v := ⟨_, rfl⟩
      have tv1406 := congrArg Int32.toInt hv1406
      have x1407 := HI.eqI hI0 (p := 59) (b := 10) (hv1406)
      obtain ⟨v1408, hv1408⟩ : ∃ v, gI g0 59 11 = v := ⟨_, rfl⟩
      have tv1408 := congrArg Int32.toInt hv1408
      have x1409 := HI.eqI hI0 (p := 59) (b := 11) (hv1408)
      obtain ⟨v1410, hv1410⟩ : ∃ v, gI g0 59 4 = v := ⟨_, rfl⟩
      have rv1410 := RgF.at hI0.2.1 (p := 59) (b := 4) rfl
      rw [hv1410] at rv1410
      dsimp only at rv1410
      have tv1410 := congrArg Int32.toInt hv1410
      have x1411 := HI.eqI hI0 (p := 59) (b := 4) (hv1410)
      obtain ⟨v1412, hv1412⟩ : ∃ v, gI g0 116 0 = v := ⟨_, rfl⟩
      have rv1412 := RgF.at hI0.2.1 (p := 116) (b := 0) rfl
      rw [hv1412] at rv1412
      dsimp only at rv1412
      have tv1412 := congrArg Int32.toInt hv1412
      have x1413 := HI.eqI hI0 (p := 116) (b := 0) (hv1412)
      obtain ⟨v1414, hv1414⟩ : ∃ v, gI g0 116 12 = v := ⟨_, rfl⟩
      have rv1414 := RgF.at hI0.2.1 (p := 116) (b := 12) rfl
      rw [hv1414] at rv1414
      dsimp only at rv1414
      have tv1414 := congrArg Int32.toInt hv1414
      have x1415 := HI.eqI hI0 (p := 116) (b := 12) (hv1414)
      obtain ⟨v1416, hv1416⟩ : ∃ v, gI g0 116 10 = v := ⟨_, rfl⟩
      have tv1416 := congrArg Int32.toInt hv1416
      have x1417 := HI.eqI hI0 (p := 116) (b := 10) (hv1416)
      obtain ⟨v1418, hv1418⟩ : ∃ v, gI g0 116 11 = v := ⟨_, rfl⟩
      have tv1418 := congrArg Int32.toInt hv1418
      have x1419 := HI.eqI hI0 (p := 116) (b := 11) (hv1418)
      obtain ⟨v1420, hv1420⟩ : ∃ v, gI g0 116 4 = v := ⟨_, rfl⟩
      have rv1420 := RgF.at hI0.2.1 (p := 116) (b := 4) rfl
      rw [hv1420] at rv1420
      dsimp only at rv1420
      have tv1420 := congrArg Int32.toInt hv1420
      have x1421 := HI.eqI hI0 (p := 116) (b := 4) (hv1420)
      obtain ⟨v1422, hv1422⟩ : ∃ v, eA g0 173 0 = v := ⟨_, rfl⟩
      have tv1422 := congrArg Int32.toInt hv1422
      have x1423 := HI.eqA hI0 (p := 173) (j := 0) (hv1422)
      obtain ⟨v1424, hv1424⟩ : ∃ v, eA g0 173 1 = v := ⟨_, rfl⟩
      have tv1424 := congrArg Int32.toInt hv1424
      have x1425 := HI.eqA hI0 (p := 173) (j := 1) (hv1424)
      have x1426 := HI.eqI hI1386 (p := 1) (b := 0) (((hF1387.1 1 0 (by decide)).trans hv1392))
      have x1427 := HI.eqI hI1386 (p := 1) (b := 12) (((hF1387.1 1 12 (by decide)).trans hv1394))
      have x1428 := HI.eqI hI1386 (p := 1) (b := 10) (((hF1387.1 1 10 (by decide)).trans hv1396))
      have x1429 := HI.eqI hI1386 (p := 1) (b := 11) (((hF1387.1 1 11 (by decide)).trans hv1398))
      have x1430 := HI.eqI hI1386 (p := 1) (b := 4) (((hF1387.1 1 4 (by decide)).trans hv1400))
      have x1431 := HI.eqA hI0 (p := 173) (j := 0) (hv1422)
      have x1432 := HI.eqA hI0 (p := 173) (j := 1) (hv1424)
      exact ⟨_, rfl, hI1386, hF1390, _, rfl, by omega, ⟨⟨by omega, by omega, by omega, by omega, by omega⟩, (by intro i i0 i1; refine Eq.trans ?_ (if_neg (show ¬ (a1.toInt = 0 ∧ (eA g0 173 0).toInt ≠ 0) from by omega)).symm; refine Eq.trans ?_ (if_neg (show ¬ (a1.toInt = 1 ∧ (eA g0 173 1).toInt ≠ 0) from by omega)).symm; refine (eA_ti ((hF1387.2.1 2 (by decide)))).trans ?_; (first | rfl | exact eA_ix (by omega) | omega)), (by intro i i0 i1; refine Eq.trans ?_ (if_neg (show ¬ (a1.toInt = 0 ∧ (eA g0 173 0).toInt ≠ 0) from by omega)).symm; refine Eq.trans ?_ (if_neg (show ¬ (a1.toInt = 1 ∧ (eA g0 173 1).toInt ≠ 0) from by omega)).symm; refine (eA_ti ((hF1387.2.1 3 (by decide)))).trans ?_; (first | rfl | exact eA_ix (by omega) | omega)), (by intro i i0 i1; refine Eq.trans ?_ (if_neg (show ¬ (a1.toInt = 0 ∧ (eA g0 173 0).toInt ≠ 0) from by omega)).symm; refine Eq.trans ?_ (if_neg (show ¬ (a1.toInt = 1 ∧ (eA g0 173 1).toInt ≠ 0) from by omega)).symm; refine (eA_ti ((hF1387.2.1 4 (by decide)))).trans ?_; (first | rfl | exact eA_ix (by omega) | omega)), (by intro i i0 i1; refine Eq.trans ?_ (if_neg (show ¬ (a1.toInt = 0 ∧ (eA g0 173 0).toInt ≠ 0) from by omega)).symm; refine Eq.trans ?_ (if_neg (show ¬ (a1.toInt = 1 ∧ (eA g0 173 1).toInt ≠ 0) from by omega)).symm; refine (eA_ti ((hF1387.2.1 14 (by decide)))).trans ?_; (first | rfl | exact eA_ix (by omega) | omega)), (by intro i i0 i1; refine Eq.trans ?_ (if_neg (show ¬ (a1.toInt = 0 ∧ (eA g0 173 0).toInt ≠ 0) from by omega)).symm; refine Eq.trans ?_ (if_neg (show ¬ (a1.toInt = 1 ∧ (eA g0 173 1).toInt ≠ 0) from by omega)).symm; refine (eA_ti ((hF1387.2.1 15 (by decide)))).trans ?_; (first | rfl | exact eA_ix (by omega) | omega)), (by intro i i0 i1; refine Eq.trans ?_ (if_neg (show ¬ (a1.toInt = 0 ∧ (eA g0 173 0).toInt ≠ 0) from by omega)).symm; refine Eq.trans ?_ (if_neg (show ¬ (a1.toInt = 1 ∧ (eA g0 173 1).toInt ≠ 0) from by omega)).symm; refine (eA_ti ((hF1387.2.1 5 (by decide)))).trans ?_; (first | rfl | exact eA_ix (by omega) | omega))⟩⟩
    · have c1384_ : a1.toInt ≤ 1 := en_i_gt_f c1384
      refine At.enter rfl ?_
      refine r_iconst 1 rfl ?_
      refine r_goto ?_
      refine At.enter rfl ?_
      refine q_iretz (by decide) ?_
      refine At.enter rfl ?_
      refine r_iff 9 rfl (by decide) ?_
      refine At.enter rfl ?_
      refine r_aload_n rfl ?_
      refine q_getR (Sh.ref hI0.1 kx_0 rfl) ?_
      refine r_iload_n rfl ?_
      by_cases c1433_0 : a1.toInt = 0
      · refine q_aald (Sh.rar hI0.1 ka_58) (by decide) 0 (by omega) (by decide) (some 59) rfl ?_
        refine r_goto ?_
        refine At.enter rfl ?_
        refine q_aret ?_
        refine At.enter rfl ?_
        refine r_astore_n ([(2, .ref 59), (0, .ref 0), (1, .int a1)]) rfl ?_
        refine r_aload_n rfl ?_
        refine r_nnr ?_
        refine At.enter rfl ?_
        refine r_aload_n rfl ?_
        refine q_getR (Sh.ref hI0.1 kx_0 rfl) ?_
        refine r_iload_n rfl ?_
        obtain ⟨v1434, hv1434⟩ : ∃ v, eA g0 173 a1.toInt = v := ⟨_, rfl⟩
        refine q_bald (Sh.arr hI0.1 ka_173) a1.toInt rfl (by omega) v1434 hv1434 ?_
        refine r_ifs 25 rfl (fun c1435 => ?_) (fun c1435 => ?_)
        · have c1435_ : v1434.toInt ≠ 0 := en_k_ne_t c1435
          refine At.enter rfl ?_
          refine r_aload_n rfl ?_
          refine q_getR (Sh.ref hI0.1 kx_0 rfl) ?_
          refine r_aload_n rfl ?_
          refine q_inlV 40 rfl [.ref 1, .ref 59] [] (Nat.le_of_ble_eq_true rfl) rfl ?_
          refine Ev.mk rfl rfl ⟨Nat.le_of_ble_eq_true rfl, Or.inr (q_rc hI0.1 kx_1 rfl)⟩ ?_
          show At _ none _ _ (0, [(0, .ref 1), (1, .ref 59)], [], (_, _)) _
          refine At.enter rfl ?_
          refine r_aload_n rfl ?_
          refine r_aload_n rfl ?_
          obtain ⟨v1436, hv1436⟩ : ∃ v, gI g0 59 0 = v := ⟨_, rfl⟩
          have rv1436 := RgF.at hI0.2.1 (p := 59) (b := 0) rfl
          rw [hv1436] at rv1436
          dsimp only at rv1436
          refine q_getI (Sh.int hI0.1 kx_59 rfl) v1436 hv1436 ?_
          refine q_putI (Sh.int hI0.1 kx_1 rfl) rfl ?_
          have hI1437 := HI.wI1 hI0 kx_1 rfl (p := 1) (b := 0) (v := v1436) rfl (by dsimp only; omega)
          have hF1438 := Fr.wI (p := 1) (b := 0) (v := v1436) hF0 rfl
          refine r_aload_n rfl ?_
          refine q_getR (Sh.ref hI1437.1 kx_59 rfl) ?_
          refine r_iconst 0 rfl ?_
          refine r_aload_n rfl ?_
          refine q_getR (Sh.ref hI1437.1 kx_1 rfl) ?_
          refine r_iconst 0 rfl ?_
          refine r_bipush 12 rfl ?_
          have zv1439 : (0 : Int32).toInt = 0 := rfl
          have zv1440 : (0 : Int32).toInt = 0 := rfl
          have zv1441 : (12 : Int32).toInt = 12 := rfl
          refine q_cpy rfl (Nat.le_of_ble_eq_true rfl) (Sh.arr hI1437.1 ka_60) (Sh.arr hI1437.1 ka_2) ⟨by omega, by omega, by omega, by omega, by omega⟩ ?_
          have hI1442 := HI.cpy0 hI1437 ka_60 ka_2 rfl rfl ((0 : Int32).toInt.toNat) ((0 : Int32).toInt.toNat) ((12 : Int32).toInt.toNat) (by omega) (by omega)
          have hF1443 := Fr.cpy (p0 := 60) (p1 := 2) hF1438 rfl ((0 : Int32).toInt.toNat) ((0 : Int32).toInt.toNat) ((12 : Int32).toInt.toNat)
          refine r_aload_n rfl ?_
          refine q_getR (Sh.ref hI1442.1 kx_59 rfl) ?_
          refine r_iconst 0 rfl ?_
          refine r_aload_n rfl ?_
          refine q_getR (Sh.ref hI1442.1 kx_1 rfl) ?_
          refine r_iconst 0 rfl ?_
          refine r_bipush 12 rfl ?_
          have zv1444 : (0 : Int32).toInt = 0 := rfl
          have zv1445 : (0 : Int32).toInt = 0 := rfl
          have zv1446 : (12 : Int32).toInt = 12 := rfl
          refine q_cpy rfl (Nat.le_of_ble_eq_true rfl) (Sh.arr hI1442.1 ka_61) (Sh.arr hI1442.1 ka_3) ⟨by omega, by omega, by omega, by omega, by omega⟩ ?_
          have hI1447 := HI.cpy0 hI1442 ka_61 ka_3 rfl rfl ((0 : Int32).toInt.toNat) ((0 : Int32).toInt.toNat) ((12 : Int32).toInt.toNat) (by omega) (by omega)
          have hF1448 := Fr.cpy (p0 := 61) (p1 := 3) hF1443 rfl ((0 : Int32).toInt.toNat) ((0 : Int32).toInt.toNat) ((12 : Int32).toInt.toNat)
          refine r_aload_n rfl ?_
          refine q_getR (Sh.ref hI1447.1 kx_59 rfl) ?_
          refine r_iconst 0 rfl ?_
          refine r_aload_n rfl ?_
          refine q_getR (Sh.ref hI1447.1 kx_1 rfl) ?_
          refine r_iconst 0 rfl ?_
          refine r_bipush 12 rfl ?_
          have zv1449 : (0 : Int32).toInt = 0 := rfl
          have zv1450 : (0 : Int32).toInt = 0 := rfl
          have zv1451 : (12 : Int32).toInt = 12 := rfl
          refine q_cpy rfl (Nat.le_of_ble_eq_true rfl) (Sh.arr hI1447.1 ka_62) (Sh.arr hI1447.1 ka_4) ⟨by omega, by omega, by omega, by omega, by omega⟩ ?_
          have hI1452 := HI.cpy0 hI1447 ka_62 ka_4 rfl rfl ((0 : Int32).toInt.toNat) ((0 : Int32).toInt.toNat) ((12 : Int32).toInt.toNat) (by omega) (by omega)
          have hF1453 := Fr.cpy (p0 := 62) (p1 := 4) hF1448 rfl ((0 : Int32).toInt.toNat) ((0 : Int32).toInt.toNat) ((12 : Int32).toInt.toNat)
          refine r_aload_n rfl ?_
          refine r_aload_n rfl ?_
          obtain ⟨v1454, hv1454⟩ : ∃ v, gI g0 59 4 = v := ⟨_, rfl⟩
          have rv1454 := RgF.at hI0.2.1 (p := 59) (b := 4) rfl
          rw [hv1454] at rv1454
          dsimp only at rv1454
          refine q_getI (Sh.int hI1452.1 kx_59 rfl) v1454 (((gI_sW).trans ((gI_sW).trans ((gI_sW).trans (gI_sI_ne (by decide))))).trans hv1454) ?_
          refine q_putI (Sh.int hI1452.1 kx_1 rfl) rfl ?_
          have hI1455 := HI.wI1 hI1452 kx_1 rfl (p := 1) (b := 4) (v := v1454) rfl (by dsimp only; omega)
          have hF1456 := Fr.wI (p := 1) (b := 4) (v := v1454) hF1453 rfl
          refine r_aload_n rfl ?_
          refine q_getR (Sh.ref hI1455.1 kx_59 rfl) ?_
          refine r_iconst 0 rfl ?_
          refine r_aload_n rfl ?_
          refine q_getR (Sh.ref hI1455.1 kx_1 rfl) ?_
          refine r_iconst 0 rfl ?_
          refine r_bipush 48 rfl ?_
          have zv1457 : (0 : Int32).toInt = 0 := rfl
          have zv1458 : (0 : Int32).toInt = 0 := rfl
          have zv1459 : (48 : Int32).toInt = 48 := rfl
          refine q_cpy rfl (Nat.le_of_ble_eq_true rfl) (Sh.arr hI1455.1 ka_63) (Sh.arr hI1455.1 ka_5) ⟨by omega, by omega, by omega, by omega, by omega⟩ ?_
          have hI1460 := HI.cpy0 hI1455 ka_63 ka_5 rfl rfl ((0 : Int32).toInt.toNat) ((0 : Int32).toInt.toNat) ((48 : Int32).toInt.toNat) (by omega) (by omega)
          have hF1461 := Fr.cpy (p0 := 63) (p1 := 5) hF1456 rfl ((0 : Int32).toInt.toNat) ((0 : Int32).toInt.toNat) ((48 : Int32).toInt.toNat)
          refine r_aload_n rfl ?_
          refine r_aload_n rfl ?_
          obtain ⟨v1462, hv1462⟩ : ∃ v, gI g0 59 6 = v := ⟨_, rfl⟩
          have rv1462 := RgF.at hI0.2.1 (p := 59) (b := 6) rfl
          rw [hv1462] at rv1462
          dsimp only at rv1462
          refine q_getI (Sh.int hI1460.1 kx_59 rfl) v1462 (((gI_sW).trans ((gI_sI_ne (by decide)).trans ((gI_sW).trans ((gI_sW).trans ((gI_sW).trans (gI_sI_ne (by decide))))))).trans hv1462) ?_
          refine q_putI (Sh.int hI1460.1 kx_1 rfl) rfl ?_
          have hI1463 := HI.wI1 hI1460 kx_1 rfl (p := 1) (b := 6) (v := v1462) rfl (by dsimp only; omega)
          have hF1464 := Fr.wI (p := 1) (b := 6) (v := v1462) hF1461 rfl
          refine r_iconst 0 rfl ?_
          refine r_istore_n ([(2, .int 0), (0, .ref 1), (1, .ref 59)]) rfl ?_
          refine Ar.fall 86 rfl ?_
          have z_1698 : (0 : Int32).toInt = 0 := rfl
          refine w_loopI (fun n_ l_ g_ => ∃ x1679 : Int32, n_ = 6 - x1679.toInt ∧ HI g_ ∧ Fr F_X10_back_0 A_X10_back_0 g0 g_ ∧ gI g_ 1 0 = v1436 ∧ gI g_ 1 4 = v1454 ∧ en_get 0 l_ = some (.ref 1) ∧ en_get 1 l_ = some (.ref 59) ∧ en_get 2 l_ = some (.int x1679) ∧ (0 ≤ x1679.toInt ∧ x1679.toInt ≤ 6) ∧ (∀ i : Int, 0 ≤ i → i < 12 → (eA g_ 2 (i)).toInt = (eA g0 60 (i)).toInt) ∧ (∀ i : Int, 0 ≤ i → i < 12 → (eA g_ 3 (i)).toInt = (eA g0 61 (i)).toInt) ∧ (∀ i : Int, 0 ≤ i → i < 12 → (eA g_ 4 (i)).toInt = (eA g0 62 (i)).toInt) ∧ (∀ i : Int, 0 ≤ i → i < 8 → (eA g_ 14 (i)).toInt = (eA g0 14 (i)).toInt) ∧ (∀ i : Int, 0 ≤ i → i < 8 → (eA g_ 15 (i)).toInt = (eA g0 15 (i)).toInt) ∧ (∀ i : Int, 0 ≤ i → i < 48 → (eA g_ 5 (i)).toInt = (eA g0 63 (i)).toInt)) ?_ (6 - 0) ⟨0, by first | rfl | omega, hI1463, hF1464, ((gI_sI_ne (by decide)).trans ((gI_sW).trans ((gI_sI_ne (by decide)).trans ((gI_sW).trans ((gI_sW).trans ((gI_sW).trans (gI_sI_eq hI0.1 kx_1 rfl _))))))), ((gI_sI_ne (by decide)).trans ((gI_sW).trans (gI_sI_eq hI1452.1 kx_1 rfl _))), rfl, rfl, rfl, by decide, (by intro i i0 i1; refine (eA_tq (((gA_sI).trans ((gA_sW_ne (by decide)).trans ((gA_sI).trans ((gA_sW_ne (by decide)).trans ((gA_sW_ne (by decide)).trans ((gA_cpF hI1437.1 ka_60 ka_2 (by decide) (by decide) (by decide)).trans (gA_sI))))))))).trans ?_; (first | rfl | exact eA_ix (by omega) | omega)), (by intro i i0 i1; refine (eA_tq (((gA_sI).trans ((gA_sW_ne (by decide)).trans ((gA_sI).trans ((gA_sW_ne (by decide)).trans ((gA_cpF hI1442.1 ka_61 ka_3 (by decide) (by decide) (by decide)).trans ((gA_sW_ne (by decide)).trans (gA_sI))))))))).trans ?_; (first | rfl | exact eA_ix (by omega) | omega)), (by intro i i0 i1; refine (eA_tq (((gA_sI).trans ((gA_sW_ne (by decide)).trans ((gA_sI).trans ((gA_cpF hI1447.1 ka_62 ka_4 (by decide) (by decide) (by decide)).trans ((gA_sW_ne (by decide)).trans ((gA_sW_ne (by decide)).trans (gA_sI))))))))).trans ?_; (first | rfl | exact eA_ix (by omega) | omega)), (by intro i i0 i1; refine (eA_ti (((gA_sI).trans ((gA_sW_ne (by decide)).trans ((gA_sI).trans ((gA_sW_ne (by decide)).trans ((gA_sW_ne (by decide)).trans ((gA_sW_ne (by decide)).trans (gA_sI))))))))).trans ?_; (first | rfl | exact eA_ix (by omega) | omega)), (by intro i i0 i1; refine (eA_ti (((gA_sI).trans ((gA_sW_ne (by decide)).trans ((gA_sI).trans ((gA_sW_ne (by decide)).trans ((gA_sW_ne (by decide)).trans ((gA_sW_ne (by decide)).trans (gA_sI))))))))).trans ?_; (first | rfl | exact eA_ix (by omega) | omega)), (by intro i i0 i1; refine (eA_tq (((gA_sI).trans ((gA_cpF hI1455.1 ka_63 ka_5 (by decide) (by decide) (by decide)).trans ((gA_sI).trans ((gA_sW_ne (by decide)).trans ((gA_sW_ne (by decide)).trans ((gA_sW_ne (by decide)).trans (gA_sI))))))))).trans ?_; (first | rfl | exact eA_ix (by omega) | omega))⟩
          rintro n1684 l1683 g1680 ⟨x1679, hm1699, hI1681, hF1682, e1686, e1687, e1688, e1689, e1690, r1691, q1692, q1693, q1694, q1695, q1696, q1697⟩ ih1685
          have tv1700 := congrArg Int32.toInt e1686
          have tv1701 := congrArg Int32.toInt e1687
          refine At.enter rfl ?_
          refine r_iload_n e1690 ?_
          refine r_bipush 6 rfl ?_
          refine r_ics 92 rfl (fun c1702 => ?_) (fun c1702 => ?_)
          · have c1702_ : x1679.toInt ≥ 6 := en_i_ge_t c1702
            refine At.enter rfl ?_
            refine r_aload_n e1688 ?_
            refine r_aload_n e1689 ?_
            obtain ⟨v1703, hv1703⟩ : ∃ v, gI g0 59 9 = v := ⟨_, rfl⟩
            refine q_getI (Sh.int hI1681.1 kx_59 rfl) v1703 ((hF1682.1 59 9 (by decide)).trans hv1703) ?_
            refine q_putI (Sh.int hI1681.1 kx_1 rfl) rfl ?_
            have hI1704 := HI.wI0 hI1681 kx_1 rfl (p := 1) (b := 9) (v := v1703) rfl
            have hF1705 := Fr.wI (p := 1) (b := 9) (v := v1703) hF1682 rfl
            refine r_aload_n e1688 ?_
            refine r_aload_n e1689 ?_
            obtain ⟨v1706, hv1706⟩ : ∃ v, gI g0 59 10 = v := ⟨_, rfl⟩
            refine q_getI (Sh.int hI1704.1 kx_59 rfl) v1706 (((gI_sI_ne (by decide)).trans (hF1682.1 59 10 (by decide))).trans hv1706) ?_
            refine q_putI (Sh.int hI1704.1 kx_1 rfl) rfl ?_
            have hI1707 := HI.wI0 hI1704 kx_1 rfl (p := 1) (b := 10) (v := v1706) rfl
            have hF1708 := Fr.wI (p := 1) (b := 10) (v := v1706) hF1705 rfl
            refine r_aload_n e1688 ?_
            refine r_aload_n e1689 ?_
            obtain ⟨v1709, hv1709⟩ : ∃ v, gI g0 59 11 = v := ⟨_, rfl⟩
            refine q_getI (Sh.int hI1707.1 kx_59 rfl) v1709 (((gI_sI_ne (by decide)).trans ((gI_sI_ne (by decide)).trans (hF1682.1 59 11 (by decide)))).trans hv1709) ?_
            refine q_putI (Sh.int hI1707.1 kx_1 rfl) rfl ?_
            have hI1710 := HI.wI0 hI1707 kx_1 rfl (p := 1) (b := 11) (v := v1709) rfl
            have hF1711 := Fr.wI (p := 1) (b := 11) (v := v1709) hF1708 rfl
            refine r_aload_n e1688 ?_
            refine r_aload_n e1689 ?_
            obtain ⟨v1712, hv1712⟩ : ∃ v, gI g0 59 12 = v := ⟨_, rfl⟩
            have rv1712 := RgF.at hI0.2.1 (p := 59) (b := 12) rfl
            rw [hv1712] at rv1712
            dsimp only at rv1712
            refine q_getI (Sh.int hI1710.1 kx_59 rfl) v1712 (((gI_sI_ne (by decide)).trans ((gI_sI_ne (by decide)).trans ((gI_sI_ne (by decide)).trans (hF1682.1 59 12 (by decide))))).trans hv1712) ?_
            refine q_putI (Sh.int hI1710.1 kx_1 rfl) rfl ?_
            have hI1713 := HI.wI1 hI1710 kx_1 rfl (p := 1) (b := 12) (v := v1712) rfl (by dsimp only; omega)
            have hF1714 := Fr.wI (p := 1) (b := 12) (v := v1712) hF1711 rfl
            refine r_aload_n e1689 ?_
            refine q_getR (Sh.ref hI1713.1 kx_59 rfl) ?_
            refine r_iconst 0 rfl ?_
            refine r_aload_n e1688 ?_
            refine q_getR (Sh.ref hI1713.1 kx_1 rfl) ?_
            refine r_iconst 0 rfl ?_
            refine r_bipush 8 rfl ?_
            have zv1715 : (0 : Int32).toInt = 0 := rfl
            have zv1716 : (0 : Int32).toInt = 0 := rfl
            have zv1717 : (8 : Int32).toInt = 8 := rfl
            refine q_cpy rfl (Nat.le_of_ble_eq_true rfl) (Sh.arr hI1713.1 ka_72) (Sh.arr hI1713.1 ka_14) ⟨by omega, by omega, by omega, by omega, by omega⟩ ?_
            have hI1718 := HI.cpy0 hI1713 ka_72 ka_14 rfl rfl ((0 : Int32).toInt.toNat) ((0 : Int32).toInt.toNat) ((8 : Int32).toInt.toNat) (by omega) (by omega)
            have hF1719 := Fr.cpy (p0 := 72) (p1 := 14) hF1714 rfl ((0 : Int32).toInt.toNat) ((0 : Int32).toInt.toNat) ((8 : Int32).toInt.toNat)
            refine r_aload_n e1689 ?_
            refine q_getR (Sh.ref hI1718.1 kx_59 rfl) ?_
            refine r_iconst 0 rfl ?_
            refine r_aload_n e1688 ?_
            refine q_getR (Sh.ref hI1718.1 kx_1 rfl) ?_
            refine r_iconst 0 rfl ?_
            refine r_bipush 8 rfl ?_
            have zv1720 : (0 : Int32).toInt = 0 := rfl
            have zv1721 : (0 : Int32).toInt = 0 := rfl
            have zv1722 : (8 : Int32).toInt = 8 := rfl
            refine q_cpy rfl (Nat.le_of_ble_eq_true rfl) (Sh.arr hI1718.1 ka_73) (Sh.arr hI1718.1 ka_15) ⟨by omega, by omega, by omega, by omega, by omega⟩ ?_
            have hI1723 := HI.cpy0 hI1718 ka_73 ka_15 rfl rfl ((0 : Int32).toInt.toNat) ((0 : Int32).toInt.toNat) ((8 : Int32).toInt.toNat) (by omega) (by omega)
            have hF1724 := Fr.cpy (p0 := 73) (p1 := 15) hF1719 rfl ((0 : Int32).toInt.toNat) ((0 : Int32).toInt.toNat) ((8 : Int32).toInt.toNat)
            refine q_vret ?_
            refine At.enter rfl ?_
            refine r_aload_n rfl ?_
            refine r_callV 44 rfl [.ref 0] [] (Nat.le_of_ble_eq_true rfl) rfl (T_X10_changed_0 _ hI1723) ?_
            rintro _ _ ⟨g1725, rfl, hI1726, hF1727, rfl⟩
            refine At.stn ?_
            have hF1730 := Fr.tr hF1724 hF1727 rfl rfl
            refine At.enter rfl ?_
            refine r_aload_n rfl ?_
            refine r_iconst 0 rfl ?_
            refine q_inlV 49 rfl [.ref 0, .int 0] [] (Nat.le_of_ble_eq_true rfl) rfl ?_
            refine Ev.mk rfl rfl ⟨Nat.le_of_ble_eq_true rfl, Or.inr (q_rc hI1726.1 kx_0 rfl)⟩ ?_
            show At _ none _ _ (0, [(0, .ref 0), (1, .int 0)], [], (_, _)) _
            refine At.enter rfl ?_
            refine r_aload_n rfl ?_
            refine r_iconst 0 rfl ?_
            refine q_putI (Sh.int hI1726.1 kx_0 rfl) rfl ?_
            have hI1731 := HI.wI0 hI1726 kx_0 rfl (p := 0) (b := 17) (v := 0) rfl
            have hF1732 := Fr.wI (p := 0) (b := 17) (v := 0) hF1730 rfl
            refine r_iload_n rfl ?_
            refine q_ireti ?_
            refine At.enter rfl ?_
            refine r_ireti ?_
            have zv1733 : (0 : Int32).toInt = 0 := rfl
            have e : a1.toInt = 0 := by omega
            have k1734_ : (eA g0 173 0).toInt = v1434.toInt := by rw [← hv1434, e]
            have k1734 : (eA g0 173 0).toInt ≠ 0 := by omega
            obtain ⟨v1735, hv1735⟩ : ∃ v, eA g0 173 0 = v := ⟨_, rfl⟩
            have tv1735 := congrArg Int32.toInt hv1735
            have x1736 := HI.eqA hI0 (p := 173) (j := 0) (hv1735)
            have y1737 : (eA g0 173 0).toInt = v1434.toInt := by rw [← hv1434, show a1.toInt = 0 by omega]
            obtain ⟨v1738, hv1738⟩ : ∃ v, eA g0 173 1 = v := ⟨_, rfl⟩
            have tv1738 := congrArg Int32.toInt hv1738
            have x1739 := HI.eqA hI0 (p := 173) (j := 1) (hv1738)
            exact ⟨_, rfl, hI1731, hF1732, _, rfl, by decide, ⟨⟨(fun _ => ⟨(by first | rfl | decide), (HI.eqI hI1731 (p := 1) (b := 0) ((((gI_sI_ne (by decide)).trans ((hF1727.1 1 0 (by decide)).trans ((gI_sW).trans ((gI_sW).trans ((gI_sI_ne (by decide)).trans ((gI_sI_ne (by decide)).trans ((gI_sI_ne (by decide)).trans (gI_sI_ne (by decide))))))))).trans e1686))).trans (HI.eqI hI0 (p := 59) (b := 0) (hv1436)).symm, (HI.eqI hI1731 (p := 1) (b := 12) (((gI_sI_ne (by decide)).trans ((hF1727.1 1 12 (by decide)).trans ((gI_sW).trans ((gI_sW).trans (gI_sI_eq hI1710.1 kx_1 rfl _))))))).trans (HI.eqI hI0 (p := 59) (b := 12) (hv1712)).symm, (HI.eqI hI1731 (p := 1) (b := 10) (((gI_sI_ne (by decide)).trans ((hF1727.1 1 10 (by decide)).trans ((gI_sW).trans ((gI_sW).trans ((gI_sI_ne (by decide)).trans ((gI_sI_ne (by decide)).trans (gI_sI_eq hI1704.1 kx_1 rfl _))))))))).trans (HI.eqI hI0 (p := 59) (b := 10) (hv1706)).symm, (HI.eqI hI1731 (p := 1) (b := 11) (((gI_sI_ne (by decide)).trans ((hF1727.1 1 11 (by decide)).trans ((gI_sW).trans ((gI_sW).trans ((gI_sI_ne (by decide)).trans (gI_sI_eq hI1707.1 kx_1 rfl _)))))))).trans (HI.eqI hI0 (p := 59) (b := 11) (hv1709)).symm, (HI.eqI hI1731 (p := 1) (b := 4) ((((gI_sI_ne (by decide)).trans ((hF1727.1 1 4 (by decide)).trans ((gI_sW).trans ((gI_sW).trans ((gI_sI_ne (by decide)).trans ((gI_sI_ne (by decide)).trans ((gI_sI_ne (by decide)).trans (gI_sI_ne (by decide))))))))).trans e1687))).trans (HI.eqI hI0 (p := 59) (b := 4) (hv1454)).symm⟩), (fun h => absurd (e.symm.trans h.1) (by decide)), (fun h => absurd ⟨e, k1734⟩ h.1), (fun h => False.elim (by omega)), (fun h => absurd ⟨e, k1734⟩ h.2.2.1)⟩, (by intro i i0 i1; exact (Decidable.em (a1.toInt = 0 ∧ (eA g0 173 0).toInt ≠ 0)).elim (fun k136_ => by refine Eq.trans ?_ (if_pos k136_).symm; refine (eA_ti (((gA_sI).trans ((hF1727.2.1 2 (by decide)).trans ((gA_sW_ne (by decide)).trans ((gA_sW_ne (by decide)).trans ((gA_sI).trans ((gA_sI).trans ((gA_sI).trans (gA_sI)))))))))).trans ?_; refine ((q1692 (i) (by omega) (by omega))).trans ?_; (first | rfl | exact eA_ix (by omega) | omega)) (fun k136_ => by refine Eq.trans ?_ (if_neg k136_).symm; exact (Decidable.em (a1.toInt = 1 ∧ (eA g0 173 1).toInt ≠ 0)).elim (fun k137_ => by refine Eq.trans ?_ (if_pos k137_).symm; refine (eA_ti (((gA_sI).trans ((hF1727.2.1 2 (by decide)).trans ((gA_sW_ne (by decide)).trans ((gA_sW_ne (by decide)).trans ((gA_sI).trans ((gA_sI).trans ((gA_sI).trans (gA_sI)))))))))).trans ?_; refine ((q1692 (i) (by omega) (by omega))).trans ?_; (first | rfl | exact eA_ix (by omega) | omega)) (fun k137_ => by refine Eq.trans ?_ (if_neg k137_).symm; refine (eA_ti (((gA_sI).trans ((hF1727.2.1 2 (by decide)).trans ((gA_sW_ne (by decide)).trans ((gA_sW_ne (by decide)).trans ((gA_sI).trans ((gA_sI).trans ((gA_sI).trans (gA_sI)))))))))).trans ?_; refine ((q1692 (i) (by omega) (by omega))).trans ?_; (first | rfl | exact eA_ix (by omega) | omega)))), (by intro i i0 i1; exact (Decidable.em (a1.toInt = 0 ∧ (eA g0 173 0).toInt ≠ 0)).elim (fun k138_ => by refine Eq.trans ?_ (if_pos k138_).symm; refine (eA_ti (((gA_sI).trans ((hF1727.2.1 3 (by decide)).trans ((gA_sW_ne (by decide)).trans ((gA_sW_ne (by decide)).trans ((gA_sI).trans ((gA_sI).trans ((gA_sI).trans (gA_sI)))))))))).trans ?_; refine ((q1693 (i) (by omega) (by omega))).trans ?_; (first | rfl | exact eA_ix (by omega) | omega)) (fun k138_ => by refine Eq.trans ?_ (if_neg k138_).symm; exact (Decidable.em (a1.toInt = 1 ∧ (eA g0 173 1).toInt ≠ 0)).elim (fun k139_ => by refine Eq.trans ?_ (if_pos k139_).symm; refine (eA_ti (((gA_sI).trans ((hF1727.2.1 3 (by decide)).trans ((gA_sW_ne (by decide)).trans ((gA_sW_ne (by decide)).trans ((gA_sI).trans ((gA_sI).trans ((gA_sI).trans (gA_sI)))))))))).trans ?_; refine ((q1693 (i) (by omega) (by omega))).trans ?_; (first | rfl | exact eA_ix (by omega) | omega)) (fun k139_ => by refine Eq.trans ?_ (if_neg k139_).symm; refine (eA_ti (((gA_sI).trans ((hF1727.2.1 3 (by decide)).trans ((gA_sW_ne (by decide)).trans ((gA_sW_ne (by decide)).trans ((gA_sI).trans ((gA_sI).trans ((gA_sI).trans (gA_sI)))))))))).trans ?_; refine ((q1693 (i) (by omega) (by omega))).trans ?_; (first | rfl | exact eA_ix (by omega) | omega)))), (by intro i i0 i1; exact (Decidable.em (a1.toInt = 0 ∧ (eA g0 173 0).toInt ≠ 0)).elim (fun k140_ => by refine Eq.trans ?_ (if_pos k140_).symm; refine (eA_ti (((gA_sI).trans ((hF1727.2.1 4 (by decide)).trans ((gA_sW_ne (by decide)).trans ((gA_sW_ne (by decide)).trans ((gA_sI).trans ((gA_sI).trans ((gA_sI).trans (gA_sI)))))))))).trans ?_; refine ((q1694 (i) (by omega) (by omega))).trans ?_; (first | rfl | exact eA_ix (by omega) | omega)) (fun k140_ => by refine Eq.trans ?_ (if_neg k140_).symm; exact (Decidable.em (a1.toInt = 1 ∧ (eA g0 173 1).toInt ≠ 0)).elim (fun k141_ => by refine Eq.trans ?_ (if_pos k141_).symm; refine (eA_ti (((gA_sI).trans ((hF1727.2.1 4 (by decide)).trans ((gA_sW_ne (by decide)).trans ((gA_sW_ne (by decide)).trans ((gA_sI).trans ((gA_sI).trans ((gA_sI).trans (gA_sI)))))))))).trans ?_; refine ((q1694 (i) (by omega) (by omega))).trans ?_; (first | rfl | exact eA_ix (by omega) | omega)) (fun k141_ => by refine Eq.trans ?_ (if_neg k141_).symm; refine (eA_ti (((gA_sI).trans ((hF1727.2.1 4 (by decide)).trans ((gA_sW_ne (by decide)).trans ((gA_sW_ne (by decide)).trans ((gA_sI).trans ((gA_sI).trans ((gA_sI).trans (gA_sI)))))))))).trans ?_; refine ((q1694 (i) (by omega) (by omega))).trans ?_; (first | rfl | exact eA_ix (by omega) | omega)))), (by intro i i0 i1; exact (Decidable.em (a1.toInt = 0 ∧ (eA g0 173 0).toInt ≠ 0)).elim (fun k142_ => by refine Eq.trans ?_ (if_pos k142_).symm; refine (eA_tq (((gA_sI).trans ((hF1727.2.1 14 (by decide)).trans ((gA_sW_ne (by decide)).trans ((gA_cpF hI1713.1 ka_72 ka_14 (by decide) (by decide) (by decide)).trans ((gA_sI).trans ((gA_sI).trans ((gA_sI).trans ((gA_sI).trans (hF1682.2.1 72 (by decide)))))))))))).trans ?_; (first | rfl | exact eA_ix (by omega) | omega)) (fun k142_ => by refine Eq.trans ?_ (if_neg k142_).symm; exact (Decidable.em (a1.toInt = 1 ∧ (eA g0 173 1).toInt ≠ 0)).elim (fun k143_ => by refine Eq.trans ?_ (if_pos k143_).symm; refine (eA_tq (((gA_sI).trans ((hF1727.2.1 14 (by decide)).trans ((gA_sW_ne (by decide)).trans ((gA_cpF hI1713.1 ka_72 ka_14 (by decide) (by decide) (by decide)).trans ((gA_sI).trans ((gA_sI).trans ((gA_sI).trans ((gA_sI).trans (hF1682.2.1 72 (by decide)))))))))))).trans ?_; (first | rfl | exact eA_ix (by omega) | omega)) (fun k143_ => by refine Eq.trans ?_ (if_neg k143_).symm; refine (eA_tq (((gA_sI).trans ((hF1727.2.1 14 (by decide)).trans ((gA_sW_ne (by decide)).trans ((gA_cpF hI1713.1 ka_72 ka_14 (by decide) (by decide) (by decide)).trans ((gA_sI).trans ((gA_sI).trans ((gA_sI).trans ((gA_sI).trans (hF1682.2.1 72 (by decide)))))))))))).trans ?_; (first | rfl | exact eA_ix (by omega) | omega)))), (by intro i i0 i1; exact (Decidable.em (a1.toInt = 0 ∧ (eA g0 173 0).toInt ≠ 0)).elim (fun k144_ => by refine Eq.trans ?_ (if_pos k144_).symm; refine (eA_tq (((gA_sI).trans ((hF1727.2.1 15 (by decide)).trans ((gA_cpF hI1718.1 ka_73 ka_15 (by decide) (by decide) (by decide)).trans ((gA_sW_ne (by decide)).trans ((gA_sI).trans ((gA_sI).trans ((gA_sI).trans ((gA_sI).trans (hF1682.2.1 73 (by decide)))))))))))).trans ?_; (first | rfl | exact eA_ix (by omega) | omega)) (fun k144_ => by refine Eq.trans ?_ (if_neg k144_).symm; exact (Decidable.em (a1.toInt = 1 ∧ (eA g0 173 1).toInt ≠ 0)).elim (fun k145_ => by refine Eq.trans ?_ (if_pos k145_).symm; refine (eA_tq (((gA_sI).trans ((hF1727.2.1 15 (by decide)).trans ((gA_cpF hI1718.1 ka_73 ka_15 (by decide) (by decide) (by decide)).trans ((gA_sW_ne (by decide)).trans ((gA_sI).trans ((gA_sI).trans ((gA_sI).trans ((gA_sI).trans (hF1682.2.1 73 (by decide)))))))))))).trans ?_; (first | rfl | exact eA_ix (by omega) | omega)) (fun k145_ => by refine Eq.trans ?_ (if_neg k145_).symm; refine (eA_tq (((gA_sI).trans ((hF1727.2.1 15 (by decide)).trans ((gA_cpF hI1718.1 ka_73 ka_15 (by decide) (by decide) (by decide)).trans ((gA_sW_ne (by decide)).trans ((gA_sI).trans ((gA_sI).trans ((gA_sI).trans ((gA_sI).trans (hF1682.2.1 73 (by decide)))))))))))).trans ?_; (first | rfl | exact eA_ix (by omega) | omega)))), (by intro i i0 i1; exact (Decidable.em (a1.toInt = 0 ∧ (eA g0 173 0).toInt ≠ 0)).elim (fun k146_ => by refine Eq.trans ?_ (if_pos k146_).symm; refine (eA_ti (((gA_sI).trans ((hF1727.2.1 5 (by decide)).trans ((gA_sW_ne (by decide)).trans ((gA_sW_ne (by decide)).trans ((gA_sI).trans ((gA_sI).trans ((gA_sI).trans (gA_sI)))))))))).trans ?_; refine ((q1697 (i) (by omega) (by omega))).trans ?_; (first | rfl | exact eA_ix (by omega) | omega)) (fun k146_ => by refine Eq.trans ?_ (if_neg k146_).symm; exact (Decidable.em (a1.toInt = 1 ∧ (eA g0 173 1).toInt ≠ 0)).elim (fun k147_ => by refine Eq.trans ?_ (if_pos k147_).symm; refine (eA_ti (((gA_sI).trans ((hF1727.2.1 5 (by decide)).trans ((gA_sW_ne (by decide)).trans ((gA_sW_ne (by decide)).trans ((gA_sI).trans ((gA_sI).trans ((gA_sI).trans (gA_sI)))))))))).trans ?_; refine ((q1697 (i) (by omega) (by omega))).trans ?_; (first | rfl | exact eA_ix (by omega) | omega)) (fun k147_ => by refine Eq.trans ?_ (if_neg k147_).symm; refine (eA_ti (((gA_sI).trans ((hF1727.2.1 5 (by decide)).trans ((gA_sW_ne (by decide)).trans ((gA_sW_ne (by decide)).trans ((gA_sI).trans ((gA_sI).trans ((gA_sI).trans (gA_sI)))))))))).trans ?_; refine ((q1697 (i) (by omega) (by omega))).trans ?_; (first | rfl | exact eA_ix (by omega) | omega))))⟩⟩
          · have c1702_ : x1679.toInt < 6 := en_i_ge_f c1702
            refine At.enter rfl ?_
            refine r_aload_n e1688 ?_
            refine r_iload_n e1690 ?_
            refine r_callV 97 rfl [.ref 1, .int x1679] [] (Nat.le_of_ble_eq_true rfl) rfl (T_X0_lawAt_1 _ hI1681 x1679) ?_
            rintro _ _ ⟨g1740, rfl, hI1741, hF1742, v1743, rfl, hr1744⟩
            refine At.str ?_
            have hF1745 := Fr.tr hF1682 hF1742 rfl rfl
            refine At.enter rfl ?_
            refine r_aload_n e1689 ?_
            refine r_iload_n e1690 ?_
            refine r_callV 102 rfl [.ref 59, .int x1679] [.ref (v1743)] (Nat.le_of_ble_eq_true rfl) rfl (T_X0_lawAt_59 _ hI1741 x1679) ?_
            rintro _ _ ⟨g1746, rfl, hI1747, hF1748, v1749, rfl, hr1750⟩
            refine At.str ?_
            have hF1751 := Fr.tr hF1745 hF1748 rfl rfl
            refine At.enter rfl ?_
            refine r_callV 105 rfl [.ref (v1743), .ref (v1749)] [] (Nat.le_of_ble_eq_true rfl) rfl (T_X4_become_law _ hI1747 (v1743) hr1744 (v1749) hr1750) ?_
            rintro _ _ ⟨g1752, rfl, hI1753, hF1754, rfl⟩
            refine At.stn ?_
            have hF1757 := Fr.tr hF1751 hF1754 rfl rfl
            refine At.enter rfl ?_
            refine q_iinc e1690 (x1679.toInt + 1) rfl (by omega) (fun v1758 hv1758 => ?_)
            refine r_goto ?_
            exact ih1685 (6 - v1758.toInt) _ _ ⟨v1758, by first | rfl | omega, hI1753, hF1757, (((hF1754.1 1 0 (by decide)).trans ((hF1748.1 1 0 (by decide)).trans (hF1742.1 1 0 (by decide)))).trans e1686), (((hF1754.1 1 4 (by decide)).trans ((hF1748.1 1 4 (by decide)).trans (hF1742.1 1 4 (by decide)))).trans e1687), (w_p1 (by decide) (Or.inr rfl) e1688), (w_p1 (by decide) (Or.inr rfl) e1689), (w_e1 _ _ _), by omega, (by intro i i0 i1; refine (eA_ti (((hF1754.2.1 2 (by decide)).trans ((hF1748.2.1 2 (by decide)).trans (hF1742.2.1 2 (by decide)))))).trans ?_; refine ((q1692 (i) (by omega) (by omega))).trans ?_; (first | rfl | exact eA_ix (by omega) | omega)), (by intro i i0 i1; refine (eA_ti (((hF1754.2.1 3 (by decide)).trans ((hF1748.2.1 3 (by decide)).trans (hF1742.2.1 3 (by decide)))))).trans ?_; refine ((q1693 (i) (by omega) (by omega))).trans ?_; (first | rfl | exact eA_ix (by omega) | omega)), (by intro i i0 i1; refine (eA_ti (((hF1754.2.1 4 (by decide)).trans ((hF1748.2.1 4 (by decide)).trans (hF1742.2.1 4 (by decide)))))).trans ?_; refine ((q1694 (i) (by omega) (by omega))).trans ?_; (first | rfl | exact eA_ix (by omega) | omega)), (by intro i i0 i1; refine (eA_ti (((hF1754.2.1 14 (by decide)).trans ((hF1748.2.1 14 (by decide)).trans (hF1742.2.1 14 (by decide)))))).trans ?_; refine ((q1695 (i) (by omega) (by omega))).trans ?_; (first | rfl | exact eA_ix (by omega) | omega)), (by intro i i0 i1; refine (eA_ti (((hF1754.2.1 15 (by decide)).trans ((hF1748.2.1 15 (by decide)).trans (hF1742.2.1 15 (by decide)))))).trans ?_; refine ((q1696 (i) (by omega) (by omega))).trans ?_; (first | rfl | exact eA_ix (by omega) | omega)), (by intro i i0 i1; refine (eA_ti (((hF1754.2.1 5 (by decide)).trans ((hF1748.2.1 5 (by decide)).trans (hF1742.2.1 5 (by decide)))))).trans ?_; refine ((q1697 (i) (by omega) (by omega))).trans ?_; (first | rfl | exact eA_ix (by omega) | omega))⟩ ⟨by omega, by omega⟩
        · have c1435_ : v1434.toInt = 0 := en_k_ne_f c1435
          refine At.enter rfl ?_
          refine r_aload_n rfl ?_
          refine r_bipush (-2) rfl ?_
          refine r_callV 31 rfl [.ref 0, .int (-2)] [] (Nat.le_of_ble_eq_true rfl) rfl (T_X10_refused_0 _ hI0 (-2) (by decide)) ?_
          rintro _ _ ⟨g1759, rfl, hI1760, hF1761, v1762, rfl, hr1763⟩
          refine At.sti ?_
          have hF1764 := Fr.tr hF0 hF1761 rfl rfl
          have zv1765 : ((-2) : Int32).toInt = (-2) := rfl
          refine At.enter rfl ?_
          refine r_ireti ?_
          obtain ⟨v1766, hv1766⟩ : ∃ v, gI g0 1 0 = v := ⟨_, rfl⟩
          have rv1766 := RgF.at hI0.2.1 (p := 1) (b := 0) rfl
          rw [hv1766] at rv1766
          dsimp only at rv1766
          have tv1766 := congrArg Int32.toInt hv1766
          have x1767 := HI.eqI hI0 (p := 1) (b := 0) (hv1766)
          obtain ⟨v1768, hv1768⟩ : ∃ v, gI g0 1 12 = v := ⟨_, rfl⟩
          have rv1768 := RgF.at hI0.2.1 (p := 1) (b := 12) rfl
          rw [hv1768] at rv1768
          dsimp only at rv1768
          have tv1768 := congrArg Int32.toInt hv1768
          have x1769 := HI.eqI hI0 (p := 1) (b := 12) (hv1768)
          obtain ⟨v1770, hv1770⟩ : ∃ v, gI g0 1 10 = v := ⟨_, rfl⟩
          have tv1770 := congrArg Int32.toInt hv1770
          have x1771 := HI.eqI hI0 (p := 1) (b := 10) (hv1770)
          obtain ⟨v1772, hv1772⟩ : ∃ v, gI g0 1 11 = v := ⟨_, rfl⟩
          have tv1772 := congrArg Int32.toInt hv1772
          have x1773 := HI.eqI hI0 (p := 1) (b := 11) (hv1772)
          obtain ⟨v1774, hv1774⟩ : ∃ v, gI g0 1 4 = v := ⟨_, rfl⟩
          have rv1774 := RgF.at hI0.2.1 (p := 1) (b := 4) rfl
          rw [hv1774] at rv1774
          dsimp only at rv1774
          have tv1774 := congrArg Int32.toInt hv1774
          have x1775 := HI.eqI hI0 (p := 1) (b := 4) (hv1774)
          obtain ⟨v1776, hv1776⟩ : ∃ v, gI g0 59 0 = v := ⟨_, rfl⟩
          have rv1776 := RgF.at hI0.2.1 (p := 59) (b := 0) rfl
          rw [hv1776] at rv1776
          dsimp only at rv1776
          have tv1776 := congrArg Int32.toInt hv1776
          have x1777 := HI.eqI hI0 (p := 59) (b := 0) (hv1776)
          obtain ⟨v1778, hv1778⟩ : ∃ v, gI g0 59 12 = v := ⟨_, rfl⟩
          have rv1778 := RgF.at hI0.2.1 (p := 59) (b := 12) rfl
          rw [hv1778] at rv1778
          dsimp only at rv1778
          have tv1778 := congrArg Int32.toInt hv1778
          have x1779 := HI.eqI hI0 (p := 59) (b := 12) (hv1778)
          obtain ⟨v1780, hv1780⟩ : ∃ v, gI g0 59 10 = v := ⟨_, rfl⟩
          have tv1780 := congrArg Int32.toInt hv1780
          have x1781 := HI.eqI hI0 (p := 59) (b := 10) (hv1780)
          obtain ⟨v1782, hv1782⟩ : ∃ v, gI g0 59 11 = v := ⟨_, rfl⟩
          have tv1782 := congrArg Int32.toInt hv1782
          have x1783 := HI.eqI hI0 (p := 59) (b := 11) (hv1782)
          obtain ⟨v1784, hv1784⟩ : ∃ v, gI g0 59 4 = v := ⟨_, rfl⟩
          have rv1784 := RgF.at hI0.2.1 (p := 59) (b := 4) rfl
          rw [hv1784] at rv1784
          dsimp only at rv1784
          have tv1784 := congrArg Int32.toInt hv1784
          have x1785 := HI.eqI hI0 (p := 59) (b := 4) (hv1784)
          obtain ⟨v1786, hv1786⟩ : ∃ v, gI g0 116 0 = v := ⟨_, rfl⟩
          have rv1786 := RgF.at hI0.2.1 (p := 116) (b := 0) rfl
          rw [hv1786] at rv1786
          dsimp only at rv1786
          have tv1786 := congrArg Int32.toInt hv1786
          have x1787 := HI.eqI hI0 (p := 116) (b := 0) (hv1786)
          obtain ⟨v1788, hv1788⟩ : ∃ v, gI g0 116 12 = v := ⟨_, rfl⟩
          have rv1788 := RgF.at hI0.2.1 (p := 116) (b := 12) rfl
          rw [hv1788] at rv1788
          dsimp only at rv1788
          have tv1788 := congrArg Int32.toInt hv1788
          have x1789 := HI.eqI hI0 (p := 116) (b := 12) (hv1788)
          obtain ⟨v1790, hv1790⟩ : ∃ v, gI g0 116 10 = v := ⟨_, rfl⟩
          have tv1790 := congrArg Int32.toInt hv1790
          have x1791 := HI.eqI hI0 (p := 116) (b := 10) (hv1790)
          obtain ⟨v1792, hv1792⟩ : ∃ v, gI g0 116 11 = v := ⟨_, rfl⟩
          have tv1792 := congrArg Int32.toInt hv1792
          have x1793 := HI.eqI hI0 (p := 116) (b := 11) (hv1792)
          obtain ⟨v1794, hv1794⟩ : ∃ v, gI g0 116 4 = v := ⟨_, rfl⟩
          have rv1794 := RgF.at hI0.2.1 (p := 116) (b := 4) rfl
          rw [hv1794] at rv1794
          dsimp only at rv1794
          have tv1794 := congrArg Int32.toInt hv1794
          have x1795 := HI.eqI hI0 (p := 116) (b := 4) (hv1794)
          obtain ⟨v1796, hv1796⟩ : ∃ v, eA g0 173 0 = v := ⟨_, rfl⟩
          have tv1796 := congrArg Int32.toInt hv1796
          have x1797 := HI.eqA hI0 (p := 173) (j := 0) (hv1796)
          have y1798 : (eA g0 173 0).toInt = v1434.toInt := by rw [← hv1434, show a1.toInt = 0 by omega]
          obtain ⟨v1799, hv1799⟩ : ∃ v, eA g0 173 1 = v := ⟨_, rfl⟩
          have tv1799 := congrArg Int32.toInt hv1799
          have x1800 := HI.eqA hI0 (p := 173) (j := 1) (hv1799)
          have y1801 : a1.toInt = 0 → (eA g0 173 0).toInt = v1434.toInt := fun e => by rw [← hv1434, e]
          have e : a1.toInt = 0 := by omega
          have z1802 := HI.eqI hI1760 (p := 1) (b := 0) (((hF1761.1 1 0 (by decide)).trans hv1766))
          have z1803 := HI.eqI hI1760 (p := 1) (b := 12) (((hF1761.1 1 12 (by decide)).trans hv1768))
          have z1804 := HI.eqI hI1760 (p := 1) (b := 10) (((hF1761.1 1 10 (by decide)).trans hv1770))
          have z1805 := HI.eqI hI1760 (p := 1) (b := 11) (((hF1761.1 1 11 (by decide)).trans hv1772))
          have z1806 := HI.eqI hI1760 (p := 1) (b := 4) (((hF1761.1 1 4 (by decide)).trans hv1774))
          have x1807 := HI.eqA hI0 (p := 173) (j := 0) (hv1796)
          have y1808 : (eA g0 173 0).toInt = v1434.toInt := by rw [← hv1434, show a1.toInt = 0 by omega]
          have x1809 := HI.eqA hI0 (p := 173) (j := 1) (hv1799)
          exact ⟨_, rfl, hI1760, hF1764, _, rfl, by omega, ⟨⟨by omega, by omega, by omega, by omega, by omega⟩, (by intro i i0 i1; refine Eq.trans ?_ (if_neg (show ¬ (a1.toInt = 0 ∧ (eA g0 173 0).toInt ≠ 0) from by omega)).symm; refine Eq.trans ?_ (if_neg (show ¬ (a1.toInt = 1 ∧ (eA g0 173 1).toInt ≠ 0) from by omega)).symm; refine (eA_ti ((hF1761.2.1 2 (by decide)))).trans ?_; (first | rfl | exact eA_ix (by omega) | omega)), (by intro i i0 i1; refine Eq.trans ?_ (if_neg (show ¬ (a1.toInt = 0 ∧ (eA g0 173 0).toInt ≠ 0) from by omega)).symm; refine Eq.trans ?_ (if_neg (show ¬ (a1.toInt = 1 ∧ (eA g0 173 1).toInt ≠ 0) from by omega)).symm; refine (eA_ti ((hF1761.2.1 3 (by decide)))).trans ?_; (first | rfl | exact eA_ix (by omega) | omega)), (by intro i i0 i1; refine Eq.trans ?_ (if_neg (show ¬ (a1.toInt = 0 ∧ (eA g0 173 0).toInt ≠ 0) from by omega)).symm; refine Eq.trans ?_ (if_neg (show ¬ (a1.toInt = 1 ∧ (eA g0 173 1).toInt ≠ 0) from by omega)).symm; refine (eA_ti ((hF1761.2.1 4 (by decide)))).trans ?_; (first | rfl | exact eA_ix (by omega) | omega)), (by intro i i0 i1; refine Eq.trans ?_ (if_neg (show ¬ (a1.toInt = 0 ∧ (eA g0 173 0).toInt ≠ 0) from by omega)).symm; refine Eq.trans ?_ (if_neg (show ¬ (a1.toInt = 1 ∧ (eA g0 173 1).toInt ≠ 0) from by omega)).symm; refine (eA_ti ((hF1761.2.1 14 (by decide)))).trans ?_; (first | rfl | exact eA_ix (by omega) | omega)), (by intro i i0 i1; refine Eq.trans ?_ (if_neg (show ¬ (a1.toInt = 0 ∧ (eA g0 173 0).toInt ≠ 0) from by omega)).symm; refine Eq.trans ?_ (if_neg (show ¬ (a1.toInt = 1 ∧ (eA g0 173 1).toInt ≠ 0) from by omega)).symm; refine (eA_ti ((hF1761.2.1 15 (by decide)))).trans ?_; (first | rfl | exact eA_ix (by omega) | omega)), (by intro i i0 i1; refine Eq.trans ?_ (if_neg (show ¬ (a1.toInt = 0 ∧ (eA g0 173 0).toInt ≠ 0) from by omega)).symm; refine Eq.trans ?_ (if_neg (show ¬ (a1.toInt = 1 ∧ (eA g0 173 1).toInt ≠ 0) from by omega)).symm; refine (eA_ti ((hF1761.2.1 5 (by decide)))).trans ?_; (first | rfl | exact eA_ix (by omega) | omega))⟩⟩
      have c1433_1 : a1.toInt = 1 := by omega
      refine q_aald (Sh.rar hI0.1 ka_58) (by decide) 1 (by omega) (by decide) (some 116) rfl ?_
      refine r_goto ?_
      refine At.enter rfl ?_
      refine q_aret ?_
      refine At.enter rfl ?_
      refine r_astore_n ([(2, .ref 116), (0, .ref 0), (1, .int a1)]) rfl ?_
      refine r_aload_n rfl ?_
      refine r_nnr ?_
      refine At.enter rfl ?_
      refine r_aload_n rfl ?_
      refine q_getR (Sh.ref hI0.1 kx_0 rfl) ?_
      refine r_iload_n rfl ?_
      obtain ⟨v1810, hv1810⟩ : ∃ v, eA g0 173 a1.toInt = v := ⟨_, rfl⟩
      refine q_bald (Sh.arr hI0.1 ka_173) a1.toInt rfl (by omega) v1810 hv1810 ?_
      refine r_ifs 25 rfl (fun c1811 => ?_) (fun c1811 => ?_)
      · have c1811_ : v1810.toInt ≠ 0 := en_k_ne_t c1811
        refine At.enter rfl ?_
        refine r_aload_n rfl ?_
        refine q_getR (Sh.ref hI0.1 kx_0 rfl) ?_
        refine r_aload_n rfl ?_
        refine q_inlV 40 rfl [.ref 1, .ref 116] [] (Nat.le_of_ble_eq_true rfl) rfl ?_
        refine Ev.mk rfl rfl ⟨Nat.le_of_ble_eq_true rfl, Or.inr (q_rc hI0.1 kx_1 rfl)⟩ ?_
        show At _ none _ _ (0, [(0, .ref 1), (1, .ref 116)], [], (_, _)) _
        refine At.enter rfl ?_
        refine r_aload_n rfl ?_
        refine r_aload_n rfl ?_
        obtain ⟨v1812, hv1812⟩ : ∃ v, gI g0 116 0 = v := ⟨_, rfl⟩
        have rv1812 := RgF.at hI0.2.1 (p := 116) (b := 0) rfl
        rw [hv1812] at rv1812
        dsimp only at rv1812
        refine q_getI (Sh.int hI0.1 kx_116 rfl) v1812 hv1812 ?_
        refine q_putI (Sh.int hI0.1 kx_1 rfl) rfl ?_
        have hI1813 := HI.wI1 hI0 kx_1 rfl (p := 1) (b := 0) (v := v1812) rfl (by dsimp only; omega)
        have hF1814 := Fr.wI (p := 1) (b := 0) (v := v1812) hF0 rfl
        refine r_aload_n rfl ?_
        refine q_getR (Sh.ref hI1813.1 kx_116 rfl) ?_
        refine r_iconst 0 rfl ?_
        refine r_aload_n rfl ?_
        refine q_getR (Sh.ref hI1813.1 kx_1 rfl) ?_
        refine r_iconst 0 rfl ?_
        refine r_bipush 12 rfl ?_
        have zv1815 : (0 : Int32).toInt = 0 := rfl
        have zv1816 : (0 : Int32).toInt = 0 := rfl
        have zv1817 : (12 : Int32).toInt = 12 := rfl
        refine q_cpy rfl (Nat.le_of_ble_eq_true rfl) (Sh.arr hI1813.1 ka_117) (Sh.arr hI1813.1 ka_2) ⟨by omega, by omega, by omega, by omega, by omega⟩ ?_
        have hI1818 := HI.cpy0 hI1813 ka_117 ka_2 rfl rfl ((0 : Int32).toInt.toNat) ((0 : Int32).toInt.toNat) ((12 : Int32).toInt.toNat) (by omega) (by omega)
        have hF1819 := Fr.cpy (p0 := 117) (p1 := 2) hF1814 rfl ((0 : Int32).toInt.toNat) ((0 : Int32).toInt.toNat) ((12 : Int32).toInt.toNat)
        refine r_aload_n rfl ?_
        refine q_getR (Sh.ref hI1818.1 kx_116 rfl) ?_
        refine r_iconst 0 rfl ?_
        refine r_aload_n rfl ?_
        refine q_getR (Sh.ref hI1818.1 kx_1 rfl) ?_
        refine r_iconst 0 rfl ?_
        refine r_bipush 12 rfl ?_
        have zv1820 : (0 : Int32).toInt = 0 := rfl
        have zv1821 : (0 : Int32).toInt = 0 := rfl
        have zv1822 : (12 : Int32).toInt = 12 := rfl
        refine q_cpy rfl (Nat.le_of_ble_eq_true rfl) (Sh.arr hI1818.1 ka_118) (Sh.arr hI1818.1 ka_3) ⟨by omega, by omega, by omega, by omega, by omega⟩ ?_
        have hI1823 := HI.cpy0 hI1818 ka_118 ka_3 rfl rfl ((0 : Int32).toInt.toNat) ((0 : Int32).toInt.toNat) ((12 : Int32).toInt.toNat) (by omega) (by omega)
        have hF1824 := Fr.cpy (p0 := 118) (p1 := 3) hF1819 rfl ((0 : Int32).toInt.toNat) ((0 : Int32).toInt.toNat) ((12 : Int32).toInt.toNat)
        refine r_aload_n rfl ?_
        refine q_getR (Sh.ref hI1823.1 kx_116 rfl) ?_
        refine r_iconst 0 rfl ?_
        refine r_aload_n rfl ?_
        refine q_getR (Sh.ref hI1823.1 kx_1 rfl) ?_
        refine r_iconst 0 rfl ?_
        refine r_bipush 12 rfl ?_
        have zv1825 : (0 : Int32).toInt = 0 := rfl
        have zv1826 : (0 : Int32).toInt = 0 := rfl
        have zv1827 : (12 : Int32).toInt = 12 := rfl
        refine q_cpy rfl (Nat.le_of_ble_eq_true rfl) (Sh.arr hI1823.1 ka_119) (Sh.arr hI1823.1 ka_4) ⟨by omega, by omega, by omega, by omega, by omega⟩ ?_
        have hI1828 := HI.cpy0 hI1823 ka_119 ka_4 rfl rfl ((0 : Int32).toInt.toNat) ((0 : Int32).toInt.toNat) ((12 : Int32).toInt.toNat) (by omega) (by omega)
        have hF1829 := Fr.cpy (p0 := 119) (p1 := 4) hF1824 rfl ((0 : Int32).toInt.toNat) ((0 : Int32).toInt.toNat) ((12 : Int32).toInt.toNat)
        refine r_aload_n rfl ?_
        refine r_aload_n rfl ?_
        obtain ⟨v1830, hv1830⟩ : ∃ v, gI g0 116 4 = v := ⟨_, rfl⟩
        have rv1830 := RgF.at hI0.2.1 (p := 116) (b := 4) rfl
        rw [hv1830] at rv1830
        dsimp only at rv1830
        refine q_getI (Sh.int hI1828.1 kx_116 rfl) v1830 (((gI_sW).trans ((gI_sW).trans ((gI_sW).trans (gI_sI_ne (by decide))))).trans hv1830) ?_
        refine q_putI (Sh.int hI1828.1 kx_1 rfl) rfl ?_
        have hI1831 := HI.wI1 hI1828 kx_1 rfl (p := 1) (b := 4) (v := v1830) rfl (by dsimp only; omega)
        have hF1832 := Fr.wI (p := 1) (b := 4) (v := v1830) hF1829 rfl
        refine r_aload_n rfl ?_
        refine q_getR (Sh.ref hI1831.1 kx_116 rfl) ?_
        refine r_iconst 0 rfl ?_
        refine r_aload_n rfl ?_
        refine q_getR (Sh.ref hI1831.1 kx_1 rfl) ?_
        refine r_iconst 0 rfl ?_
        refine r_bipush 48 rfl ?_
        have zv1833 : (0 : Int32).toInt = 0 := rfl
        have zv1834 : (0 : Int32).toInt = 0 := rfl
        have zv1835 : (48 : Int32).toInt = 48 := rfl
        refine q_cpy rfl (Nat.le_of_ble_eq_true rfl) (Sh.arr hI1831.1 ka_120) (Sh.arr hI1831.1 ka_5) ⟨by omega, by omega, by omega, by omega, by omega⟩ ?_
        have hI1836 := HI.cpy0 hI1831 ka_120 ka_5 rfl rfl ((0 : Int32).toInt.toNat) ((0 : Int32).toInt.toNat) ((48 : Int32).toInt.toNat) (by omega) (by omega)
        have hF1837 := Fr.cpy (p0 := 120) (p1 := 5) hF1832 rfl ((0 : Int32).toInt.toNat) ((0 : Int32).toInt.toNat) ((48 : Int32).toInt.toNat)
        refine r_aload_n rfl ?_
        refine r_aload_n rfl ?_
        obtain ⟨v1838, hv1838⟩ : ∃ v, gI g0 116 6 = v := ⟨_, rfl⟩
        have rv1838 := RgF.at hI0.2.1 (p := 116) (b := 6) rfl
        rw [hv1838] at rv1838
        dsimp only at rv1838
        refine q_getI (Sh.int hI1836.1 kx_116 rfl) v1838 (((gI_sW).trans ((gI_sI_ne (by decide)).trans ((gI_sW).trans ((gI_sW).trans ((gI_sW).trans (gI_sI_ne (by decide))))))).trans hv1838) ?_
        refine q_putI (Sh.int hI1836.1 kx_1 rfl) rfl ?_
        have hI1839 := HI.wI1 hI1836 kx_1 rfl (p := 1) (b := 6) (v := v1838) rfl (by dsimp only; omega)
        have hF1840 := Fr.wI (p := 1) (b := 6) (v := v1838) hF1837 rfl
        refine r_iconst 0 rfl ?_
        refine r_istore_n ([(2, .int 0), (0, .ref 1), (1, .ref 116)]) rfl ?_
        refine Ar.fall 86 rfl ?_
        have z_2074 : (0 : Int32).toInt = 0 := rfl
        refine w_loopI (fun n_ l_ g_ => ∃ x2055 : Int32, n_ = 6 - x2055.toInt ∧ HI g_ ∧ Fr F_X10_back_0 A_X10_back_0 g0 g_ ∧ gI g_ 1 0 = v1812 ∧ gI g_ 1 4 = v1830 ∧ en_get 0 l_ = some (.ref 1) ∧ en_get 1 l_ = some (.ref 116) ∧ en_get 2 l_ = some (.int x2055) ∧ (0 ≤ x2055.toInt ∧ x2055.toInt ≤ 6) ∧ (∀ i : Int, 0 ≤ i → i < 12 → (eA g_ 2 (i)).toInt = (eA g0 117 (i)).toInt) ∧ (∀ i : Int, 0 ≤ i → i < 12 → (eA g_ 3 (i)).toInt = (eA g0 118 (i)).toInt) ∧ (∀ i : Int, 0 ≤ i → i < 12 → (eA g_ 4 (i)).toInt = (eA g0 119 (i)).toInt) ∧ (∀ i : Int, 0 ≤ i → i < 8 → (eA g_ 14 (i)).toInt = (eA g0 14 (i)).toInt) ∧ (∀ i : Int, 0 ≤ i → i < 8 → (eA g_ 15 (i)).toInt = (eA g0 15 (i)).toInt) ∧ (∀ i : Int, 0 ≤ i → i < 48 → (eA g_ 5 (i)).toInt = (eA g0 120 (i)).toInt)) ?_ (6 - 0) ⟨0, by first | rfl | omega, hI1839, hF1840, ((gI_sI_ne (by decide)).trans ((gI_sW).trans ((gI_sI_ne (by decide)).trans ((gI_sW).trans ((gI_sW).trans ((gI_sW).trans (gI_sI_eq hI0.1 kx_1 rfl _))))))), ((gI_sI_ne (by decide)).trans ((gI_sW).trans (gI_sI_eq hI1828.1 kx_1 rfl _))), rfl, rfl, rfl, by decide, (by intro i i0 i1; refine (eA_tq (((gA_sI).trans ((gA_sW_ne (by decide)).trans ((gA_sI).trans ((gA_sW_ne (by decide)).trans ((gA_sW_ne (by decide)).trans ((gA_cpF hI1813.1 ka_117 ka_2 (by decide) (by decide) (by decide)).trans (gA_sI))))))))).trans ?_; (first | rfl | exact eA_ix (by omega) | omega)), (by intro i i0 i1; refine (eA_tq (((gA_sI).trans ((gA_sW_ne (by decide)).trans ((gA_sI).trans ((gA_sW_ne (by decide)).trans ((gA_cpF hI1818.1 ka_118 ka_3 (by decide) (by decide) (by decide)).trans ((gA_sW_ne (by decide)).trans (gA_sI))))))))).trans ?_; (first | rfl | exact eA_ix (by omega) | omega)), (by intro i i0 i1; refine (eA_tq (((gA_sI).trans ((gA_sW_ne (by decide)).trans ((gA_sI).trans ((gA_cpF hI1823.1 ka_119 ka_4 (by decide) (by decide) (by decide)).trans ((gA_sW_ne (by decide)).trans ((gA_sW_ne (by decide)).trans (gA_sI))))))))).trans ?_; (first | rfl | exact eA_ix (by omega) | omega)), (by intro i i0 i1; refine (eA_ti (((gA_sI).trans ((gA_sW_ne (by decide)).trans ((gA_sI).trans ((gA_sW_ne (by decide)).trans ((gA_sW_ne (by decide)).trans ((gA_sW_ne (by decide)).trans (gA_sI))))))))).trans ?_; (first | rfl | exact eA_ix (by omega) | omega)), (by intro i i0 i1; refine (eA_ti (((gA_sI).trans ((gA_sW_ne (by decide)).trans ((gA_sI).trans ((gA_sW_ne (by decide)).trans ((gA_sW_ne (by decide)).trans ((gA_sW_ne (by decide)).trans (gA_sI))))))))).trans ?_; (first | rfl | exact eA_ix (by omega) | omega)), (by intro i i0 i1; refine (eA_tq (((gA_sI).trans ((gA_cpF hI1831.1 ka_120 ka_5 (by decide) (by decide) (by decide)).trans ((gA_sI).trans ((gA_sW_ne (by decide)).trans ((gA_sW_ne (by decide)).trans ((gA_sW_ne (by decide)).trans (gA_sI))))))))).trans ?_; (first | rfl | exact eA_ix (by omega) | omega))⟩
        rintro n2060 l2059 g2056 ⟨x2055, hm2075, hI2057, hF2058, e2062, e2063, e2064, e2065, e2066, r2067, q2068, q2069, q2070, q2071, q2072, q2073⟩ ih2061
        have tv2076 := congrArg Int32.toInt e2062
        have tv2077 := congrArg Int32.toInt e2063
        refine At.enter rfl ?_
        refine r_iload_n e2066 ?_
        refine r_bipush 6 rfl ?_
        refine r_ics 92 rfl (fun c2078 => ?_) (fun c2078 => ?_)
        · have c2078_ : x2055.toInt ≥ 6 := en_i_ge_t c2078
          refine At.enter rfl ?_
          refine r_aload_n e2064 ?_
          refine r_aload_n e2065 ?_
          obtain ⟨v2079, hv2079⟩ : ∃ v, gI g0 116 9 = v := ⟨_, rfl⟩
          refine q_getI (Sh.int hI2057.1 kx_116 rfl) v2079 ((hF2058.1 116 9 (by decide)).trans hv2079) ?_
          refine q_putI (Sh.int hI2057.1 kx_1 rfl) rfl ?_
          have hI2080 := HI.wI0 hI2057 kx_1 rfl (p := 1) (b := 9) (v := v2079) rfl
          have hF2081 := Fr.wI (p := 1) (b := 9) (v := v2079) hF2058 rfl
          refine r_aload_n e2064 ?_
          refine r_aload_n e2065 ?_
          obtain ⟨v2082, hv2082⟩ : ∃ v, gI g0 116 10 = v := ⟨_, rfl⟩
          refine q_getI (Sh.int hI2080.1 kx_116 rfl) v2082 (((gI_sI_ne (by decide)).trans (hF2058.1 116 10 (by decide))).trans hv2082) ?_
          refine q_putI (Sh.int hI2080.1 kx_1 rfl) rfl ?_
          have hI2083 := HI.wI0 hI2080 kx_1 rfl (p := 1) (b := 10) (v := v2082) rfl
          have hF2084 := Fr.wI (p := 1) (b := 10) (v := v2082) hF2081 rfl
          refine r_aload_n e2064 ?_
          refine r_aload_n e2065 ?_
          obtain ⟨v2085, hv2085⟩ : ∃ v, gI g0 116 11 = v := ⟨_, rfl⟩
          refine q_getI (Sh.int hI2083.1 kx_116 rfl) v2085 (((gI_sI_ne (by decide)).trans ((gI_sI_ne (by decide)).trans (hF2058.1 116 11 (by decide)))).trans hv2085) ?_
          refine q_putI (Sh.int hI2083.1 kx_1 rfl) rfl ?_
          have hI2086 := HI.wI0 hI2083 kx_1 rfl (p := 1) (b := 11) (v := v2085) rfl
          have hF2087 := Fr.wI (p := 1) (b := 11) (v := v2085) hF2084 rfl
          refine r_aload_n e2064 ?_
          refine r_aload_n e2065 ?_
          obtain ⟨v2088, hv2088⟩ : ∃ v, gI g0 116 12 = v := ⟨_, rfl⟩
          have rv2088 := RgF.at hI0.2.1 (p := 116) (b := 12) rfl
          rw [hv2088] at rv2088
          dsimp only at rv2088
          refine q_getI (Sh.int hI2086.1 kx_116 rfl) v2088 (((gI_sI_ne (by decide)).trans ((gI_sI_ne (by decide)).trans ((gI_sI_ne (by decide)).trans (hF2058.1 116 12 (by decide))))).trans hv2088) ?_
          refine q_putI (Sh.int hI2086.1 kx_1 rfl) rfl ?_
          have hI2089 := HI.wI1 hI2086 kx_1 rfl (p := 1) (b := 12) (v := v2088) rfl (by dsimp only; omega)
          have hF2090 := Fr.wI (p := 1) (b := 12) (v := v2088) hF2087 rfl
          refine r_aload_n e2065 ?_
          refine q_getR (Sh.ref hI2089.1 kx_116 rfl) ?_
          refine r_iconst 0 rfl ?_
          refine r_aload_n e2064 ?_
          refine q_getR (Sh.ref hI2089.1 kx_1 rfl) ?_
          refine r_iconst 0 rfl ?_
          refine r_bipush 8 rfl ?_
          have zv2091 : (0 : Int32).toInt = 0 := rfl
          have zv2092 : (0 : Int32).toInt = 0 := rfl
          have zv2093 : (8 : Int32).toInt = 8 := rfl
          refine q_cpy rfl (Nat.le_of_ble_eq_true rfl) (Sh.arr hI2089.1 ka_129) (Sh.arr hI2089.1 ka_14) ⟨by omega, by omega, by omega, by omega, by omega⟩ ?_
          have hI2094 := HI.cpy0 hI2089 ka_129 ka_14 rfl rfl ((0 : Int32).toInt.toNat) ((0 : Int32).toInt.toNat) ((8 : Int32).toInt.toNat) (by omega) (by omega)
          have hF2095 := Fr.cpy (p0 := 129) (p1 := 14) hF2090 rfl ((0 : Int32).toInt.toNat) ((0 : Int32).toInt.toNat) ((8 : Int32).toInt.toNat)
          refine r_aload_n e2065 ?_
          refine q_getR (Sh.ref hI2094.1 kx_116 rfl) ?_
          refine r_iconst 0 rfl ?_
          refine r_aload_n e2064 ?_
          refine q_getR (Sh.ref hI2094.1 kx_1 rfl) ?_
          refine r_iconst 0 rfl ?_
          refine r_bipush 8 rfl ?_
          have zv2096 : (0 : Int32).toInt = 0 := rfl
          have zv2097 : (0 : Int32).toInt = 0 := rfl
          have zv2098 : (8 : Int32).toInt = 8 := rfl
          refine q_cpy rfl (Nat.le_of_ble_eq_true rfl) (Sh.arr hI2094.1 ka_130) (Sh.arr hI2094.1 ka_15) ⟨by omega, by omega, by omega, by omega, by omega⟩ ?_
          have hI2099 := HI.cpy0 hI2094 ka_130 ka_15 rfl rfl ((0 : Int32).toInt.toNat) ((0 : Int32).toInt.toNat) ((8 : Int32).toInt.toNat) (by omega) (by omega)
          have hF2100 := Fr.cpy (p0 := 130) (p1 := 15) hF2095 rfl ((0 : Int32).toInt.toNat) ((0 : Int32).toInt.toNat) ((8 : Int32).toInt.toNat)
          refine q_vret ?_
          refine At.enter rfl ?_
          refine r_aload_n rfl ?_
          refine r_callV 44 rfl [.ref 0] [] (Nat.le_of_ble_eq_true rfl) rfl (T_X10_changed_0 _ hI2099) ?_
          rintro _ _ ⟨g2101, rfl, hI2102, hF2103, rfl⟩
          refine At.stn ?_
          have hF2106 := Fr.tr hF2100 hF2103 rfl rfl
          refine At.enter rfl ?_
          refine r_aload_n rfl ?_
          refine r_iconst 0 rfl ?_
          refine q_inlV 49 rfl [.ref 0, .int 0] [] (Nat.le_of_ble_eq_true rfl) rfl ?_
          refine Ev.mk rfl rfl ⟨Nat.le_of_ble_eq_true rfl, Or.inr (q_rc hI2102.1 kx_0 rfl)⟩ ?_
          show At _ none _ _ (0, [(0, .ref 0), (1, .int 0)], [], (_, _)) _
          refine At.enter rfl ?_
          refine r_aload_n rfl ?_
          refine r_iconst 0 rfl ?_
          refine q_putI (Sh.int hI2102.1 kx_0 rfl) rfl ?_
          have hI2107 := HI.wI0 hI2102 kx_0 rfl (p := 0) (b := 17) (v := 0) rfl
          have hF2108 := Fr.wI (p := 0) (b := 17) (v := 0) hF2106 rfl
          refine r_iload_n rfl ?_
          refine q_ireti ?_
          refine At.enter rfl ?_
          refine r_ireti ?_
          have zv2109 : (0 : Int32).toInt = 0 := rfl
          have e : a1.toInt = 1 := by omega
          have k2110_ : (eA g0 173 1).toInt = v1810.toInt := by rw [← hv1810, e]
          have k2110 : (eA g0 173 1).toInt ≠ 0 := by omega
          obtain ⟨v2111, hv2111⟩ : ∃ v, eA g0 173 0 = v := ⟨_, rfl⟩
          have tv2111 := congrArg Int32.toInt hv2111
          have x2112 := HI.eqA hI0 (p := 173) (j := 0) (hv2111)
          obtain ⟨v2113, hv2113⟩ : ∃ v, eA g0 173 1 = v := ⟨_, rfl⟩
          have tv2113 := congrArg Int32.toInt hv2113
          have x2114 := HI.eqA hI0 (p := 173) (j := 1) (hv2113)
          have y2115 : (eA g0 173 1).toInt = v1810.toInt := by rw [← hv1810, show a1.toInt = 1 by omega]
          exact ⟨_, rfl, hI2107, hF2108, _, rfl, by decide, ⟨⟨(fun h => absurd (e.symm.trans h.1) (by decide)), (fun _ => ⟨(by first | rfl | decide), (HI.eqI hI2107 (p := 1) (b := 0) ((((gI_sI_ne (by decide)).trans ((hF2103.1 1 0 (by decide)).trans ((gI_sW).trans ((gI_sW).trans ((gI_sI_ne (by decide)).trans ((gI_sI_ne (by decide)).trans ((gI_sI_ne (by decide)).trans (gI_sI_ne (by decide))))))))).trans e2062))).trans (HI.eqI hI0 (p := 116) (b := 0) (hv1812)).symm, (HI.eqI hI2107 (p := 1) (b := 12) (((gI_sI_ne (by decide)).trans ((hF2103.1 1 12 (by decide)).trans ((gI_sW).trans ((gI_sW).trans (gI_sI_eq hI2086.1 kx_1 rfl _))))))).trans (HI.eqI hI0 (p := 116) (b := 12) (hv2088)).symm, (HI.eqI hI2107 (p := 1) (b := 10) (((gI_sI_ne (by decide)).trans ((hF2103.1 1 10 (by decide)).trans ((gI_sW).trans ((gI_sW).trans ((gI_sI_ne (by decide)).trans ((gI_sI_ne (by decide)).trans (gI_sI_eq hI2080.1 kx_1 rfl _))))))))).trans (HI.eqI hI0 (p := 116) (b := 10) (hv2082)).symm, (HI.eqI hI2107 (p := 1) (b := 11) (((gI_sI_ne (by decide)).trans ((hF2103.1 1 11 (by decide)).trans ((gI_sW).trans ((gI_sW).trans ((gI_sI_ne (by decide)).trans (gI_sI_eq hI2083.1 kx_1 rfl _)))))))).trans (HI.eqI hI0 (p := 116) (b := 11) (hv2085)).symm, (HI.eqI hI2107 (p := 1) (b := 4) ((((gI_sI_ne (by decide)).trans ((hF2103.1 1 4 (by decide)).trans ((gI_sW).trans ((gI_sW).trans ((gI_sI_ne (by decide)).trans ((gI_sI_ne (by decide)).trans ((gI_sI_ne (by decide)).trans (gI_sI_ne (by decide))))))))).trans e2063))).trans (HI.eqI hI0 (p := 116) (b := 4) (hv1830)).symm⟩), (fun h => absurd ⟨e, k2110⟩ h.2), (fun h => False.elim (by omega)), (fun h => absurd ⟨e, k2110⟩ h.2.2.2)⟩, (by intro i i0 i1; exact (Decidable.em (a1.toInt = 0 ∧ (eA g0 173 0).toInt ≠ 0)).elim (fun k148_ => by refine Eq.trans ?_ (if_pos k148_).symm; refine (eA_ti (((gA_sI).trans ((hF2103.2.1 2 (by decide)).trans ((gA_sW_ne (by decide)).trans ((gA_sW_ne (by decide)).trans ((gA_sI).trans ((gA_sI).trans ((gA_sI).trans (gA_sI)))))))))).trans ?_; refine ((q2068 (i) (by omega) (by omega))).trans ?_; (first | rfl | exact eA_ix (by omega) | omega)) (fun k148_ => by refine Eq.trans ?_ (if_neg k148_).symm; exact (Decidable.em (a1.toInt = 1 ∧ (eA g0 173 1).toInt ≠ 0)).elim (fun k149_ => by refine Eq.trans ?_ (if_pos k149_).symm; refine (eA_ti (((gA_sI).trans ((hF2103.2.1 2 (by decide)).trans ((gA_sW_ne (by decide)).trans ((gA_sW_ne (by decide)).trans ((gA_sI).trans ((gA_sI).trans ((gA_sI).trans (gA_sI)))))))))).trans ?_; refine ((q2068 (i) (by omega) (by omega))).trans ?_; (first | rfl | exact eA_ix (by omega) | omega)) (fun k149_ => by refine Eq.trans ?_ (if_neg k149_).symm; refine (eA_ti (((gA_sI).trans ((hF2103.2.1 2 (by decide)).trans ((gA_sW_ne (by decide)).trans ((gA_sW_ne (by decide)).trans ((gA_sI).trans ((gA_sI).trans ((gA_sI).trans (gA_sI)))))))))).trans ?_; refine ((q2068 (i) (by omega) (by omega))).trans ?_; (first | rfl | exact eA_ix (by omega) | omega)))), (by intro i i0 i1; exact (Decidable.em (a1.toInt = 0 ∧ (eA g0 173 0).toInt ≠ 0)).elim (fun k150_ => by refine Eq.trans ?_ (if_pos k150_).symm; refine (eA_ti (((gA_sI).trans ((hF2103.2.1 3 (by decide)).trans ((gA_sW_ne (by decide)).trans ((gA_sW_ne (by decide)).trans ((gA_sI).trans ((gA_sI).trans ((gA_sI).trans (gA_sI)))))))))).trans ?_; refine ((q2069 (i) (by omega) (by omega))).trans ?_; (first | rfl | exact eA_ix (by omega) | omega)) (fun k150_ => by refine Eq.trans ?_ (if_neg k150_).symm; exact (Decidable.em (a1.toInt = 1 ∧ (eA g0 173 1).toInt ≠ 0)).elim (fun k151_ => by refine Eq.trans ?_ (if_pos k151_).symm; refine (eA_ti (((gA_sI).trans ((hF2103.2.1 3 (by decide)).trans ((gA_sW_ne (by decide)).trans ((gA_sW_ne (by decide)).trans ((gA_sI).trans ((gA_sI).trans ((gA_sI).trans (gA_sI)))))))))).trans ?_; refine ((q2069 (i) (by omega) (by omega))).trans ?_; (first | rfl | exact eA_ix (by omega) | omega)) (fun k151_ => by refine Eq.trans ?_ (if_neg k151_).symm; refine (eA_ti (((gA_sI).trans ((hF2103.2.1 3 (by decide)).trans ((gA_sW_ne (by decide)).trans ((gA_sW_ne (by decide)).trans ((gA_sI).trans ((gA_sI).trans ((gA_sI).trans (gA_sI)))))))))).trans ?_; refine ((q2069 (i) (by omega) (by omega))).trans ?_; (first | rfl | exact eA_ix (by omega) | omega)))), (by intro i i0 i1; exact (Decidable.em (a1.toInt = 0 ∧ (eA g0 173 0).toInt ≠ 0)).elim (fun k152_ => by refine Eq.trans ?_ (if_pos k152_).symm; refine (eA_ti (((gA_sI).trans ((hF2103.2.1 4 (by decide)).trans ((gA_sW_ne (by decide)).trans ((gA_sW_ne (by decide)).trans ((gA_sI).trans ((gA_sI).trans ((gA_sI).trans (gA_sI)))))))))).trans ?_; refine ((q2070 (i) (by omega) (by omega))).trans ?_; (first | rfl | exact eA_ix (by omega) | omega)) (fun k152_ => by refine Eq.trans ?_ (if_neg k152_).symm; exact (Decidable.em (a1.toInt = 1 ∧ (eA g0 173 1).toInt ≠ 0)).elim (fun k153_ => by refine Eq.trans ?_ (if_pos k153_).symm; refine (eA_ti (((gA_sI).trans ((hF2103.2.1 4 (by decide)).trans ((gA_sW_ne (by decide)).trans ((gA_sW_ne (by decide)).trans ((gA_sI).trans ((gA_sI).trans ((gA_sI).trans (gA_sI)))))))))).trans ?_; refine ((q2070 (i) (by omega) (by omega))).trans ?_; (first | rfl | exact eA_ix (by omega) | omega)) (fun k153_ => by refine Eq.trans ?_ (if_neg k153_).symm; refine (eA_ti (((gA_sI).trans ((hF2103.2.1 4 (by decide)).trans ((gA_sW_ne (by decide)).trans ((gA_sW_ne (by decide)).trans ((gA_sI).trans ((gA_sI).trans ((gA_sI).trans (gA_sI)))))))))).trans ?_; refine ((q2070 (i) (by omega) (by omega))).trans ?_; (first | rfl | exact eA_ix (by omega) | omega)))), (by intro i i0 i1; exact (Decidable.em (a1.toInt = 0 ∧ (eA g0 173 0).toInt ≠ 0)).elim (fun k154_ => by refine Eq.trans ?_ (if_pos k154_).symm; refine (eA_tq (((gA_sI).trans ((hF2103.2.1 14 (by decide)).trans ((gA_sW_ne (by decide)).trans ((gA_cpF hI2089.1 ka_129 ka_14 (by decide) (by decide) (by decide)).trans ((gA_sI).trans ((gA_sI).trans ((gA_sI).trans ((gA_sI).trans (hF2058.2.1 129 (by decide)))))))))))).trans ?_; (first | rfl | exact eA_ix (by omega) | omega)) (fun k154_ => by refine Eq.trans ?_ (if_neg k154_).symm; exact (Decidable.em (a1.toInt = 1 ∧ (eA g0 173 1).toInt ≠ 0)).elim (fun k155_ => by refine Eq.trans ?_ (if_pos k155_).symm; refine (eA_tq (((gA_sI).trans ((hF2103.2.1 14 (by decide)).trans ((gA_sW_ne (by decide)).trans ((gA_cpF hI2089.1 ka_129 ka_14 (by decide) (by decide) (by decide)).trans ((gA_sI).trans ((gA_sI).trans ((gA_sI).trans ((gA_sI).trans (hF2058.2.1 129 (by decide)))))))))))).trans ?_; (first | rfl | exact eA_ix (by omega) | omega)) (fun k155_ => by refine Eq.trans ?_ (if_neg k155_).symm; refine (eA_tq (((gA_sI).trans ((hF2103.2.1 14 (by decide)).trans ((gA_sW_ne (by decide)).trans ((gA_cpF hI2089.1 ka_129 ka_14 (by decide) (by decide) (by decide)).trans ((gA_sI).trans ((gA_sI).trans ((gA_sI).trans ((gA_sI).trans (hF2058.2.1 129 (by decide)))))))))))).trans ?_; (first | rfl | exact eA_ix (by omega) | omega)))), (by intro i i0 i1; exact (Decidable.em (a1.toInt = 0 ∧ (eA g0 173 0).toInt ≠ 0)).elim (fun k156_ => by refine Eq.trans ?_ (if_pos k156_).symm; refine (eA_tq (((gA_sI).trans ((hF2103.2.1 15 (by decide)).trans ((gA_cpF hI2094.1 ka_130 ka_15 (by decide) (by decide) (by decide)).trans ((gA_sW_ne (by decide)).trans ((gA_sI).trans ((gA_sI).trans ((gA_sI).trans ((gA_sI).trans (hF2058.2.1 130 (by decide)))))))))))).trans ?_; (first | rfl | exact eA_ix (by omega) | omega)) (fun k156_ => by refine Eq.trans ?_ (if_neg k156_).symm; exact (Decidable.em (a1.toInt = 1 ∧ (eA g0 173 1).toInt ≠ 0)).elim (fun k157_ => by refine Eq.trans ?_ (if_pos k157_).symm; refine (eA_tq (((gA_sI).trans ((hF2103.2.1 15 (by decide)).trans ((gA_cpF hI2094.1 ka_130 ka_15 (by decide) (by decide) (by decide)).trans ((gA_sW_ne (by decide)).trans ((gA_sI).trans ((gA_sI).trans ((gA_sI).trans ((gA_sI).trans (hF2058.2.1 130 (by decide)))))))))))).trans ?_; (first | rfl | exact eA_ix (by omega) | omega)) (fun k157_ => by refine Eq.trans ?_ (if_neg k157_).symm; refine (eA_tq (((gA_sI).trans ((hF2103.2.1 15 (by decide)).trans ((gA_cpF hI2094.1 ka_130 ka_15 (by decide) (by decide) (by decide)).trans ((gA_sW_ne (by decide)).trans ((gA_sI).trans ((gA_sI).trans ((gA_sI).trans ((gA_sI).trans (hF2058.2.1 130 (by decide)))))))))))).trans ?_; (first | rfl | exact eA_ix (by omega) | omega)))), (by intro i i0 i1; exact (Decidable.em (a1.toInt = 0 ∧ (eA g0 173 0).toInt ≠ 0)).elim (fun k158_ => by refine Eq.trans ?_ (if_pos k158_).symm; refine (eA_ti (((gA_sI).trans ((hF2103.2.1 5 (by decide)).trans ((gA_sW_ne (by decide)).trans ((gA_sW_ne (by decide)).trans ((gA_sI).trans ((gA_sI).trans ((gA_sI).trans (gA_sI)))))))))).trans ?_; refine ((q2073 (i) (by omega) (by omega))).trans ?_; (first | rfl | exact eA_ix (by omega) | omega)) (fun k158_ => by refine Eq.trans ?_ (if_neg k158_).symm; exact (Decidable.em (a1.toInt = 1 ∧ (eA g0 173 1).toInt ≠ 0)).elim (fun k159_ => by refine Eq.trans ?_ (if_pos k159_).symm; refine (eA_ti (((gA_sI).trans ((hF2103.2.1 5 (by decide)).trans ((gA_sW_ne (by decide)).trans ((gA_sW_ne (by decide)).trans ((gA_sI).trans ((gA_sI).trans ((gA_sI).trans (gA_sI)))))))))).trans ?_; refine ((q2073 (i) (by omega) (by omega))).trans ?_; (first | rfl | exact eA_ix (by omega) | omega)) (fun k159_ => by refine Eq.trans ?_ (if_neg k159_).symm; refine (eA_ti (((gA_sI).trans ((hF2103.2.1 5 (by decide)).trans ((gA_sW_ne (by decide)).trans ((gA_sW_ne (by decide)).trans ((gA_sI).trans ((gA_sI).trans ((gA_sI).trans (gA_sI)))))))))).trans ?_; refine ((q2073 (i) (by omega) (by omega))).trans ?_; (first | rfl | exact eA_ix (by omega) | omega))))⟩⟩
        · have c2078_ : x2055.toInt < 6 := en_i_ge_f c2078
          refine At.enter rfl ?_
          refine r_aload_n e2064 ?_
          refine r_iload_n e2066 ?_
          refine r_callV 97 rfl [.ref 1, .int x2055] [] (Nat.le_of_ble_eq_true rfl) rfl (T_X0_lawAt_1 _ hI2057 x2055) ?_
          rintro _ _ ⟨g2116, rfl, hI2117, hF2118, v2119, rfl, hr2120⟩
          refine At.str ?_
          have hF2121 := Fr.tr hF2058 hF2118 rfl rfl
          refine At.enter rfl ?_
          refine r_aload_n e2065 ?_
          refine r_iload_n e2066 ?_
          refine r_callV 102 rfl [.ref 116, .int x2055] [.ref (v2119)] (Nat.le_of_ble_eq_true rfl) rfl (T_X0_lawAt_116 _ hI2117 x2055) ?_
          rintro _ _ ⟨g2122, rfl, hI2123, hF2124, v2125, rfl, hr2126⟩
          refine At.str ?_
          have hF2127 := Fr.tr hF2121 hF2124 rfl rfl
          refine At.enter rfl ?_
          refine r_callV 105 rfl [.ref (v2119), .ref (v2125)] [] (Nat.le_of_ble_eq_true rfl) rfl (T_X4_become_law _ hI2123 (v2119) hr2120 (v2125) hr2126) ?_
          rintro _ _ ⟨g2128, rfl, hI2129, hF2130, rfl⟩
          refine At.stn ?_
          have hF2133 := Fr.tr hF2127 hF2130 rfl rfl
          refine At.enter rfl ?_
          refine q_iinc e2066 (x2055.toInt + 1) rfl (by omega) (fun v2134 hv2134 => ?_)
          refine r_goto ?_
          exact ih2061 (6 - v2134.toInt) _ _ ⟨v2134, by first | rfl | omega, hI2129, hF2133, (((hF2130.1 1 0 (by decide)).trans ((hF2124.1 1 0 (by decide)).trans (hF2118.1 1 0 (by decide)))).trans e2062), (((hF2130.1 1 4 (by decide)).trans ((hF2124.1 1 4 (by decide)).trans (hF2118.1 1 4 (by decide)))).trans e2063), (w_p1 (by decide) (Or.inr rfl) e2064), (w_p1 (by decide) (Or.inr rfl) e2065), (w_e1 _ _ _), by omega, (by intro i i0 i1; refine (eA_ti (((hF2130.2.1 2 (by decide)).trans ((hF2124.2.1 2 (by decide)).trans (hF2118.2.1 2 (by decide)))))).trans ?_; refine ((q2068 (i) (by omega) (by omega))).trans ?_; (first | rfl | exact eA_ix (by omega) | omega)), (by intro i i0 i1; refine (eA_ti (((hF2130.2.1 3 (by decide)).trans ((hF2124.2.1 3 (by decide)).trans (hF2118.2.1 3 (by decide)))))).trans ?_; refine ((q2069 (i) (by omega) (by omega))).trans ?_; (first | rfl | exact eA_ix (by omega) | omega)), (by intro i i0 i1; refine (eA_ti (((hF2130.2.1 4 (by decide)).trans ((hF2124.2.1 4 (by decide)).trans (hF2118.2.1 4 (by decide)))))).trans ?_; refine ((q2070 (i) (by omega) (by omega))).trans ?_; (first | rfl | exact eA_ix (by omega) | omega)), (by intro i i0 i1; refine (eA_ti (((hF2130.2.1 14 (by decide)).trans ((hF2124.2.1 14 (by decide)).trans (hF2118.2.1 14 (by decide)))))).trans ?_; refine ((q2071 (i) (by omega) (by omega))).trans ?_; (first | rfl | exact eA_ix (by omega) | omega)), (by intro i i0 i1; refine (eA_ti (((hF2130.2.1 15 (by decide)).trans ((hF2124.2.1 15 (by decide)).trans (hF2118.2.1 15 (by decide)))))).trans ?_; refine ((q2072 (i) (by omega) (by omega))).trans ?_; (first | rfl | exact eA_ix (by omega) | omega)), (by intro i i0 i1; refine (eA_ti (((hF2130.2.1 5 (by decide)).trans ((hF2124.2.1 5 (by decide)).trans (hF2118.2.1 5 (by decide)))))).trans ?_; refine ((q2073 (i) (by omega) (by omega))).trans ?_; (first | rfl | exact eA_ix (by omega) | omega))⟩ ⟨by omega, by omega⟩
      · have c1811_ : v1810.toInt = 0 := en_k_ne_f c1811
        refine At.enter rfl ?_
        refine r_aload_n rfl ?_
        refine r_bipush (-2) rfl ?_
        refine r_callV 31 rfl [.ref 0, .int (-2)] [] (Nat.le_of_ble_eq_true rfl) rfl (T_X10_refused_0 _ hI0 (-2) (by decide)) ?_
        rintro _ _ ⟨g2135, rfl, hI2136, hF2137, v2138, rfl, hr2139⟩
        refine At.sti ?_
        have hF2140 := Fr.tr hF0 hF2137 rfl rfl
        have zv2141 : ((-2) : Int32).toInt = (-2) := rfl
        refine At.enter rfl ?_
        refine r_ireti ?_
        obtain ⟨v2142, hv2142⟩ : ∃ v, gI g0 1 0 = v := ⟨_, rfl⟩
        have rv2142 := RgF.at hI0.2.1 (p := 1) (b := 0) rfl
        rw [hv2142] at rv2142
        dsimp only at rv2142
        have tv2142 := congrArg Int32.toInt hv2142
        have x2143 := HI.eqI hI0 (p := 1) (b := 0) (hv2142)
        obtain ⟨v2144, hv2144⟩ : ∃ v, gI g0 1 12 = v := ⟨_, rfl⟩
        have rv2144 := RgF.at hI0.2.1 (p := 1) (b := 12) rfl
        rw [hv2144] at rv2144
        dsimp only at rv2144
        have tv2144 := congrArg Int32.toInt hv2144
        have x2145 := HI.eqI hI0 (p := 1) (b := 12) (hv2144)
        obtain ⟨v2146, hv2146⟩ : ∃ v, gI g0 1 10 = v := ⟨_, rfl⟩
        have tv2146 := congrArg Int32.toInt hv2146
        have x2147 := HI.eqI hI0 (p := 1) (b := 10) (hv2146)
        obtain ⟨v2148, hv2148⟩ : ∃ v, gI g0 1 11 = v := ⟨_, rfl⟩
        have tv2148 := congrArg Int32.toInt hv2148
        have x2149 := HI.eqI hI0 (p := 1) (b := 11) (hv2148)
        obtain ⟨v2150, hv2150⟩ : ∃ v, gI g0 1 4 = v := ⟨_, rfl⟩
        have rv2150 := RgF.at hI0.2.1 (p := 1) (b := 4) rfl
        rw [hv2150] at rv2150
        dsimp only at rv2150
        have tv2150 := congrArg Int32.toInt hv2150
        have x2151 := HI.eqI hI0 (p := 1) (b := 4) (hv2150)
        obtain ⟨v2152, hv2152⟩ : ∃ v, gI g0 59 0 = v := ⟨_, rfl⟩
        have rv2152 := RgF.at hI0.2.1 (p := 59) (b := 0) rfl
        rw [hv2152] at rv2152
        dsimp only at rv2152
        have tv2152 := congrArg Int32.toInt hv2152
        have x2153 := HI.eqI hI0 (p := 59) (b := 0) (hv2152)
        obtain ⟨v2154, hv2154⟩ : ∃ v, gI g0 59 12 = v := ⟨_, rfl⟩
        have rv2154 := RgF.at hI0.2.1 (p := 59) (b := 12) rfl
        rw [hv2154] at rv2154
        dsimp only at rv2154
        have tv2154 := congrArg Int32.toInt hv2154
        have x2155 := HI.eqI hI0 (p := 59) (b := 12) (hv2154)
        obtain ⟨v2156, hv2156⟩ : ∃ v, gI g0 59 10 = v := ⟨_, rfl⟩
        have tv2156 := congrArg Int32.toInt hv2156
        have x2157 := HI.eqI hI0 (p := 59) (b := 10) (hv2156)
        obtain ⟨v2158, hv2158⟩ : ∃ v, gI g0 59 11 = v := ⟨_, rfl⟩
        have tv2158 := congrArg Int32.toInt hv2158
        have x2159 := HI.eqI hI0 (p := 59) (b := 11) (hv2158)
        obtain ⟨v2160, hv2160⟩ : ∃ v, gI g0 59 4 = v := ⟨_, rfl⟩
        have rv2160 := RgF.at hI0.2.1 (p := 59) (b := 4) rfl
        rw [hv2160] at rv2160
        dsimp only at rv2160
        have tv2160 := congrArg Int32.toInt hv2160
        have x2161 := HI.eqI hI0 (p := 59) (b := 4) (hv2160)
        obtain ⟨v2162, hv2162⟩ : ∃ v, gI g0 116 0 = v := ⟨_, rfl⟩
        have rv2162 := RgF.at hI0.2.1 (p := 116) (b := 0) rfl
        rw [hv2162] at rv2162
        dsimp only at rv2162
        have tv2162 := congrArg Int32.toInt hv2162
        have x2163 := HI.eqI hI0 (p := 116) (b := 0) (hv2162)
        obtain ⟨v2164, hv2164⟩ : ∃ v, gI g0 116 12 = v := ⟨_, rfl⟩
        have rv2164 := RgF.at hI0.2.1 (p := 116) (b := 12) rfl
        rw [hv2164] at rv2164
        dsimp only at rv2164
        have tv2164 := congrArg Int32.toInt hv2164
        have x2165 := HI.eqI hI0 (p := 116) (b := 12) (hv2164)
        obtain ⟨v2166, hv2166⟩ : ∃ v, gI g0 116 10 = v := ⟨_, rfl⟩
        have tv2166 := congrArg Int32.toInt hv2166
        have x2167 := HI.eqI hI0 (p := 116) (b := 10) (hv2166)
        obtain ⟨v2168, hv2168⟩ : ∃ v, gI g0 116 11 = v := ⟨_, rfl⟩
        have tv2168 := congrArg Int32.toInt hv2168
        have x2169 := HI.eqI hI0 (p := 116) (b := 11) (hv2168)
        obtain ⟨v2170, hv2170⟩ : ∃ v, gI g0 116 4 = v := ⟨_, rfl⟩
        have rv2170 := RgF.at hI0.2.1 (p := 116) (b := 4) rfl
        rw [hv2170] at rv2170
        dsimp only at rv2170
        have tv2170 := congrArg Int32.toInt hv2170
        have x2171 := HI.eqI hI0 (p := 116) (b := 4) (hv2170)
        obtain ⟨v2172, hv2172⟩ : ∃ v, eA g0 173 0 = v := ⟨_, rfl⟩
        have tv2172 := congrArg Int32.toInt hv2172
        have x2173 := HI.eqA hI0 (p := 173) (j := 0) (hv2172)
        obtain ⟨v2174, hv2174⟩ : ∃ v, eA g0 173 1 = v := ⟨_, rfl⟩
        have tv2174 := congrArg Int32.toInt hv2174
        have x2175 := HI.eqA hI0 (p := 173) (j := 1) (hv2174)
        have y2176 : (eA g0 173 1).toInt = v1810.toInt := by rw [← hv1810, show a1.toInt = 1 by omega]
        have y2177 : a1.toInt = 1 → (eA g0 173 1).toInt = v1810.toInt := fun e => by rw [← hv1810, e]
        have e : a1.toInt = 1 := by omega
        have z2178 := HI.eqI hI2136 (p := 1) (b := 0) (((hF2137.1 1 0 (by decide)).trans hv2142))
        have z2179 := HI.eqI hI2136 (p := 1) (b := 12) (((hF2137.1 1 12 (by decide)).trans hv2144))
        have z2180 := HI.eqI hI2136 (p := 1) (b := 10) (((hF2137.1 1 10 (by decide)).trans hv2146))
        have z2181 := HI.eqI hI2136 (p := 1) (b := 11) (((hF2137.1 1 11 (by decide)).trans hv2148))
        have z2182 := HI.eqI hI2136 (p := 1) (b := 4) (((hF2137.1 1 4 (by decide)).trans hv2150))
        have x2183 := HI.eqA hI0 (p := 173) (j := 0) (hv2172)
        have x2184 := HI.eqA hI0 (p := 173) (j := 1) (hv2174)
        have y2185 : (eA g0 173 1).toInt = v1810.toInt := by rw [← hv1810, show a1.toInt = 1 by omega]
        exact ⟨_, rfl, hI2136, hF2140, _, rfl, by omega, ⟨⟨by omega, by omega, by omega, by omega, by omega⟩, (by intro i i0 i1; refine Eq.trans ?_ (if_neg (show ¬ (a1.toInt = 0 ∧ (eA g0 173 0).toInt ≠ 0) from by omega)).symm; refine Eq.trans ?_ (if_neg (show ¬ (a1.toInt = 1 ∧ (eA g0 173 1).toInt ≠ 0) from by omega)).symm; refine (eA_ti ((hF2137.2.1 2 (by decide)))).trans ?_; (first | rfl | exact eA_ix (by omega) | omega)), (by intro i i0 i1; refine Eq.trans ?_ (if_neg (show ¬ (a1.toInt = 0 ∧ (eA g0 173 0).toInt ≠ 0) from by omega)).symm; refine Eq.trans ?_ (if_neg (show ¬ (a1.toInt = 1 ∧ (eA g0 173 1).toInt ≠ 0) from by omega)).symm; refine (eA_ti ((hF2137.2.1 3 (by decide)))).trans ?_; (first | rfl | exact eA_ix (by omega) | omega)), (by intro i i0 i1; refine Eq.trans ?_ (if_neg (show ¬ (a1.toInt = 0 ∧ (eA g0 173 0).toInt ≠ 0) from by omega)).symm; refine Eq.trans ?_ (if_neg (show ¬ (a1.toInt = 1 ∧ (eA g0 173 1).toInt ≠ 0) from by omega)).symm; refine (eA_ti ((hF2137.2.1 4 (by decide)))).trans ?_; (first | rfl | exact eA_ix (by omega) | omega)), (by intro i i0 i1; refine Eq.trans ?_ (if_neg (show ¬ (a1.toInt = 0 ∧ (eA g0 173 0).toInt ≠ 0) from by omega)).symm; refine Eq.trans ?_ (if_neg (show ¬ (a1.toInt = 1 ∧ (eA g0 173 1).toInt ≠ 0) from by omega)).symm; refine (eA_ti ((hF2137.2.1 14 (by decide)))).trans ?_; (first | rfl | exact eA_ix (by omega) | omega)), (by intro i i0 i1; refine Eq.trans ?_ (if_neg (show ¬ (a1.toInt = 0 ∧ (eA g0 173 0).toInt ≠ 0) from by omega)).symm; refine Eq.trans ?_ (if_neg (show ¬ (a1.toInt = 1 ∧ (eA g0 173 1).toInt ≠ 0) from by omega)).symm; refine (eA_ti ((hF2137.2.1 15 (by decide)))).trans ?_; (first | rfl | exact eA_ix (by omega) | omega)), (by intro i i0 i1; refine Eq.trans ?_ (if_neg (show ¬ (a1.toInt = 0 ∧ (eA g0 173 0).toInt ≠ 0) from by omega)).symm; refine Eq.trans ?_ (if_neg (show ¬ (a1.toInt = 1 ∧ (eA g0 173 1).toInt ≠ 0) from by omega)).symm; refine (eA_ti ((hF2137.2.1 5 (by decide)))).trans ?_; (first | rfl | exact eA_ix (by omega) | omega))⟩⟩
