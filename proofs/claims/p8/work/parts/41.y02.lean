def F_X10_income_0 : List (Nat × Nat) := [(185, 3), (223, 5), (223, 6), (223, 7), (223, 8), (223, 9)]
def A_X10_income_0 : List Nat := [224, 225, 226]
set_option maxRecDepth 100000 in
set_option maxHeartbeats 4000000 in
theorem T_X10_income_0 (d : Nat) {N : Nat} {g0 : List en_E} (hI0 : HI g0) (a1 : Int32) : Ev (d + 8) 129 [.ref 0, .int a1] (g0, N) (fun w h' => ∃ g', h' = (g', N) ∧ HI g' ∧ Fr F_X10_income_0 A_X10_income_0 g0 g' ∧ ∃ r : Int32, w = some (.int r) ∧ True) := by
  have hF0 : Fr F_X10_income_0 A_X10_income_0 g0 g0 := Fr.rf
  refine Ev.mk rfl rfl ⟨Nat.le_of_ble_eq_true rfl, Or.inr (q_rc hI0.1 kx_0 rfl)⟩ ?_
  show At _ none _ _ (0, [(0, .ref 0), (1, .int a1)], [], (_, _)) _
  refine At.enter rfl ?_
  refine r_aload_n rfl ?_
  refine q_getR (Sh.ref hI0.1 kx_0 rfl) ?_
  refine r_iload_n rfl ?_
  refine q_inlV 8 rfl [.ref 1, .int a1] [] (Nat.le_of_ble_eq_true rfl) rfl ?_
  refine Ev.mk rfl rfl ⟨Nat.le_of_ble_eq_true rfl, Or.inr (q_rc hI0.1 kx_1 rfl)⟩ ?_
  show At _ none _ _ (0, [(0, .ref 1), (1, .int a1)], [], (_, _)) _
  refine At.enter rfl ?_
  refine r_iload_n rfl ?_
  refine r_ifs 4 rfl (fun c23 => ?_) (fun c23 => ?_)
  · have c23_ : a1.toInt < 0 := en_k_lt_t c23
    refine At.enter rfl ?_
    refine r_iconst 0 rfl ?_
    refine Ar.fall 17 rfl ?_
    refine At.enter rfl ?_
    refine q_iretz (by decide) ?_
    refine At.enter rfl ?_
    refine r_ift (by decide) ?_
    refine At.enter rfl ?_
    refine r_iconst (-1) rfl ?_
    refine Ar.fall 23 rfl ?_
    refine At.enter rfl ?_
    refine r_ireti ?_
    exact ⟨_, rfl, hI0, hF0, _, rfl, trivial⟩
  · have c23_ : a1.toInt ≥ 0 := en_k_lt_f c23
    refine At.enter rfl ?_
    refine r_iload_n rfl ?_
    refine r_aload_n rfl ?_
    obtain ⟨v24, hv24⟩ : ∃ v, gI g0 1 0 = v := ⟨_, rfl⟩
    have rv24 := RgF.at hI0.2.1 (p := 1) (b := 0) rfl
    rw [hv24] at rv24
    dsimp only at rv24
    refine q_getI (Sh.int hI0.1 kx_1 rfl) v24 hv24 ?_
    have bv26 := q_bnd a1
    have bv27 := q_bnd v24
    refine r_ics 12 rfl (fun c25 => ?_) (fun c25 => ?_)
    · have c25_ : a1.toInt ≥ v24.toInt := en_i_ge_t c25
      refine At.enter rfl ?_
      refine r_iconst 0 rfl ?_
      refine Ar.fall 17 rfl ?_
      refine At.enter rfl ?_
      refine q_iretz (by decide) ?_
      refine At.enter rfl ?_
      refine r_ift (by decide) ?_
      refine At.enter rfl ?_
      refine r_iconst (-1) rfl ?_
      refine Ar.fall 23 rfl ?_
      refine At.enter rfl ?_
      refine r_ireti ?_
      exact ⟨_, rfl, hI0, hF0, _, rfl, trivial⟩
    · have c25_ : a1.toInt < v24.toInt := en_i_ge_f c25
      refine At.enter rfl ?_
      refine r_iconst 1 rfl ?_
      refine r_goto ?_
      refine At.enter rfl ?_
      refine q_iretz (by decide) ?_
      refine At.enter rfl ?_
      refine r_iff 11 rfl (by decide) ?_
      refine At.enter rfl ?_
      refine r_aload_n rfl ?_
      refine q_getR (Sh.ref hI0.1 kx_0 rfl) ?_
      refine r_iload_n rfl ?_
      refine r_callV 19 rfl [.ref 223, .int a1] [] (Nat.le_of_ble_eq_true rfl) rfl (T_X2_incomeOf_223 _ hI0 a1 (by omega)) ?_
      rintro _ _ ⟨g28, rfl, hI29, hF30, v31, rfl, hr32⟩
      refine At.sti ?_
      have hF33 := Fr.tr hF0 hF30 rfl rfl
      refine At.enter rfl ?_
      refine r_goto ?_
      refine At.enter rfl ?_
      refine r_ireti ?_
      exact ⟨_, rfl, hI29, hF33, _, rfl, trivial⟩

def F_X10_answer_0 : List (Nat × Nat) := [(185, 3), (223, 5), (223, 6), (223, 7), (223, 8), (223, 9)]
def A_X10_answer_0 : List Nat := [224, 225, 226]
set_option maxRecDepth 100000 in
set_option maxHeartbeats 4000000 in
theorem T_X10_answer_0 (d : Nat) {N : Nat} {g0 : List en_E} (hI0 : HI g0) (a1 : Int32) (a2 : Int32) : Ev (d + 8) 130 [.ref 0, .int a1, .int a2] (g0, N) (fun w h' => ∃ g', h' = (g', N) ∧ HI g' ∧ Fr F_X10_answer_0 A_X10_answer_0 g0 g' ∧ ∃ r : Int32, w = some (.int r) ∧ True) := by
  have hF0 : Fr F_X10_answer_0 A_X10_answer_0 g0 g0 := Fr.rf
  refine Ev.mk rfl rfl ⟨Nat.le_of_ble_eq_true rfl, Or.inr (q_rc hI0.1 kx_0 rfl)⟩ ?_
  show At _ none _ _ (0, [(0, .ref 0), (1, .int a1), (2, .int a2)], [], (_, _)) _
  refine At.enter rfl ?_
  refine r_aload_n rfl ?_
  refine q_getR (Sh.ref hI0.1 kx_0 rfl) ?_
  refine r_iload_n rfl ?_
  refine q_inlV 8 rfl [.ref 1, .int a1] [] (Nat.le_of_ble_eq_true rfl) rfl ?_
  refine Ev.mk rfl rfl ⟨Nat.le_of_ble_eq_true rfl, Or.inr (q_rc hI0.1 kx_1 rfl)⟩ ?_
  show At _ none _ _ (0, [(0, .ref 1), (1, .int a1)], [], (_, _)) _
  refine At.enter rfl ?_
  refine r_iload_n rfl ?_
  refine r_ifs 4 rfl (fun c27 => ?_) (fun c27 => ?_)
  · have c27_ : a1.toInt < 0 := en_k_lt_t c27
    refine At.enter rfl ?_
    refine r_iconst 0 rfl ?_
    refine Ar.fall 17 rfl ?_
    refine At.enter rfl ?_
    refine q_iretz (by decide) ?_
    refine At.enter rfl ?_
    refine r_ift (by decide) ?_
    refine At.enter rfl ?_
    refine r_iconst (-1) rfl ?_
    refine Ar.fall 33 rfl ?_
    refine At.enter rfl ?_
    refine r_ireti ?_
    exact ⟨_, rfl, hI0, hF0, _, rfl, trivial⟩
  · have c27_ : a1.toInt ≥ 0 := en_k_lt_f c27
    refine At.enter rfl ?_
    refine r_iload_n rfl ?_
    refine r_aload_n rfl ?_
    obtain ⟨v28, hv28⟩ : ∃ v, gI g0 1 0 = v := ⟨_, rfl⟩
    have rv28 := RgF.at hI0.2.1 (p := 1) (b := 0) rfl
    rw [hv28] at rv28
    dsimp only at rv28
    refine q_getI (Sh.int hI0.1 kx_1 rfl) v28 hv28 ?_
    have bv30 := q_bnd a1
    have bv31 := q_bnd v28
    refine r_ics 12 rfl (fun c29 => ?_) (fun c29 => ?_)
    · have c29_ : a1.toInt ≥ v28.toInt := en_i_ge_t c29
      refine At.enter rfl ?_
      refine r_iconst 0 rfl ?_
      refine Ar.fall 17 rfl ?_
      refine At.enter rfl ?_
      refine q_iretz (by decide) ?_
      refine At.enter rfl ?_
      refine r_ift (by decide) ?_
      refine At.enter rfl ?_
      refine r_iconst (-1) rfl ?_
      refine Ar.fall 33 rfl ?_
      refine At.enter rfl ?_
      refine r_ireti ?_
      exact ⟨_, rfl, hI0, hF0, _, rfl, trivial⟩
    · have c29_ : a1.toInt < v28.toInt := en_i_ge_f c29
      refine At.enter rfl ?_
      refine r_iconst 1 rfl ?_
      refine r_goto ?_
      refine At.enter rfl ?_
      refine q_iretz (by decide) ?_
      refine At.enter rfl ?_
      refine r_iff 11 rfl (by decide) ?_
      refine At.enter rfl ?_
      refine r_iload_n rfl ?_
      refine r_iconst 0 rfl ?_
      refine r_iconst 1 rfl ?_
      refine q_inlS 17 rfl [.int a2, .int 0, .int 1] [] (Nat.le_of_ble_eq_true rfl) rfl ?_
      refine Ev.mk rfl rfl ⟨Nat.le_of_ble_eq_true rfl, Or.inl rfl⟩ ?_
      show At _ none _ _ (0, [(0, .int a2), (1, .int 0), (2, .int 1)], [], (_, _)) _
      refine At.enter rfl ?_
      refine r_iload_n rfl ?_
      refine r_iload_n rfl ?_
      refine r_ics 5 rfl (fun c32 => ?_) (fun c32 => ?_)
      · have c32_ : a2.toInt < 0 := en_i_lt_t c32
        refine At.enter rfl ?_
        refine r_iconst 0 rfl ?_
        refine Ar.fall 15 rfl ?_
        refine At.enter rfl ?_
        refine q_iretz (by decide) ?_
        refine At.enter rfl ?_
        refine r_ift (by decide) ?_
        refine At.enter rfl ?_
        refine r_iconst (-1) rfl ?_
        refine Ar.fall 33 rfl ?_
        refine At.enter rfl ?_
        refine r_ireti ?_
        exact ⟨_, rfl, hI0, hF0, _, rfl, trivial⟩
      · have c32_ : a2.toInt ≥ 0 := en_i_lt_f c32
        refine At.enter rfl ?_
        refine r_iload_n rfl ?_
        refine r_iload_n rfl ?_
        refine r_ics 10 rfl (fun c33 => ?_) (fun c33 => ?_)
        · have c33_ : a2.toInt > 1 := en_i_gt_t c33
          refine At.enter rfl ?_
          refine r_iconst 0 rfl ?_
          refine Ar.fall 15 rfl ?_
          refine At.enter rfl ?_
          refine q_iretz (by decide) ?_
          refine At.enter rfl ?_
          refine r_ift (by decide) ?_
          refine At.enter rfl ?_
          refine r_iconst (-1) rfl ?_
          refine Ar.fall 33 rfl ?_
          refine At.enter rfl ?_
          refine r_ireti ?_
          exact ⟨_, rfl, hI0, hF0, _, rfl, trivial⟩
        · have c33_ : a2.toInt ≤ 1 := en_i_gt_f c33
          refine At.enter rfl ?_
          refine r_iconst 1 rfl ?_
          refine r_goto ?_
          refine At.enter rfl ?_
          refine q_iretz (by decide) ?_
          refine At.enter rfl ?_
          refine r_iff 20 rfl (by decide) ?_
          refine At.enter rfl ?_
          refine r_aload_n rfl ?_
          refine q_getR (Sh.ref hI0.1 kx_0 rfl) ?_
          refine r_iload_n rfl ?_
          refine r_iload_n rfl ?_
          refine r_callV 29 rfl [.ref 223, .int a1, .int a2] [] (Nat.le_of_ble_eq_true rfl) rfl (T_X2_answerOf_223 _ hI0 a1 (by omega) a2) ?_
          rintro _ _ ⟨g34, rfl, hI35, hF36, v37, rfl, hr38⟩
          refine At.sti ?_
          have hF39 := Fr.tr hF0 hF36 rfl rfl
          refine At.enter rfl ?_
          refine r_goto ?_
          refine At.enter rfl ?_
          refine r_ireti ?_
          exact ⟨_, rfl, hI35, hF39, _, rfl, trivial⟩

def F_X10_restless_0 : List (Nat × Nat) := [(185, 3), (223, 5), (223, 6), (223, 7), (223, 8), (223, 9)]
def A_X10_restless_0 : List Nat := [224, 225, 226]
set_option maxRecDepth 100000 in
set_option maxHeartbeats 4000000 in
theorem T_X10_restless_0 (d : Nat) {N : Nat} {g0 : List en_E} (hI0 : HI g0) : Ev (d + 8) 131 [.ref 0] (g0, N) (fun w h' => ∃ g', h' = (g', N) ∧ HI g' ∧ Fr F_X10_restless_0 A_X10_restless_0 g0 g' ∧ ∃ r : Int32, w = some (.int r) ∧ ((-1) ≤ r.toInt ∧ r.toInt ≤ 11)) := by
  have hF0 : Fr F_X10_restless_0 A_X10_restless_0 g0 g0 := Fr.rf
  refine Ev.mk rfl rfl ⟨Nat.le_of_ble_eq_true rfl, Or.inr (q_rc hI0.1 kx_0 rfl)⟩ ?_
  show At _ none _ _ (0, [(0, .ref 0)], [], (_, _)) _
  refine At.enter rfl ?_
  refine r_aload_n rfl ?_
  refine q_getR (Sh.ref hI0.1 kx_0 rfl) ?_
  refine r_callV 7 rfl [.ref 223] [] (Nat.le_of_ble_eq_true rfl) rfl (T_X2_firstRestless_223 _ hI0) ?_
  rintro _ _ ⟨g13, rfl, hI14, hF15, v16, rfl, hr17⟩
  refine At.sti ?_
  have hF18 := Fr.tr hF0 hF15 rfl rfl
  refine At.enter rfl ?_
  refine r_ireti ?_
  exact ⟨_, rfl, hI14, hF18, _, rfl, by omega⟩

def F_X10_rests_0 : List (Nat × Nat) := [(185, 3), (223, 5), (223, 6), (223, 7), (223, 8), (223, 9), (223, 10), (223, 11)]
def A_X10_rests_0 : List Nat := [224, 225, 226, 227]
set_option maxRecDepth 100000 in
set_option maxHeartbeats 4000000 in
theorem T_X10_rests_0 (d : Nat) {N : Nat} {g0 : List en_E} (hI0 : HI g0) (a1 : Int32) : Ev (d + 8) 132 [.ref 0, .int a1] (g0, N) (fun w h' => ∃ g', h' = (g', N) ∧ HI g' ∧ Fr F_X10_rests_0 A_X10_rests_0 g0 g' ∧ ∃ r : Int32, w = some (.int r) ∧ True) := by
  have hF0 : Fr F_X10_rests_0 A_X10_rests_0 g0 g0 := Fr.rf
  refine Ev.mk rfl rfl ⟨Nat.le_of_ble_eq_true rfl, Or.inr (q_rc hI0.1 kx_0 rfl)⟩ ?_
  show At _ none _ _ (0, [(0, .ref 0), (1, .int a1)], [], (_, _)) _
  refine At.enter rfl ?_
  refine r_iload_n rfl ?_
  refine r_iconst (-1) rfl ?_
  refine r_ics 5 rfl (fun c61 => ?_) (fun c61 => ?_)
  · have c61_ : a1.toInt = (-1) := en_i_eq_t c61
    refine At.enter rfl ?_
    refine r_aload_n rfl ?_
    refine q_getR (Sh.ref hI0.1 kx_0 rfl) ?_
    refine r_callV 25 rfl [.ref 223] [] (Nat.le_of_ble_eq_true rfl) rfl (T_X2_settle_223 _ hI0) ?_
    rintro _ _ ⟨g62, rfl, hI63, hF64, rfl⟩
    refine At.stn ?_
    have hF67 := Fr.tr hF0 hF64 rfl rfl
    refine At.enter rfl ?_
    refine r_aload_n rfl ?_
    refine q_getR (Sh.ref hI63.1 kx_0 rfl) ?_
    refine r_iload_n rfl ?_
    refine r_callV 33 rfl [.ref 223, .int a1] [] (Nat.le_of_ble_eq_true rfl) rfl (T_X2_settled_223 _ hI63 a1) ?_
    rintro _ _ ⟨g68, rfl, hI69, hF70, v71, rfl, hr72⟩
    refine At.sti ?_
    have hF73 := Fr.tr hF67 hF70 rfl rfl
    refine At.enter rfl ?_
    refine r_ireti ?_
    exact ⟨_, rfl, hI69, hF73, _, rfl, trivial⟩
  · have c61_ : a1.toInt ≠ (-1) := en_i_eq_f c61
    refine At.enter rfl ?_
    refine r_aload_n rfl ?_
    refine q_getR (Sh.ref hI0.1 kx_0 rfl) ?_
    refine r_iload_n rfl ?_
    refine q_inlV 13 rfl [.ref 1, .int a1] [] (Nat.le_of_ble_eq_true rfl) rfl ?_
    refine Ev.mk rfl rfl ⟨Nat.le_of_ble_eq_true rfl, Or.inr (q_rc hI0.1 kx_1 rfl)⟩ ?_
    show At _ none _ _ (0, [(0, .ref 1), (1, .int a1)], [], (_, _)) _
    refine At.enter rfl ?_
    refine r_iload_n rfl ?_
    refine r_ifs 4 rfl (fun c74 => ?_) (fun c74 => ?_)
    · have c74_ : a1.toInt < 0 := en_k_lt_t c74
      refine At.enter rfl ?_
      refine r_iconst 0 rfl ?_
      refine Ar.fall 17 rfl ?_
      refine At.enter rfl ?_
      refine q_iretz (by decide) ?_
      refine At.enter rfl ?_
      refine r_iff 16 rfl (by decide) ?_
      refine At.enter rfl ?_
      refine r_iconst (-1) rfl ?_
      refine r_ireti ?_
      exact ⟨_, rfl, hI0, hF0, _, rfl, trivial⟩
    · have c74_ : a1.toInt ≥ 0 := en_k_lt_f c74
      refine At.enter rfl ?_
      refine r_iload_n rfl ?_
      refine r_aload_n rfl ?_
      obtain ⟨v75, hv75⟩ : ∃ v, gI g0 1 0 = v := ⟨_, rfl⟩
      have rv75 := RgF.at hI0.2.1 (p := 1) (b := 0) rfl
      rw [hv75] at rv75
      dsimp only at rv75
      refine q_getI (Sh.int hI0.1 kx_1 rfl) v75 hv75 ?_
      have bv77 := q_bnd a1
      have bv78 := q_bnd v75
      refine r_ics 12 rfl (fun c76 => ?_) (fun c76 => ?_)
      · have c76_ : a1.toInt ≥ v75.toInt := en_i_ge_t c76
        refine At.enter rfl ?_
        refine r_iconst 0 rfl ?_
        refine Ar.fall 17 rfl ?_
        refine At.enter rfl ?_
        refine q_iretz (by decide) ?_
        refine At.enter rfl ?_
        refine r_iff 16 rfl (by decide) ?_
        refine At.enter rfl ?_
        refine r_iconst (-1) rfl ?_
        refine r_ireti ?_
        exact ⟨_, rfl, hI0, hF0, _, rfl, trivial⟩
      · have c76_ : a1.toInt < v75.toInt := en_i_ge_f c76
        refine At.enter rfl ?_
        refine r_iconst 1 rfl ?_
        refine r_goto ?_
        refine At.enter rfl ?_
        refine q_iretz (by decide) ?_
        refine At.enter rfl ?_
        refine r_ift (by decide) ?_
        refine At.enter rfl ?_
        refine r_aload_n rfl ?_
        refine q_getR (Sh.ref hI0.1 kx_0 rfl) ?_
        refine r_callV 25 rfl [.ref 223] [] (Nat.le_of_ble_eq_true rfl) rfl (T_X2_settle_223 _ hI0) ?_
        rintro _ _ ⟨g79, rfl, hI80, hF81, rfl⟩
        refine At.stn ?_
        have hF84 := Fr.tr hF0 hF81 rfl rfl
        refine At.enter rfl ?_
        refine r_aload_n rfl ?_
        refine q_getR (Sh.ref hI80.1 kx_0 rfl) ?_
        refine r_iload_n rfl ?_
        refine r_callV 33 rfl [.ref 223, .int a1] [] (Nat.le_of_ble_eq_true rfl) rfl (T_X2_settled_223 _ hI80 a1) ?_
        rintro _ _ ⟨g85, rfl, hI86, hF87, v88, rfl, hr89⟩
        refine At.sti ?_
        have hF90 := Fr.tr hF84 hF87 rfl rfl
        refine At.enter rfl ?_
        refine r_ireti ?_
        exact ⟨_, rfl, hI86, hF90, _, rfl, trivial⟩

def F_X10_pieces_0 : List (Nat × Nat) := []
def A_X10_pieces_0 : List Nat := []
set_option maxRecDepth 100000 in
set_option maxHeartbeats 4000000 in
theorem T_X10_pieces_0 (d : Nat) {N : Nat} {g0 : List en_E} (hI0 : HI g0) (a1 : Int32) : Ev (d + 5) 133 [.ref 0, .int a1] (g0, N) (fun w h' => ∃ g', h' = (g', N) ∧ HI g' ∧ Fr F_X10_pieces_0 A_X10_pieces_0 g0 g' ∧ ∃ r : Int32, w = some (.int r) ∧ True) := by
  have hF0 : Fr F_X10_pieces_0 A_X10_pieces_0 g0 g0 := Fr.rf
  refine Ev.mk rfl rfl ⟨Nat.le_of_ble_eq_true rfl, Or.inr (q_rc hI0.1 kx_0 rfl)⟩ ?_
  show At _ none _ _ (0, [(0, .ref 0), (1, .int a1)], [], (_, _)) _
  refine At.enter rfl ?_
  refine r_aload_n rfl ?_
  refine q_getR (Sh.ref hI0.1 kx_0 rfl) ?_
  refine r_iload_n rfl ?_
  refine q_inlV 8 rfl [.ref 1, .int a1] [] (Nat.le_of_ble_eq_true rfl) rfl ?_
  refine Ev.mk rfl rfl ⟨Nat.le_of_ble_eq_true rfl, Or.inr (q_rc hI0.1 kx_1 rfl)⟩ ?_
  show At _ none _ _ (0, [(0, .ref 1), (1, .int a1)], [], (_, _)) _
  refine At.enter rfl ?_
  refine r_iload_n rfl ?_
  refine r_ifs 4 rfl (fun c23 => ?_) (fun c23 => ?_)
  · have c23_ : a1.toInt < 0 := en_k_lt_t c23
    refine At.enter rfl ?_
    refine r_iconst 0 rfl ?_
    refine Ar.fall 17 rfl ?_
    refine At.enter rfl ?_
    refine q_iretz (by decide) ?_
    refine At.enter rfl ?_
    refine r_ift (by decide) ?_
    refine At.enter rfl ?_
    refine r_iconst (-1) rfl ?_
    refine Ar.fall 23 rfl ?_
    refine At.enter rfl ?_
    refine r_ireti ?_
    exact ⟨_, rfl, hI0, hF0, _, rfl, trivial⟩
  · have c23_ : a1.toInt ≥ 0 := en_k_lt_f c23
    refine At.enter rfl ?_
    refine r_iload_n rfl ?_
    refine r_aload_n rfl ?_
    obtain ⟨v24, hv24⟩ : ∃ v, gI g0 1 4 = v := ⟨_, rfl⟩
    have rv24 := RgF.at hI0.2.1 (p := 1) (b := 4) rfl
    rw [hv24] at rv24
    dsimp only at rv24
    refine q_getI (Sh.int hI0.1 kx_1 rfl) v24 hv24 ?_
    have bv26 := q_bnd a1
    have bv27 := q_bnd v24
    refine r_ics 12 rfl (fun c25 => ?_) (fun c25 => ?_)
    · have c25_ : a1.toInt ≥ v24.toInt := en_i_ge_t c25
      refine At.enter rfl ?_
      refine r_iconst 0 rfl ?_
      refine Ar.fall 17 rfl ?_
      refine At.enter rfl ?_
      refine q_iretz (by decide) ?_
      refine At.enter rfl ?_
      refine r_ift (by decide) ?_
      refine At.enter rfl ?_
      refine r_iconst (-1) rfl ?_
      refine Ar.fall 23 rfl ?_
      refine At.enter rfl ?_
      refine r_ireti ?_
      exact ⟨_, rfl, hI0, hF0, _, rfl, trivial⟩
    · have c25_ : a1.toInt < v24.toInt := en_i_ge_f c25
      refine At.enter rfl ?_
      refine r_iconst 1 rfl ?_
      refine r_goto ?_
      refine At.enter rfl ?_
      refine q_iretz (by decide) ?_
      refine At.enter rfl ?_
      refine r_iff 11 rfl (by decide) ?_
      refine At.enter rfl ?_
      refine r_aload_n rfl ?_
      refine q_getR (Sh.ref hI0.1 kx_0 rfl) ?_
      refine r_iload_n rfl ?_
      refine r_callV 19 rfl [.ref 184, .int a1] [] (Nat.le_of_ble_eq_true rfl) rfl (T_X9_minutesInPieces_184 _ hI0 a1) ?_
      rintro _ _ ⟨g28, rfl, hI29, hF30, v31, rfl, hr32⟩
      refine At.sti ?_
      have hF33 := Fr.tr hF0 hF30 rfl rfl
      refine At.enter rfl ?_
      refine r_goto ?_
      refine At.enter rfl ?_
      refine r_ireti ?_
      exact ⟨_, rfl, hI29, hF33, _, rfl, trivial⟩

def F_X10_sign_0 : List (Nat × Nat) := [(0, 17), (1, 12)]
def A_X10_sign_0 : List Nat := [14, 15, 230]
set_option maxRecDepth 100000 in
set_option maxHeartbeats 4000000 in
theorem T_X10_sign_0 (d : Nat) {N : Nat} {g0 : List en_E} (hI0 : HI g0) (a1 : Int32) (a2 : Int32) : Ev (d + 3) 134 [.ref 0, .int a1, .int a2] (g0, N) (fun w h' => ∃ g', h' = (g', N) ∧ HI g' ∧ Fr F_X10_sign_0 A_X10_sign_0 g0 g' ∧ ∃ r : Int32, w = some (.int r) ∧ ((-5) ≤ r.toInt ∧ r.toInt ≤ 8) ∧ ((¬ (0 ≤ a2.toInt ∧ a2.toInt ≤ 99) → r.toInt = -1 ∧ (gI g' 1 12).toInt = (gI g0 1 12).toInt) ∧ ((0 ≤ a2.toInt ∧ a2.toInt ≤ 99) ∧ ¬ (0 ≤ a1.toInt ∧ a1.toInt < (gI g0 1 0).toInt) → r.toInt = -2 ∧ (gI g' 1 12).toInt = (gI g0 1 12).toInt) ∧ ((0 ≤ a2.toInt ∧ a2.toInt ≤ 99) ∧ (0 ≤ a1.toInt ∧ a1.toInt < (gI g0 1 0).toInt) ∧ 8 ≤ (gI g0 1 12).toInt → r.toInt = -5 ∧ (gI g' 1 12).toInt = (gI g0 1 12).toInt) ∧ ((0 ≤ a2.toInt ∧ a2.toInt ≤ 99) ∧ (0 ≤ a1.toInt ∧ a1.toInt < (gI g0 1 0).toInt) ∧ (gI g0 1 12).toInt < 8 → r.toInt = (gI g0 1 12).toInt + 1 ∧ (gI g' 1 12).toInt = (gI g0 1 12).toInt + 1))) := by
  have hF0 : Fr F_X10_sign_0 A_X10_sign_0 g0 g0 := Fr.rf
  refine Ev.mk rfl rfl ⟨Nat.le_of_ble_eq_true rfl, Or.inr (q_rc hI0.1 kx_0 rfl)⟩ ?_
  show At _ none _ _ (0, [(0, .ref 0), (1, .int a1), (2, .int a2)], [], (_, _)) _
  refine At.enter rfl ?_
  refine r_iload_n rfl ?_
  refine r_iconst 0 rfl ?_
  refine r_bipush 99 rfl ?_
  refine q_inlS 7 rfl [.int a2, .int 0, .int 99] [] (Nat.le_of_ble_eq_true rfl) rfl ?_
  refine Ev.mk rfl rfl ⟨Nat.le_of_ble_eq_true rfl, Or.inl rfl⟩ ?_
  show At _ none _ _ (0, [(0, .int a2), (1, .int 0), (2, .int 99)], [], (_, _)) _
  refine At.enter rfl ?_
  refine r_iload_n rfl ?_
  refine r_iload_n rfl ?_
  refine r_ics 5 rfl (fun c107 => ?_) (fun c107 => ?_)
  · have c107_ : a2.toInt < 0 := en_i_lt_t c107
    refine At.enter rfl ?_
    refine r_iconst 0 rfl ?_
    refine Ar.fall 15 rfl ?_
    refine At.enter rfl ?_
    refine q_iretz (by decide) ?_
    refine At.enter rfl ?_
    refine r_iff 10 rfl (by decide) ?_
    refine At.enter rfl ?_
    refine r_aload_n rfl ?_
    refine r_iconst (-1) rfl ?_
    refine r_callV 15 rfl [.ref 0, .int (-1)] [] (Nat.le_of_ble_eq_true rfl) rfl (T_X10_refused_0 _ hI0 (-1) (by decide)) ?_
    rintro _ _ ⟨g108, rfl, hI109, hF110, v111, rfl, hr112⟩
    refine At.sti ?_
    have hF113 := Fr.tr hF0 hF110 rfl rfl
    have zv114 : ((-1) : Int32).toInt = (-1) := rfl
    refine At.enter rfl ?_
    refine r_ireti ?_
    obtain ⟨v115, hv115⟩ : ∃ v, eA g0 233 4 = v := ⟨_, rfl⟩
    have wv115 := HI.t4 hI0
    rw [hv115] at wv115
    have tv115 := congrArg Int32.toInt hv115
    have x116 := HI.eqA hI109 (p := 233) (j := 4) (((eA_c (hF110.2.1 233 (by decide))).trans hv115))
    obtain ⟨v117, hv117⟩ : ∃ v, eA g0 233 0 = v := ⟨_, rfl⟩
    have tv117 := congrArg Int32.toInt hv117
    have wv117 := HI.t0 hI0
    rw [hv117] at wv117
    have tv117 := congrArg Int32.toInt hv117
    have x118 := HI.eqA hI109 (p := 233) (j := 0) (((eA_c (hF110.2.1 233 (by decide))).trans hv117))
    obtain ⟨v119, hv119⟩ : ∃ v, eA g0 233 5 = v := ⟨_, rfl⟩
    have wv119 := HI.t5 hI0
    rw [hv119] at wv119
    have tv119 := congrArg Int32.toInt hv119
    have x120 := HI.eqA hI109 (p := 233) (j := 5) (((eA_c (hF110.2.1 233 (by decide))).trans hv119))
    obtain ⟨v121, hv121⟩ : ∃ v, eA g0 233 6 = v := ⟨_, rfl⟩
    have wv121 := HI.t6 hI0
    rw [hv121] at wv121
    have tv121 := congrArg Int32.toInt hv121
    have x122 := HI.eqA hI109 (p := 233) (j := 6) (((eA_c (hF110.2.1 233 (by decide))).trans hv121))
    have x123 := HI.eqA hI0 (p := 233) (j := 4) (hv115)
    have x124 := HI.eqA hI0 (p := 233) (j := 0) (hv117)
    have x125 := HI.eqA hI0 (p := 233) (j := 0) (hv117)
    have x126 := HI.eqA hI0 (p := 233) (j := 5) (hv119)
    have x127 := HI.eqA hI0 (p := 233) (j := 6) (hv121)
    exact ⟨_, rfl, hI109, hF113, _, rfl, by omega, ⟨by omega, by omega, by omega, by omega⟩⟩
  · have c107_ : a2.toInt ≥ 0 := en_i_lt_f c107
    refine At.enter rfl ?_
    refine r_iload_n rfl ?_
    refine r_iload_n rfl ?_
    refine r_ics 10 rfl (fun c128 => ?_) (fun c128 => ?_)
    · have c128_ : a2.toInt > 99 := en_i_gt_t c128
      refine At.enter rfl ?_
      refine r_iconst 0 rfl ?_
      refine Ar.fall 15 rfl ?_
      refine At.enter rfl ?_
      refine q_iretz (by decide) ?_
      refine At.enter rfl ?_
      refine r_iff 10 rfl (by decide) ?_
      refine At.enter rfl ?_
      refine r_aload_n rfl ?_
      refine r_iconst (-1) rfl ?_
      refine r_callV 15 rfl [.ref 0, .int (-1)] [] (Nat.le_of_ble_eq_true rfl) rfl (T_X10_refused_0 _ hI0 (-1) (by decide)) ?_
      rintro _ _ ⟨g129, rfl, hI130, hF131, v132, rfl, hr133⟩
      refine At.sti ?_
      have hF134 := Fr.tr hF0 hF131 rfl rfl
      have zv135 : ((-1) : Int32).toInt = (-1) := rfl
      refine At.enter rfl ?_
      refine r_ireti ?_
      obtain ⟨v136, hv136⟩ : ∃ v, eA g0 233 4 = v := ⟨_, rfl⟩
      have wv136 := HI.t4 hI0
      rw [hv136] at wv136
      have tv136 := congrArg Int32.toInt hv136
      have x137 := HI.eqA hI130 (p := 233) (j := 4) (((eA_c (hF131.2.1 233 (by decide))).trans hv136))
      obtain ⟨v138, hv138⟩ : ∃ v, eA g0 233 0 = v := ⟨_, rfl⟩
      have tv138 := congrArg Int32.toInt hv138
      have wv138 := HI.t0 hI0
      rw [hv138] at wv138
      have tv138 := congrArg Int32.toInt hv138
      have x139 := HI.eqA hI130 (p := 233) (j := 0) (((eA_c (hF131.2.1 233 (by decide))).trans hv138))
      obtain ⟨v140, hv140⟩ : ∃ v, eA g0 233 5 = v := ⟨_, rfl⟩
      have wv140 := HI.t5 hI0
      rw [hv140] at wv140
      have tv140 := congrArg Int32.toInt hv140
      have x141 := HI.eqA hI130 (p := 233) (j := 5) (((eA_c (hF131.2.1 233 (by decide))).trans hv140))
      obtain ⟨v142, hv142⟩ : ∃ v, eA g0 233 6 = v := ⟨_, rfl⟩
      have wv142 := HI.t6 hI0
      rw [hv142] at wv142
      have tv142 := congrArg Int32.toInt hv142
      have x143 := HI.eqA hI130 (p := 233) (j := 6) (((eA_c (hF131.2.1 233 (by decide))).trans hv142))
      have x144 := HI.eqA hI0 (p := 233) (j := 4) (hv136)
      have x145 := HI.eqA hI0 (p := 233) (j := 0) (hv138)
      have x146 := HI.eqA hI0 (p := 233) (j := 0) (hv138)
      have x147 := HI.eqA hI0 (p := 233) (j := 5) (hv140)
      have x148 := HI.eqA hI0 (p := 233) (j := 6) (hv142)
      exact ⟨_, rfl, hI130, hF134, _, rfl, by omega, ⟨by omega, by omega, by omega, by omega⟩⟩
    · have c128_ : a2.toInt ≤ 99 := en_i_gt_f c128
      refine At.enter rfl ?_
      refine r_iconst 1 rfl ?_
      refine r_goto ?_
      refine At.enter rfl ?_
      refine q_iretz (by decide) ?_
      refine At.enter rfl ?_
      refine r_ift (by decide) ?_
      refine At.enter rfl ?_
      refine r_aload_n rfl ?_
      refine q_getR (Sh.ref hI0.1 kx_0 rfl) ?_
      refine r_iload_n rfl ?_
      refine q_inlV 24 rfl [.ref 1, .int a1] [] (Nat.le_of_ble_eq_true rfl) rfl ?_
      refine Ev.mk rfl rfl ⟨Nat.le_of_ble_eq_true rfl, Or.inr (q_rc hI0.1 kx_1 rfl)⟩ ?_
      show At _ none _ _ (0, [(0, .ref 1), (1, .int a1)], [], (_, _)) _
      refine At.enter rfl ?_
      refine r_iload_n rfl ?_
      refine r_ifs 4 rfl (fun c149 => ?_) (fun c149 => ?_)
      · have c149_ : a1.toInt < 0 := en_k_lt_t c149
        refine At.enter rfl ?_
        refine r_iconst 0 rfl ?_
        refine Ar.fall 17 rfl ?_
        refine At.enter rfl ?_
        refine q_iretz (by decide) ?_
        refine At.enter rfl ?_
        refine r_iff 27 rfl (by decide) ?_
        refine At.enter rfl ?_
        refine r_aload_n rfl ?_
        refine r_bipush (-2) rfl ?_
        refine r_callV 33 rfl [.ref 0, .int (-2)] [] (Nat.le_of_ble_eq_true rfl) rfl (T_X10_refused_0 _ hI0 (-2) (by decide)) ?_
        rintro _ _ ⟨g150, rfl, hI151, hF152, v153, rfl, hr154⟩
        refine At.sti ?_
        have hF155 := Fr.tr hF0 hF152 rfl rfl
        have zv156 : ((-2) : Int32).toInt = (-2) := rfl
        refine At.enter rfl ?_
        refine r_ireti ?_
        obtain ⟨v157, hv157⟩ : ∃ v, eA g0 233 4 = v := ⟨_, rfl⟩
        have wv157 := HI.t4 hI0
        rw [hv157] at wv157
        have tv157 := congrArg Int32.toInt hv157
        have x158 := HI.eqA hI151 (p := 233) (j := 4) (((eA_c (hF152.2.1 233 (by decide))).trans hv157))
        obtain ⟨v159, hv159⟩ : ∃ v, eA g0 233 0 = v := ⟨_, rfl⟩
        have tv159 := congrArg Int32.toInt hv159
        have wv159 := HI.t0 hI0
        rw [hv159] at wv159
        have tv159 := congrArg Int32.toInt hv159
        have x160 := HI.eqA hI151 (p := 233) (j := 0) (((eA_c (hF152.2.1 233 (by decide))).trans hv159))
        obtain ⟨v161, hv161⟩ : ∃ v, eA g0 233 5 = v := ⟨_, rfl⟩
        have wv161 := HI.t5 hI0
        rw [hv161] at wv161
        have tv161 := congrArg Int32.toInt hv161
        have x162 := HI.eqA hI151 (p := 233) (j := 5) (((eA_c (hF152.2.1 233 (by decide))).trans hv161))
        obtain ⟨v163, hv163⟩ : ∃ v, eA g0 233 6 = v := ⟨_, rfl⟩
        have wv163 := HI.t6 hI0
        rw [hv163] at wv163
        have tv163 := congrArg Int32.toInt hv163
        have x164 := HI.eqA hI151 (p := 233) (j := 6) (((eA_c (hF152.2.1 233 (by decide))).trans hv163))
        have x165 := HI.eqA hI0 (p := 233) (j := 4) (hv157)
        have x166 := HI.eqA hI0 (p := 233) (j := 0) (hv159)
        have x167 := HI.eqA hI0 (p := 233) (j := 0) (hv159)
        have x168 := HI.eqA hI0 (p := 233) (j := 5) (hv161)
        have x169 := HI.eqA hI0 (p := 233) (j := 6) (hv163)
        exact ⟨_, rfl, hI151, hF155, _, rfl, by omega, ⟨by omega, by omega, by omega, by omega⟩⟩
      · have c149_ : a1.toInt ≥ 0 := en_k_lt_f c149
        refine At.enter rfl ?_
        refine r_iload_n rfl ?_
        refine r_aload_n rfl ?_
        obtain ⟨v170, hv170⟩ : ∃ v, gI g0 1 0 = v := ⟨_, rfl⟩
        have rv170 := RgF.at hI0.2.1 (p := 1) (b := 0) rfl
        rw [hv170] at rv170
        dsimp only at rv170
        refine q_getI (Sh.int hI0.1 kx_1 rfl) v170 hv170 ?_
        have bv172 := q_bnd a1
        have bv173 := q_bnd v170
        refine r_ics 12 rfl (fun c171 => ?_) (fun c171 => ?_)
        · have c171_ : a1.toInt ≥ v170.toInt := en_i_ge_t c171
          refine At.enter rfl ?_
          refine r_iconst 0 rfl ?_
          refine Ar.fall 17 rfl ?_
          refine At.enter rfl ?_
          refine q_iretz (by decide) ?_
          refine At.enter rfl ?_
          refine r_iff 27 rfl (by decide) ?_
          refine At.enter rfl ?_
          refine r_aload_n rfl ?_
          refine r_bipush (-2) rfl ?_
          refine r_callV 33 rfl [.ref 0, .int (-2)] [] (Nat.le_of_ble_eq_true rfl) rfl (T_X10_refused_0 _ hI0 (-2) (by decide)) ?_
          rintro _ _ ⟨g174, rfl, hI175, hF176, v177, rfl, hr178⟩
          refine At.sti ?_
          have hF179 := Fr.tr hF0 hF176 rfl rfl
          have zv180 : ((-2) : Int32).toInt = (-2) := rfl
          refine At.enter rfl ?_
          refine r_ireti ?_
          obtain ⟨v181, hv181⟩ : ∃ v, eA g0 233 4 = v := ⟨_, rfl⟩
          have wv181 := HI.t4 hI0
          rw [hv181] at wv181
          have tv181 := congrArg Int32.toInt hv181
          have x182 := HI.eqA hI175 (p := 233) (j := 4) (((eA_c (hF176.2.1 233 (by decide))).trans hv181))
          obtain ⟨v183, hv183⟩ : ∃ v, eA g0 233 0 = v := ⟨_, rfl⟩
          have tv183 := congrArg Int32.toInt hv183
          have wv183 := HI.t0 hI0
          rw [hv183] at wv183
          have tv183 := congrArg Int32.toInt hv183
          have x184 := HI.eqA hI175 (p := 233) (j := 0) (((eA_c (hF176.2.1 233 (by decide))).trans hv183))
          obtain ⟨v185, hv185⟩ : ∃ v, eA g0 233 5 = v := ⟨_, rfl⟩
          have wv185 := HI.t5 hI0
          rw [hv185] at wv185
          have tv185 := congrArg Int32.toInt hv185
          have x186 := HI.eqA hI175 (p := 233) (j := 5) (((eA_c (hF176.2.1 233 (by decide))).trans hv185))
          obtain ⟨v187, hv187⟩ : ∃ v, eA g0 233 6 = v := ⟨_, rfl⟩
          have wv187 := HI.t6 hI0
          rw [hv187] at wv187
          have tv187 := congrArg Int32.toInt hv187
          have x188 := HI.eqA hI175 (p := 233) (j := 6) (((eA_c (hF176.2.1 233 (by decide))).trans hv187))
          have x189 := HI.eqA hI0 (p := 233) (j := 4) (hv181)
          have x190 := HI.eqA hI0 (p := 233) (j := 0) (hv183)
          have x191 := HI.eqA hI0 (p := 233) (j := 0) (hv183)
          have x192 := HI.eqA hI0 (p := 233) (j := 5) (hv185)
          have x193 := HI.eqA hI0 (p := 233) (j := 6) (hv187)
          exact ⟨_, rfl, hI175, hF179, _, rfl, by omega, ⟨by omega, by omega, by omega, by omega⟩⟩
        · have c171_ : a1.toInt < v170.toInt := en_i_ge_f c171
          refine At.enter rfl ?_
          refine r_iconst 1 rfl ?_
          refine r_goto ?_
          refine At.enter rfl ?_
          refine q_iretz (by decide) ?_
          refine At.enter rfl ?_
          refine r_ift (by decide) ?_
          refine At.enter rfl ?_
          refine r_aload_n rfl ?_
          refine q_getR (Sh.ref hI0.1 kx_0 rfl) ?_
          obtain ⟨v194, hv194⟩ : ∃ v, gI g0 1 12 = v := ⟨_, rfl⟩
          have rv194 := RgF.at hI0.2.1 (p := 1) (b := 12) rfl
          rw [hv194] at rv194
          dsimp only at rv194
          refine q_getI (Sh.int hI0.1 kx_1 rfl) v194 hv194 ?_
          refine r_bipush 8 rfl ?_
          refine r_ics 46 rfl (fun c195 => ?_) (fun c195 => ?_)
          · have c195_ : v194.toInt < 8 := en_i_lt_t c195
            refine At.enter rfl ?_
            refine r_aload_n rfl ?_
            refine q_getR (Sh.ref hI0.1 kx_0 rfl) ?_
            refine q_getR (Sh.ref hI0.1 kx_1 rfl) ?_
            refine r_aload_n rfl ?_
            refine q_getR (Sh.ref hI0.1 kx_0 rfl) ?_
            refine q_getI (Sh.int hI0.1 kx_1 rfl) v194 hv194 ?_
            refine r_iload_n rfl ?_
            refine q_iast (Sh.arr hI0.1 ka_14) (v194.toInt) rfl (by omega) ?_
            have hI196 := HI.wA0 hI0 ka_14 (p := 14) rfl rfl (v194.toInt) (a1)
            have hF197 := Fr.wA (p := 14) (j := v194.toInt) (v := a1) hF0 rfl
            refine r_aload_n rfl ?_
            refine q_getR (Sh.ref hI196.1 kx_0 rfl) ?_
            refine q_getR (Sh.ref hI196.1 kx_1 rfl) ?_
            refine r_aload_n rfl ?_
            refine q_getR (Sh.ref hI196.1 kx_0 rfl) ?_
            refine q_getI (Sh.int hI196.1 kx_1 rfl) v194 ((gI_sW).trans hv194) ?_
            refine r_iload_n rfl ?_
            refine q_iast (Sh.arr hI196.1 ka_15) (v194.toInt) rfl (by omega) ?_
            have hI198 := HI.wA0 hI196 ka_15 (p := 15) rfl rfl (v194.toInt) (a2)
            have hF199 := Fr.wA (p := 15) (j := v194.toInt) (v := a2) hF197 rfl
            refine r_aload_n rfl ?_
            refine q_getR (Sh.ref hI198.1 kx_0 rfl) ?_
            refine r_dup rfl ?_
            refine q_getI (Sh.int hI198.1 kx_1 rfl) v194 (((gI_sW).trans (gI_sW)).trans hv194) ?_
            refine r_iconst 1 rfl ?_
            refine q_iadd (v194.toInt + 1) rfl (by omega) (fun v200 hv200 => ?_)
            refine q_putI (Sh.int hI198.1 kx_1 rfl) rfl ?_
            have hI201 := HI.wI1 hI198 kx_1 rfl (p := 1) (b := 12) (v := v200) rfl (by dsimp only; omega)
            have hF202 := Fr.wI (p := 1) (b := 12) (v := v200) hF199 rfl
            refine r_aload_n rfl ?_
            refine r_aload_n rfl ?_
            refine q_getR (Sh.ref hI201.1 kx_0 rfl) ?_
            refine q_getI (Sh.int hI201.1 kx_1 rfl) v200 (gI_sI_eq hI198.1 kx_1 rfl _) ?_
            refine q_inlV 109 rfl [.ref 0, .int v200] [] (Nat.le_of_ble_eq_true rfl) rfl ?_
            refine Ev.mk rfl rfl ⟨Nat.le_of_ble_eq_true rfl, Or.inr (q_rc hI201.1 kx_0 rfl)⟩ ?_
            show At _ none _ _ (0, [(0, .ref 0), (1, .int v200)], [], (_, _)) _
            refine At.enter rfl ?_
            refine r_aload_n rfl ?_
            refine r_iconst 0 rfl ?_
            refine q_putI (Sh.int hI201.1 kx_0 rfl) rfl ?_
            have hI203 := HI.wI0 hI201 kx_0 rfl (p := 0) (b := 17) (v := 0) rfl
            have hF204 := Fr.wI (p := 0) (b := 17) (v := 0) hF202 rfl
            refine r_iload_n rfl ?_
            refine q_ireti ?_
            refine At.enter rfl ?_
            refine r_ireti ?_
            obtain ⟨v205, hv205⟩ : ∃ v, eA g0 233 4 = v := ⟨_, rfl⟩
            have wv205 := HI.t4 hI0
            rw [hv205] at wv205
            have tv205 := congrArg Int32.toInt hv205
            have x206 := HI.eqA hI203 (p := 233) (j := 4) ((((eA_c gA_sI).trans ((eA_c gA_sI).trans ((eA_c (gA_sA_ne (by decide))).trans (eA_c (gA_sA_ne (by decide)))))).trans hv205))
            obtain ⟨v207, hv207⟩ : ∃ v, eA g0 233 0 = v := ⟨_, rfl⟩
            have tv207 := congrArg Int32.toInt hv207
            have wv207 := HI.t0 hI0
            rw [hv207] at wv207
            have tv207 := congrArg Int32.toInt hv207
            have x208 := HI.eqA hI203 (p := 233) (j := 0) ((((eA_c gA_sI).trans ((eA_c gA_sI).trans ((eA_c (gA_sA_ne (by decide))).trans (eA_c (gA_sA_ne (by decide)))))).trans hv207))
            obtain ⟨v209, hv209⟩ : ∃ v, eA g0 233 5 = v := ⟨_, rfl⟩
            have wv209 := HI.t5 hI0
            rw [hv209] at wv209
            have tv209 := congrArg Int32.toInt hv209
            have x210 := HI.eqA hI203 (p := 233) (j := 5) ((((eA_c gA_sI).trans ((eA_c gA_sI).trans ((eA_c (gA_sA_ne (by decide))).trans (eA_c (gA_sA_ne (by decide)))))).trans hv209))
            obtain ⟨v211, hv211⟩ : ∃ v, eA g0 233 6 = v := ⟨_, rfl⟩
            have wv211 := HI.t6 hI0
            rw [hv211] at wv211
            have tv211 := congrArg Int32.toInt hv211
            have x212 := HI.eqA hI203 (p := 233) (j := 6) ((((eA_c gA_sI).trans ((eA_c gA_sI).trans ((eA_c (gA_sA_ne (by decide))).trans (eA_c (gA_sA_ne (by decide)))))).trans hv211))
            have x213 := HI.eqA hI0 (p := 233) (j := 4) (hv205)
            have x214 := HI.eqA hI0 (p := 233) (j := 0) (hv207)
            have x215 := HI.eqA hI0 (p := 233) (j := 0) (hv207)
            have x216 := HI.eqA hI0 (p := 233) (j := 5) (hv209)
            have x217 := HI.eqA hI0 (p := 233) (j := 6) (hv211)
            exact ⟨_, rfl, hI203, hF204, _, rfl, by omega, ⟨by omega, by omega, by omega, by omega⟩⟩
          · have c195_ : v194.toInt ≥ 8 := en_i_lt_f c195
            refine At.enter rfl ?_
            refine r_aload_n rfl ?_
            refine r_bipush (-5) rfl ?_
            refine r_callV 52 rfl [.ref 0, .int (-5)] [] (Nat.le_of_ble_eq_true rfl) rfl (T_X10_refused_0 _ hI0 (-5) (by decide)) ?_
            rintro _ _ ⟨g218, rfl, hI219, hF220, v221, rfl, hr222⟩
            refine At.sti ?_
            have hF223 := Fr.tr hF0 hF220 rfl rfl
            have zv224 : ((-5) : Int32).toInt = (-5) := rfl
            refine At.enter rfl ?_
            refine r_ireti ?_
            obtain ⟨v225, hv225⟩ : ∃ v, eA g0 233 4 = v := ⟨_, rfl⟩
            have wv225 := HI.t4 hI0
            rw [hv225] at wv225
            have tv225 := congrArg Int32.toInt hv225
            have x226 := HI.eqA hI219 (p := 233) (j := 4) (((eA_c (hF220.2.1 233 (by decide))).trans hv225))
            obtain ⟨v227, hv227⟩ : ∃ v, eA g0 233 0 = v := ⟨_, rfl⟩
            have tv227 := congrArg Int32.toInt hv227
            have wv227 := HI.t0 hI0
            rw [hv227] at wv227
            have tv227 := congrArg Int32.toInt hv227
            have x228 := HI.eqA hI219 (p := 233) (j := 0) (((eA_c (hF220.2.1 233 (by decide))).trans hv227))
            obtain ⟨v229, hv229⟩ : ∃ v, eA g0 233 5 = v := ⟨_, rfl⟩
            have wv229 := HI.t5 hI0
            rw [hv229] at wv229
            have tv229 := congrArg Int32.toInt hv229
            have x230 := HI.eqA hI219 (p := 233) (j := 5) (((eA_c (hF220.2.1 233 (by decide))).trans hv229))
            obtain ⟨v231, hv231⟩ : ∃ v, eA g0 233 6 = v := ⟨_, rfl⟩
            have wv231 := HI.t6 hI0
            rw [hv231] at wv231
            have tv231 := congrArg Int32.toInt hv231
            have x232 := HI.eqA hI219 (p := 233) (j := 6) (((eA_c (hF220.2.1 233 (by decide))).trans hv231))
            have x233 := HI.eqA hI0 (p := 233) (j := 4) (hv225)
            have x234 := HI.eqA hI0 (p := 233) (j := 0) (hv227)
            have x235 := HI.eqA hI0 (p := 233) (j := 0) (hv227)
            have x236 := HI.eqA hI0 (p := 233) (j := 5) (hv229)
            have x237 := HI.eqA hI0 (p := 233) (j := 6) (hv231)
            exact ⟨_, rfl, hI219, hF223, _, rfl, by omega, ⟨by omega, by omega, by omega, by omega⟩⟩

def F_X10_clear_0 : List (Nat × Nat) := [(1, 12)]
def A_X10_clear_0 : List Nat := []
set_option maxRecDepth 100000 in
set_option maxHeartbeats 4000000 in
theorem T_X10_clear_0 (d : Nat) {N : Nat} {g0 : List en_E} (hI0 : HI g0) : Ev (d + 1) 135 [.ref 0] (g0, N) (fun w h' => ∃ g', h' = (g', N) ∧ HI g' ∧ Fr F_X10_clear_0 A_X10_clear_0 g0 g' ∧ ∃ r : Int32, w = some (.int r) ∧ (0 ≤ r.toInt ∧ r.toInt ≤ 8) ∧ (r.toInt = (gI g0 1 12).toInt ∧ (gI g' 1 12).toInt = 0)) := by
  have hF0 : Fr F_X10_clear_0 A_X10_clear_0 g0 g0 := Fr.rf
  refine Ev.mk rfl rfl ⟨Nat.le_of_ble_eq_true rfl, Or.inr (q_rc hI0.1 kx_0 rfl)⟩ ?_
  show At _ none _ _ (0, [(0, .ref 0)], [], (_, _)) _
  refine At.enter rfl ?_
  refine r_aload_n rfl ?_
  refine q_getR (Sh.ref hI0.1 kx_0 rfl) ?_
  obtain ⟨v7, hv7⟩ : ∃ v, gI g0 1 12 = v := ⟨_, rfl⟩
  have rv7 := RgF.at hI0.2.1 (p := 1) (b := 12) rfl
  rw [hv7] at rv7
  dsimp only at rv7
  refine q_getI (Sh.int hI0.1 kx_1 rfl) v7 hv7 ?_
  refine r_istore_n ([(1, .int v7), (0, .ref 0)]) rfl ?_
  refine r_aload_n rfl ?_
  refine q_getR (Sh.ref hI0.1 kx_0 rfl) ?_
  refine r_iconst 0 rfl ?_
  refine q_putI (Sh.int hI0.1 kx_1 rfl) rfl ?_
  have hI8 := HI.wI1 hI0 kx_1 rfl (p := 1) (b := 12) (v := 0) rfl (by decide)
  have hF9 := Fr.wI (p := 1) (b := 12) (v := 0) hF0 rfl
  refine r_iload_n rfl ?_
  refine r_ireti ?_
  obtain ⟨v10, hv10⟩ : ∃ v, eA g0 233 4 = v := ⟨_, rfl⟩
  have wv10 := HI.t4 hI0
  rw [hv10] at wv10
  have tv10 := congrArg Int32.toInt hv10
  have x11 := HI.eqA hI8 (p := 233) (j := 4) (((eA_c gA_sI).trans hv10))
  obtain ⟨v12, hv12⟩ : ∃ v, eA g0 233 0 = v := ⟨_, rfl⟩
  have tv12 := congrArg Int32.toInt hv12
  have wv12 := HI.t0 hI0
  rw [hv12] at wv12
  have tv12 := congrArg Int32.toInt hv12
  have x13 := HI.eqA hI8 (p := 233) (j := 0) (((eA_c gA_sI).trans hv12))
  obtain ⟨v14, hv14⟩ : ∃ v, eA g0 233 5 = v := ⟨_, rfl⟩
  have wv14 := HI.t5 hI0
  rw [hv14] at wv14
  have tv14 := congrArg Int32.toInt hv14
  have x15 := HI.eqA hI8 (p := 233) (j := 5) (((eA_c gA_sI).trans hv14))
  obtain ⟨v16, hv16⟩ : ∃ v, eA g0 233 6 = v := ⟨_, rfl⟩
  have wv16 := HI.t6 hI0
  rw [hv16] at wv16
  have tv16 := congrArg Int32.toInt hv16
  have x17 := HI.eqA hI8 (p := 233) (j := 6) (((eA_c gA_sI).trans hv16))
  have x18 := HI.eqA hI0 (p := 233) (j := 4) (hv10)
  have x19 := HI.eqA hI0 (p := 233) (j := 0) (hv12)
  have x20 := HI.eqA hI0 (p := 233) (j := 5) (hv14)
  have x21 := HI.eqA hI0 (p := 233) (j := 6) (hv16)
  exact ⟨_, rfl, hI8, hF9, _, rfl, by omega, ⟨by omega, by omega, by omega, by omega⟩⟩

def F_X10_thieves_0 : List (Nat × Nat) := []
def A_X10_thieves_0 : List Nat := []
set_option maxRecDepth 100000 in
set_option maxHeartbeats 4000000 in
theorem T_X10_thieves_0 (d : Nat) {N : Nat} {g0 : List en_E} (hI0 : HI g0) : Ev (d + 6) 136 [.ref 0] (g0, N) (fun w h' => ∃ g', h' = (g', N) ∧ HI g' ∧ Fr F_X10_thieves_0 A_X10_thieves_0 g0 g' ∧ ∃ r : Int32, w = some (.int r) ∧ True) := by
  have hF0 : Fr F_X10_thieves_0 A_X10_thieves_0 g0 g0 := Fr.rf
  refine Ev.mk rfl rfl ⟨Nat.le_of_ble_eq_true rfl, Or.inr (q_rc hI0.1 kx_0 rfl)⟩ ?_
  show At _ none _ _ (0, [(0, .ref 0)], [], (_, _)) _
  refine At.enter rfl ?_
  refine r_aload_n rfl ?_
  refine q_getR (Sh.ref hI0.1 kx_0 rfl) ?_
  refine r_callV 7 rfl [.ref 184] [] (Nat.le_of_ble_eq_true rfl) rfl (T_X9_suspects_184 _ hI0) ?_
  rintro _ _ ⟨g13, rfl, hI14, hF15, v16, rfl, hr17⟩
  refine At.sti ?_
  have hF18 := Fr.tr hF0 hF15 rfl rfl
  refine At.enter rfl ?_
  refine r_ireti ?_
  exact ⟨_, rfl, hI14, hF18, _, rfl, trivial⟩

def F_X10_meet_0 : List (Nat × Nat) := []
def A_X10_meet_0 : List Nat := []
set_option maxRecDepth 100000 in
set_option maxHeartbeats 4000000 in
theorem T_X10_meet_0 (d : Nat) {N : Nat} {g0 : List en_E} (hI0 : HI g0) (a1 : Int32) (a2 : Int32) (a3 : Int32) : Ev (d + 4) 137 [.ref 0, .int a1, .int a2, .int a3] (g0, N) (fun w h' => ∃ g', h' = (g', N) ∧ HI g' ∧ Fr F_X10_meet_0 A_X10_meet_0 g0 g' ∧ ∃ r : Int32, w = some (.int r) ∧ True) := by
  have hF0 : Fr F_X10_meet_0 A_X10_meet_0 g0 g0 := Fr.rf
  refine Ev.mk rfl rfl ⟨Nat.le_of_ble_eq_true rfl, Or.inr (q_rc hI0.1 kx_0 rfl)⟩ ?_
  show At _ none _ _ (0, [(0, .ref 0), (1, .int a1), (2, .int a2), (3, .int a3)], [], (_, _)) _
  refine At.enter rfl ?_
  refine r_aload_n rfl ?_
  refine q_getR (Sh.ref hI0.1 kx_0 rfl) ?_
  refine r_iload_n rfl ?_
  refine q_inlV 8 rfl [.ref 1, .int a1] [] (Nat.le_of_ble_eq_true rfl) rfl ?_
  refine Ev.mk rfl rfl ⟨Nat.le_of_ble_eq_true rfl, Or.inr (q_rc hI0.1 kx_1 rfl)⟩ ?_
  show At _ none _ _ (0, [(0, .ref 1), (1, .int a1)], [], (_, _)) _
  refine At.enter rfl ?_
  refine r_iload_n rfl ?_
  refine r_ifs 4 rfl (fun c33 => ?_) (fun c33 => ?_)
  · have c33_ : a1.toInt < 0 := en_k_lt_t c33
    refine At.enter rfl ?_
    refine r_iconst 0 rfl ?_
    refine Ar.fall 17 rfl ?_
    refine At.enter rfl ?_
    refine q_iretz (by decide) ?_
    refine At.enter rfl ?_
    refine r_ift (by decide) ?_
    refine At.enter rfl ?_
    refine r_iconst (-1) rfl ?_
    refine r_ireti ?_
    exact ⟨_, rfl, hI0, hF0, _, rfl, trivial⟩
  · have c33_ : a1.toInt ≥ 0 := en_k_lt_f c33
    refine At.enter rfl ?_
    refine r_iload_n rfl ?_
    refine r_aload_n rfl ?_
    obtain ⟨v34, hv34⟩ : ∃ v, gI g0 1 0 = v := ⟨_, rfl⟩
    have rv34 := RgF.at hI0.2.1 (p := 1) (b := 0) rfl
    rw [hv34] at rv34
    dsimp only at rv34
    refine q_getI (Sh.int hI0.1 kx_1 rfl) v34 hv34 ?_
    have bv36 := q_bnd a1
    have bv37 := q_bnd v34
    refine r_ics 12 rfl (fun c35 => ?_) (fun c35 => ?_)
    · have c35_ : a1.toInt ≥ v34.toInt := en_i_ge_t c35
      refine At.enter rfl ?_
      refine r_iconst 0 rfl ?_
      refine Ar.fall 17 rfl ?_
      refine At.enter rfl ?_
      refine q_iretz (by decide) ?_
      refine At.enter rfl ?_
      refine r_ift (by decide) ?_
      refine At.enter rfl ?_
      refine r_iconst (-1) rfl ?_
      refine r_ireti ?_
      exact ⟨_, rfl, hI0, hF0, _, rfl, trivial⟩
    · have c35_ : a1.toInt < v34.toInt := en_i_ge_f c35
      refine At.enter rfl ?_
      refine r_iconst 1 rfl ?_
      refine r_goto ?_
      refine At.enter rfl ?_
      refine q_iretz (by decide) ?_
      refine At.enter rfl ?_
      refine r_iff 11 rfl (by decide) ?_
      refine At.enter rfl ?_
      refine r_aload_n rfl ?_
      refine q_getR (Sh.ref hI0.1 kx_0 rfl) ?_
      refine r_iload_n rfl ?_
      refine q_inlV 19 rfl [.ref 1, .int a2] [] (Nat.le_of_ble_eq_true rfl) rfl ?_
      refine Ev.mk rfl rfl ⟨Nat.le_of_ble_eq_true rfl, Or.inr (q_rc hI0.1 kx_1 rfl)⟩ ?_
      show At _ none _ _ (0, [(0, .ref 1), (1, .int a2)], [], (_, _)) _
      refine At.enter rfl ?_
      refine r_iload_n rfl ?_
      refine r_ifs 4 rfl (fun c38 => ?_) (fun c38 => ?_)
      · have c38_ : a2.toInt < 0 := en_k_lt_t c38
        refine At.enter rfl ?_
        refine r_iconst 0 rfl ?_
        refine Ar.fall 17 rfl ?_
        refine At.enter rfl ?_
        refine q_iretz (by decide) ?_
        refine At.enter rfl ?_
        refine r_ift (by decide) ?_
        refine At.enter rfl ?_
        refine r_iconst (-1) rfl ?_
        refine r_ireti ?_
        exact ⟨_, rfl, hI0, hF0, _, rfl, trivial⟩
      · have c38_ : a2.toInt ≥ 0 := en_k_lt_f c38
        refine At.enter rfl ?_
        refine r_iload_n rfl ?_
        refine r_aload_n rfl ?_
        refine q_getI (Sh.int hI0.1 kx_1 rfl) v34 hv34 ?_
        have bv40 := q_bnd a2
        refine r_ics 12 rfl (fun c39 => ?_) (fun c39 => ?_)
        · have c39_ : a2.toInt ≥ v34.toInt := en_i_ge_t c39
          refine At.enter rfl ?_
          refine r_iconst 0 rfl ?_
          refine Ar.fall 17 rfl ?_
          refine At.enter rfl ?_
          refine q_iretz (by decide) ?_
          refine At.enter rfl ?_
          refine r_ift (by decide) ?_
          refine At.enter rfl ?_
          refine r_iconst (-1) rfl ?_
          refine r_ireti ?_
          exact ⟨_, rfl, hI0, hF0, _, rfl, trivial⟩
        · have c39_ : a2.toInt < v34.toInt := en_i_ge_f c39
          refine At.enter rfl ?_
          refine r_iconst 1 rfl ?_
          refine r_goto ?_
          refine At.enter rfl ?_
          refine q_iretz (by decide) ?_
          refine At.enter rfl ?_
          refine r_iff 22 rfl (by decide) ?_
          refine At.enter rfl ?_
          refine r_iload_n rfl ?_
          refine r_iconst 0 rfl ?_
          refine r_iconst 1 rfl ?_
          refine q_inlS 28 rfl [.int a3, .int 0, .int 1] [] (Nat.le_of_ble_eq_true rfl) rfl ?_
          refine Ev.mk rfl rfl ⟨Nat.le_of_ble_eq_true rfl, Or.inl rfl⟩ ?_
          show At _ none _ _ (0, [(0, .int a3), (1, .int 0), (2, .int 1)], [], (_, _)) _
          refine At.enter rfl ?_
          refine r_iload_n rfl ?_
          refine r_iload_n rfl ?_
          refine r_ics 5 rfl (fun c41 => ?_) (fun c41 => ?_)
          · have c41_ : a3.toInt < 0 := en_i_lt_t c41
            refine At.enter rfl ?_
            refine r_iconst 0 rfl ?_
            refine Ar.fall 15 rfl ?_
            refine At.enter rfl ?_
            refine q_iretz (by decide) ?_
            refine At.enter rfl ?_
            refine r_iff 31 rfl (by decide) ?_
            refine At.enter rfl ?_
            refine r_iconst (-1) rfl ?_
            refine r_ireti ?_
            exact ⟨_, rfl, hI0, hF0, _, rfl, trivial⟩
          · have c41_ : a3.toInt ≥ 0 := en_i_lt_f c41
            refine At.enter rfl ?_
            refine r_iload_n rfl ?_
            refine r_iload_n rfl ?_
            refine r_ics 10 rfl (fun c42 => ?_) (fun c42 => ?_)
            · have c42_ : a3.toInt > 1 := en_i_gt_t c42
              refine At.enter rfl ?_
              refine r_iconst 0 rfl ?_
              refine Ar.fall 15 rfl ?_
              refine At.enter rfl ?_
              refine q_iretz (by decide) ?_
              refine At.enter rfl ?_
              refine r_iff 31 rfl (by decide) ?_
              refine At.enter rfl ?_
              refine r_iconst (-1) rfl ?_
              refine r_ireti ?_
              exact ⟨_, rfl, hI0, hF0, _, rfl, trivial⟩
            · have c42_ : a3.toInt ≤ 1 := en_i_gt_f c42
              refine At.enter rfl ?_
              refine r_iconst 1 rfl ?_
              refine r_goto ?_
              refine At.enter rfl ?_
              refine q_iretz (by decide) ?_
              refine At.enter rfl ?_
              refine r_ift (by decide) ?_
              refine At.enter rfl ?_
              refine r_aload_n rfl ?_
              refine q_getR (Sh.ref hI0.1 kx_0 rfl) ?_
              refine r_iload_n rfl ?_
              refine r_iload_n rfl ?_
              refine r_iload_n rfl ?_
              refine r_callV 43 rfl [.ref 184, .int a1, .int a2, .int a3] [] (Nat.le_of_ble_eq_true rfl) rfl (T_X9_meeting_184 _ hI0 a1 a2 a3) ?_
              rintro _ _ ⟨g43, rfl, hI44, hF45, v46, rfl, hr47⟩
              refine At.sti ?_
              have hF48 := Fr.tr hF0 hF45 rfl rfl
              refine At.enter rfl ?_
              refine r_ireti ?_
              exact ⟨_, rfl, hI44, hF48, _, rfl, trivial⟩

def F_X10_draw_0 : List (Nat × Nat) := [(0, 15), (0, 17), (185, 3), (204, 16), (204, 18)]
def A_X10_draw_0 : List Nat := [205, 206, 207, 208, 209, 210, 211, 212, 213, 214, 215, 216, 218, 219, 228, 229, 230]
set_option maxRecDepth 100000 in
set_option maxHeartbeats 4000000 in
theorem T_X10_draw_0 (d : Nat) {N : Nat} {g0 : List en_E} (hI0 : HI g0) (a1 : Int32) : Ev (d + 6) 138 [.ref 0, .int a1] (g0, N) (fun w h' => ∃ g', h' = (g', N) ∧ HI g' ∧ Fr F_X10_draw_0 A_X10_draw_0 g0 g' ∧ ∃ r : Int32, w = some (.int r) ∧ True) := by
  have hF0 : Fr F_X10_draw_0 A_X10_draw_0 g0 g0 := Fr.rf
  refine Ev.mk rfl rfl ⟨Nat.le_of_ble_eq_true rfl, Or.inr (q_rc hI0.1 kx_0 rfl)⟩ ?_
  show At _ none _ _ (0, [(0, .ref 0), (1, .int a1)], [], (_, _)) _
  refine At.enter rfl ?_
  refine r_iload_n rfl ?_
  refine r_iconst 0 rfl ?_
  refine r_ldcw 1000000 rfl ?_
  refine q_inlS 8 rfl [.int a1, .int 0, .int 1000000] [] (Nat.le_of_ble_eq_true rfl) rfl ?_
  refine Ev.mk rfl rfl ⟨Nat.le_of_ble_eq_true rfl, Or.inl rfl⟩ ?_
  show At _ none _ _ (0, [(0, .int a1), (1, .int 0), (2, .int 1000000)], [], (_, _)) _
  refine At.enter rfl ?_
  refine r_iload_n rfl ?_
  refine r_iload_n rfl ?_
  refine r_ics 5 rfl (fun c7925 => ?_) (fun c7925 => ?_)
  · have c7925_ : a1.toInt < 0 := en_i_lt_t c7925
    refine At.enter rfl ?_
    refine r_iconst 0 rfl ?_
    refine Ar.fall 15 rfl ?_
    refine At.enter rfl ?_
    refine q_iretz (by decide) ?_
    refine At.enter rfl ?_
    refine r_iff 11 rfl (by decide) ?_
    refine At.enter rfl ?_
    refine r_aload_n rfl ?_
    refine r_iconst (-1) rfl ?_
    refine r_callV 16 rfl [.ref 0, .int (-1)] [] (Nat.le_of_ble_eq_true rfl) rfl (T_X10_refused_0 _ hI0 (-1) (by decide)) ?_
    rintro _ _ ⟨g7926, rfl, hI7927, hF7928, v7929, rfl, hr7930⟩
    refine At.sti ?_
    have hF7931 := Fr.tr hF0 hF7928 rfl rfl
    have zv7932 : ((-1) : Int32).toInt = (-1) := rfl
    refine At.enter rfl ?_
    refine r_ireti ?_
    exact ⟨_, rfl, hI7927, hF7931, _, rfl, trivial⟩
  · have c7925_ : a1.toInt ≥ 0 := en_i_lt_f c7925
    refine At.enter rfl ?_
    refine r_iload_n rfl ?_
    refine r_iload_n rfl ?_
    refine r_ics 10 rfl (fun c7933 => ?_) (fun c7933 => ?_)
    · have c7933_ : a1.toInt > 1000000 := en_i_gt_t c7933
      refine At.enter rfl ?_
      refine r_iconst 0 rfl ?_
      refine Ar.fall 15 rfl ?_
      refine At.enter rfl ?_
      refine q_iretz (by decide) ?_
      refine At.enter rfl ?_
      refine r_iff 11 rfl (by decide) ?_
      refine At.enter rfl ?_
      refine r_aload_n rfl ?_
      refine r_iconst (-1) rfl ?_
      refine r_callV 16 rfl [.ref 0, .int (-1)] [] (Nat.le_of_ble_eq_true rfl) rfl (T_X10_refused_0 _ hI0 (-1) (by decide)) ?_
      rintro _ _ ⟨g7934, rfl, hI7935, hF7936, v7937, rfl, hr7938⟩
      refine At.sti ?_
      have hF7939 := Fr.tr hF0 hF7936 rfl rfl
      have zv7940 : ((-1) : Int32).toInt = (-1) := rfl
      refine At.enter rfl ?_
      refine r_ireti ?_
      exact ⟨_, rfl, hI7935, hF7939, _, rfl, trivial⟩
    · have c7933_ : a1.toInt ≤ 1000000 := en_i_gt_f c7933
      refine At.enter rfl ?_
      refine r_iconst 1 rfl ?_
      refine r_goto ?_
      refine At.enter rfl ?_
      refine q_iretz (by decide) ?_
      refine At.enter rfl ?_
      refine r_ift (by decide) ?_
      refine At.enter rfl ?_
      refine r_aload_n rfl ?_
      refine q_getR (Sh.ref hI0.1 kx_0 rfl) ?_
      refine r_iconst 0 rfl ?_
      refine r_callV 25 rfl [.ref 204, .int 0] [] (Nat.le_of_ble_eq_true rfl) rfl (T_X1_layOut_204 _ hI0 0) ?_
      rintro _ _ ⟨g7941, rfl, hI7942, hF7943, rfl⟩
      refine At.stn ?_
      have hF7946 := Fr.tr hF0 hF7943 rfl rfl
      refine At.enter rfl ?_
      refine r_iload_n rfl ?_
      refine r_istore_n ([(2, .int a1), (0, .ref 0), (1, .int a1)]) rfl ?_
      refine r_iconst 0 rfl ?_
      refine r_istore_n ([(3, .int 0), (2, .int a1), (0, .ref 0), (1, .int a1)]) rfl ?_
      refine Ar.fall 29 rfl ?_
      have z_11362 : (0 : Int32).toInt = 0 := rfl
      refine w_loopI (fun n_ l_ g_ => ∃ x11349 : Int32, ∃ x11350 : Int32, n_ = 8 - x11350.toInt ∧ HI g_ ∧ Fr F_X10_draw_0 A_X10_draw_0 g0 g_ ∧ en_get 0 l_ = some (.ref 0) ∧ en_get 1 l_ = some (.int a1) ∧ en_get 2 l_ = some (.int x11349) ∧ en_get 3 l_ = some (.int x11350) ∧ (0 ≤ x11350.toInt ∧ x11350.toInt ≤ 8)) ?_ (8 - 0) ⟨a1, 0, by first | rfl | omega, hI7942, hF7946, rfl, rfl, rfl, rfl, by decide⟩
      rintro n11355 l11354 g11351 ⟨x11349, x11350, hm11363, hI11352, hF11353, e11357, e11358, e11359, e11360, r11361⟩ ih11356
      refine At.enter rfl ?_
      refine r_iload_n e11360 ?_
      refine r_aload_n e11357 ?_
      refine q_getR (Sh.ref hI11352.1 kx_0 rfl) ?_
      obtain ⟨v11364, hv11364⟩ : ∃ v, gI g0 1 4 = v := ⟨_, rfl⟩
      have rv11364 := RgF.at hI0.2.1 (p := 1) (b := 4) rfl
      rw [hv11364] at rv11364
      dsimp only at rv11364
      refine q_getI (Sh.int hI11352.1 kx_1 rfl) v11364 ((hF11353.1 1 4 (by decide)).trans hv11364) ?_
      have bv11366 := q_bnd x11350
      have bv11367 := q_bnd v11364
      refine r_ics 40 rfl (fun c11365 => ?_) (fun c11365 => ?_)
      · have c11365_ : x11350.toInt ≥ v11364.toInt := en_i_ge_t c11365
        refine At.enter rfl ?_
        refine r_iconst 0 rfl ?_
        refine r_istore_n _ rfl ?_
        refine Ar.fall 66 rfl ?_
        have z_11795 : (0 : Int32).toInt = 0 := rfl
        refine w_loopI (fun n_ l_ g_ => ∃ x11782 : Int32, ∃ x11783 : Int32, n_ = 12 - x11783.toInt ∧ HI g_ ∧ Fr F_X10_draw_0 A_X10_draw_0 g0 g_ ∧ en_get 0 l_ = some (.ref 0) ∧ en_get 1 l_ = some (.int a1) ∧ en_get 2 l_ = some (.int x11782) ∧ en_get 3 l_ = some (.int x11783) ∧ (0 ≤ x11783.toInt ∧ x11783.toInt ≤ 12)) ?_ (12 - 0) ⟨x11349, 0, by first | rfl | omega, hI11352, hF11353, (w_p1 (by decide) (Or.inr rfl) e11357), (w_p1 (by decide) (Or.inr rfl) e11358), (w_p1 (by decide) (Or.inr rfl) e11359), (w_e1 _ _ _), by decide⟩
        rintro n11788 l11787 g11784 ⟨x11782, x11783, hm11796, hI11785, hF11786, e11790, e11791, e11792, e11793, r11794⟩ ih11789
        refine At.enter rfl ?_
        refine r_iload_n e11793 ?_
        refine r_aload_n e11790 ?_
        refine q_getR (Sh.ref hI11785.1 kx_0 rfl) ?_
        obtain ⟨v11797, hv11797⟩ : ∃ v, gI g0 1 0 = v := ⟨_, rfl⟩
        have rv11797 := RgF.at hI0.2.1 (p := 1) (b := 0) rfl
        rw [hv11797] at rv11797
        dsimp only at rv11797
        refine q_getI (Sh.int hI11785.1 kx_1 rfl) v11797 ((hF11786.1 1 0 (by decide)).trans hv11797) ?_
        have bv11799 := q_bnd x11783
        have bv11800 := q_bnd v11797
        refine r_ics 77 rfl (fun c11798 => ?_) (fun c11798 => ?_)
        · have c11798_ : x11783.toInt ≥ v11797.toInt := en_i_ge_t c11798
          refine At.enter rfl ?_
          refine r_aload_n e11790 ?_
          refine q_getR (Sh.ref hI11785.1 kx_0 rfl) ?_
          refine r_callV 125 rfl [.ref 204] [] (Nat.le_of_ble_eq_true rfl) rfl (T_X1_runWhole_204 _ hI11785) ?_
          rintro _ _ ⟨g11801, rfl, hI11802, hF11803, rfl⟩
          refine At.stn ?_
          have hF11806 := Fr.tr hF11786 hF11803 rfl rfl
          refine At.enter rfl ?_
          refine r_aload_n e11790 ?_
          refine r_aload_n e11790 ?_
          refine q_getR (Sh.ref hI11802.1 kx_0 rfl) ?_
          refine q_getI (Sh.int hI11802.1 kx_1 rfl) v11364 (((hF11803.1 1 4 (by decide)).trans (hF11786.1 1 4 (by decide))).trans hv11364) ?_
          refine q_putI (Sh.int hI11802.1 kx_0 rfl) rfl ?_
          have hI11807 := HI.wI1 hI11802 kx_0 rfl (p := 0) (b := 15) (v := v11364) rfl (by dsimp only; omega)
          have hF11808 := Fr.wI (p := 0) (b := 15) (v := v11364) hF11806 rfl
          refine r_aload_n e11790 ?_
          refine q_getR (Sh.ref hI11807.1 kx_0 rfl) ?_
          refine q_getR (Sh.ref hI11807.1 kx_204 rfl) ?_
          refine r_iconst 0 rfl ?_
          refine r_aload_n e11790 ?_
          refine q_getR (Sh.ref hI11807.1 kx_0 rfl) ?_
          refine r_iconst 0 rfl ?_
          refine r_bipush 8 rfl ?_
          have zv11809 : (0 : Int32).toInt = 0 := rfl
          have zv11810 : (0 : Int32).toInt = 0 := rfl
          have zv11811 : (8 : Int32).toInt = 8 := rfl
          refine q_cpy rfl (Nat.le_of_ble_eq_true rfl) (Sh.arr hI11807.1 ka_212) (Sh.arr hI11807.1 ka_228) ⟨by omega, by omega, by omega, by omega, by omega⟩ ?_
          have hI11812 := HI.cpy0 hI11807 ka_212 ka_228 rfl rfl ((0 : Int32).toInt.toNat) ((0 : Int32).toInt.toNat) ((8 : Int32).toInt.toNat) (by omega) (by omega)
          have hF11813 := Fr.cpy (p0 := 212) (p1 := 228) hF11808 rfl ((0 : Int32).toInt.toNat) ((0 : Int32).toInt.toNat) ((8 : Int32).toInt.toNat)
          refine r_aload_n e11790 ?_
          refine q_getR (Sh.ref hI11812.1 kx_0 rfl) ?_
          refine q_getR (Sh.ref hI11812.1 kx_204 rfl) ?_
          refine r_iconst 0 rfl ?_
          refine r_aload_n e11790 ?_
          refine q_getR (Sh.ref hI11812.1 kx_0 rfl) ?_
          refine r_iconst 0 rfl ?_
          refine r_bipush 8 rfl ?_
          have zv11814 : (0 : Int32).toInt = 0 := rfl
          have zv11815 : (0 : Int32).toInt = 0 := rfl
          have zv11816 : (8 : Int32).toInt = 8 := rfl
          refine q_cpy rfl (Nat.le_of_ble_eq_true rfl) (Sh.arr hI11812.1 ka_207) (Sh.arr hI11812.1 ka_229) ⟨by omega, by omega, by omega, by omega, by omega⟩ ?_
          have hI11817 := HI.cpy0 hI11812 ka_207 ka_229 rfl rfl ((0 : Int32).toInt.toNat) ((0 : Int32).toInt.toNat) ((8 : Int32).toInt.toNat) (by omega) (by omega)
          have hF11818 := Fr.cpy (p0 := 207) (p1 := 229) hF11813 rfl ((0 : Int32).toInt.toNat) ((0 : Int32).toInt.toNat) ((8 : Int32).toInt.toNat)
          refine r_aload_n e11790 ?_
          refine r_aload_n e11790 ?_
          refine q_getR (Sh.ref hI11817.1 kx_0 rfl) ?_
          refine r_callV 180 rfl [.ref 204] [.ref 0] (Nat.le_of_ble_eq_true rfl) rfl (T_X1_comeByNoon_204 _ hI11817) ?_
          rintro _ _ ⟨g11819, rfl, hI11820, hF11821, v11822, rfl, hr11823⟩
          refine At.sti ?_
          have hF11824 := Fr.tr hF11818 hF11821 rfl rfl
          refine At.enter rfl ?_
          refine q_inlV 183 rfl [.ref 0, .int v11822] [] (Nat.le_of_ble_eq_true rfl) rfl ?_
          refine Ev.mk rfl rfl ⟨Nat.le_of_ble_eq_true rfl, Or.inr (q_rc hI11820.1 kx_0 rfl)⟩ ?_
          show At _ none _ _ (0, [(0, .ref 0), (1, .int v11822)], [], (_, _)) _
          refine At.enter rfl ?_
          refine r_aload_n rfl ?_
          refine r_iconst 0 rfl ?_
          refine q_putI (Sh.int hI11820.1 kx_0 rfl) rfl ?_
          have hI11825 := HI.wI0 hI11820 kx_0 rfl (p := 0) (b := 17) (v := 0) rfl
          have hF11826 := Fr.wI (p := 0) (b := 17) (v := 0) hF11824 rfl
          refine r_iload_n rfl ?_
          refine q_ireti ?_
          refine At.enter rfl ?_
          refine r_ireti ?_
          exact ⟨_, rfl, hI11825, hF11826, _, rfl, trivial⟩
        · have c11798_ : x11783.toInt < v11797.toInt := en_i_ge_f c11798
          refine At.enter rfl ?_
          refine r_iload_n e11792 ?_
          refine q_inlS 81 rfl [.int x11782] [] (Nat.le_of_ble_eq_true rfl) rfl ?_
          refine Ev.mk rfl rfl ⟨Nat.le_of_ble_eq_true rfl, Or.inl rfl⟩ ?_
          show At _ none _ _ (0, [(0, .int x11782)], [], (_, _)) _
          refine At.enter rfl ?_
          refine r_iload_n rfl ?_
          refine r_sipush 1103 rfl ?_
          refine q_imulO (fun v11827 _ => ?_)
          refine r_sipush 12345 rfl ?_
          refine q_iaddO (fun v11828 _ => ?_)
          refine r_ldcw 1000003 rfl ?_
          refine q_iremO (by decide) (fun v11829 _ => ?_)
          refine q_ireti ?_
          refine At.enter rfl ?_
          refine r_istore_n _ rfl ?_
          refine r_iload_n (w_e1 _ _ _) ?_
          refine r_iconst 3 rfl ?_
          refine q_iremO (by decide) (fun v11830 _ => ?_)
          refine r_ifs 88 rfl (fun c11831 => ?_) (fun c11831 => ?_)
          · have c11831_ : v11830.toInt ≠ 0 := en_k_ne_t c11831
            refine At.enter rfl ?_
            refine q_iinc (w_p1 (by decide) (Or.inr rfl) e11793) (x11783.toInt + 1) rfl (by omega) (fun v11832 hv11832 => ?_)
            refine r_goto ?_
            have bv11833 := q_bnd v11829
            exact ih11789 (12 - v11832.toInt) _ _ ⟨v11829, v11832, by first | rfl | omega, hI11785, hF11786, (w_p1 (by decide) (Or.inr rfl) (w_p1 (by decide) (Or.inr rfl) e11790)), (w_p1 (by decide) (Or.inr rfl) (w_p1 (by decide) (Or.inr rfl) e11791)), (w_p1 (by decide) (Or.inr rfl) (w_e1 _ _ _)), (w_e1 _ _ _), by omega⟩ ⟨by omega, by omega⟩
          · have c11831_ : v11830.toInt = 0 := en_k_ne_f c11831
            refine At.enter rfl ?_
            refine r_aload_n (w_p1 (by decide) (Or.inr rfl) e11790) ?_
            refine q_getR (Sh.ref hI11785.1 kx_0 rfl) ?_
            refine q_getR (Sh.ref hI11785.1 kx_204 rfl) ?_
            refine r_iload_n (w_p1 (by decide) (Or.inr rfl) e11793) ?_
            refine r_iconst 1 rfl ?_
            refine r_aload_n (w_p1 (by decide) (Or.inr rfl) e11790) ?_
            refine q_getR (Sh.ref hI11785.1 kx_0 rfl) ?_
            refine q_getR (Sh.ref hI11785.1 kx_204 rfl) ?_
            refine r_iload_n (w_p1 (by decide) (Or.inr rfl) e11793) ?_
            obtain ⟨v11834, hv11834⟩ : ∃ v, eA g11784 205 x11783.toInt = v := ⟨_, rfl⟩
            refine q_iald (Sh.arr hI11785.1 ka_205) x11783.toInt rfl (by omega) v11834 hv11834 ?_
            refine r_iconst 1 rfl ?_
            refine q_isubO (fun v11835 _ => ?_)
            refine q_mmax rfl (Nat.le_of_ble_eq_true rfl) (fun v11836 hv11836 => ?_)
            have zv11837 : (1 : Int32).toInt = 1 := rfl
            refine q_iast (Sh.arr hI11785.1 ka_205) (x11783.toInt) rfl (by omega) ?_
            have hI11838 := HI.wA0 hI11785 ka_205 (p := 205) rfl rfl (x11783.toInt) (v11836)
            have hF11839 := Fr.wA (p := 205) (j := x11783.toInt) (v := v11836) hF11786 rfl
            refine Ar.fall 112 rfl ?_
            refine At.enter rfl ?_
            refine q_iinc (w_p1 (by decide) (Or.inr rfl) e11793) (x11783.toInt + 1) rfl (by omega) (fun v11840 hv11840 => ?_)
            refine r_goto ?_
            have bv11841 := q_bnd v11829
            exact ih11789 (12 - v11840.toInt) _ _ ⟨v11829, v11840, by first | rfl | omega, hI11838, hF11839, (w_p1 (by decide) (Or.inr rfl) (w_p1 (by decide) (Or.inr rfl) e11790)), (w_p1 (by decide) (Or.inr rfl) (w_p1 (by decide) (Or.inr rfl) e11791)), (w_p1 (by decide) (Or.inr rfl) (w_e1 _ _ _)), (w_e1 _ _ _), by omega⟩ ⟨by omega, by omega⟩
      · have c11365_ : x11350.toInt < v11364.toInt := en_i_ge_f c11365
        refine At.enter rfl ?_
        refine r_iload_n e11359 ?_
        refine q_inlS 44 rfl [.int x11349] [] (Nat.le_of_ble_eq_true rfl) rfl ?_
        refine Ev.mk rfl rfl ⟨Nat.le_of_ble_eq_true rfl, Or.inl rfl⟩ ?_
        show At _ none _ _ (0, [(0, .int x11349)], [], (_, _)) _
        refine At.enter rfl ?_
        refine r_iload_n rfl ?_
        refine r_sipush 1103 rfl ?_
        refine q_imulO (fun v11842 _ => ?_)
        refine r_sipush 12345 rfl ?_
        refine q_iaddO (fun v11843 _ => ?_)
        refine r_ldcw 1000003 rfl ?_
        refine q_iremO (by decide) (fun v11844 _ => ?_)
        refine q_ireti ?_
        refine At.enter rfl ?_
        refine r_istore_n _ rfl ?_
        refine r_aload_n (w_p1 (by decide) (Or.inr rfl) e11357) ?_
        refine q_getR (Sh.ref hI11352.1 kx_0 rfl) ?_
        refine q_getR (Sh.ref hI11352.1 kx_204 rfl) ?_
        refine r_iload_n (w_p1 (by decide) (Or.inr rfl) e11360) ?_
        refine r_iload_n (w_e1 _ _ _) ?_
        refine r_bipush 30 rfl ?_
        refine q_iremO (by decide) (fun v11845 _ => ?_)
        refine q_iast (Sh.arr hI11352.1 ka_207) (x11350.toInt) rfl (by omega) ?_
        have hI11846 := HI.wA0 hI11352 ka_207 (p := 207) rfl rfl (x11350.toInt) (v11845)
        have hF11847 := Fr.wA (p := 207) (j := x11350.toInt) (v := v11845) hF11353 rfl
        refine q_iinc (w_p1 (by decide) (Or.inr rfl) e11360) (x11350.toInt + 1) rfl (by omega) (fun v11848 hv11848 => ?_)
        refine r_goto ?_
        have bv11849 := q_bnd v11844
        exact ih11356 (8 - v11848.toInt) _ _ ⟨v11844, v11848, by first | rfl | omega, hI11846, hF11847, (w_p1 (by decide) (Or.inr rfl) (w_p1 (by decide) (Or.inr rfl) e11357)), (w_p1 (by decide) (Or.inr rfl) (w_p1 (by decide) (Or.inr rfl) e11358)), (w_p1 (by decide) (Or.inr rfl) (w_e1 _ _ _)), (w_e1 _ _ _), by omega⟩ ⟨by omega, by omega⟩

def F_X10_drawn_0 : List (Nat × Nat) := []
def A_X10_drawn_0 : List Nat := []
set_option maxRecDepth 100000 in
set_option maxHeartbeats 4000000 in
theorem T_X10_drawn_0 (d : Nat) {N : Nat} {g0 : List en_E} (hI0 : HI g0) (a1 : Int32) (a2 : Int32) : Ev (d + 2) 139 [.ref 0, .int a1, .int a2] (g0, N) (fun w h' => ∃ g', h' = (g', N) ∧ HI g' ∧ Fr F_X10_drawn_0 A_X10_drawn_0 g0 g' ∧ ∃ r : Int32, w = some (.int r) ∧ True) := by
  have hF0 : Fr F_X10_drawn_0 A_X10_drawn_0 g0 g0 := Fr.rf
  refine Ev.mk rfl rfl ⟨Nat.le_of_ble_eq_true rfl, Or.inr (q_rc hI0.1 kx_0 rfl)⟩ ?_
  show At _ none _ _ (0, [(0, .ref 0), (1, .int a1), (2, .int a2)], [], (_, _)) _
  refine At.enter rfl ?_
  refine r_iload_n rfl ?_
  refine r_iconst 0 rfl ?_
  refine r_aload_n rfl ?_
  obtain ⟨v23, hv23⟩ : ∃ v, gI g0 0 15 = v := ⟨_, rfl⟩
  have rv23 := RgF.at hI0.2.1 (p := 0) (b := 15) rfl
  rw [hv23] at rv23
  dsimp only at rv23
  refine q_getI (Sh.int hI0.1 kx_0 rfl) v23 hv23 ?_
  refine r_iconst 1 rfl ?_
  refine q_isub (v23.toInt - 1) rfl (by omega) (fun v24 hv24 => ?_)
  refine q_inlS 11 rfl [.int a1, .int 0, .int v24] [] (Nat.le_of_ble_eq_true rfl) rfl ?_
  refine Ev.mk rfl rfl ⟨Nat.le_of_ble_eq_true rfl, Or.inl rfl⟩ ?_
  show At _ none _ _ (0, [(0, .int a1), (1, .int 0), (2, .int v24)], [], (_, _)) _
  refine At.enter rfl ?_
  refine r_iload_n rfl ?_
  refine r_iload_n rfl ?_
  refine r_ics 5 rfl (fun c25 => ?_) (fun c25 => ?_)
  · have c25_ : a1.toInt < 0 := en_i_lt_t c25
    refine At.enter rfl ?_
    refine r_iconst 0 rfl ?_
    refine Ar.fall 15 rfl ?_
    refine At.enter rfl ?_
    refine q_iretz (by decide) ?_
    refine At.enter rfl ?_
    refine r_ift (by decide) ?_
    refine At.enter rfl ?_
    refine r_iconst (-1) rfl ?_
    refine r_ireti ?_
    exact ⟨_, rfl, hI0, hF0, _, rfl, trivial⟩
  · have c25_ : a1.toInt ≥ 0 := en_i_lt_f c25
    refine At.enter rfl ?_
    refine r_iload_n rfl ?_
    refine r_iload_n rfl ?_
    have bv27 := q_bnd a1
    have bv28 := q_bnd v24
    refine r_ics 10 rfl (fun c26 => ?_) (fun c26 => ?_)
    · have c26_ : a1.toInt > v24.toInt := en_i_gt_t c26
      refine At.enter rfl ?_
      refine r_iconst 0 rfl ?_
      refine Ar.fall 15 rfl ?_
      refine At.enter rfl ?_
      refine q_iretz (by decide) ?_
      refine At.enter rfl ?_
      refine r_ift (by decide) ?_
      refine At.enter rfl ?_
      refine r_iconst (-1) rfl ?_
      refine r_ireti ?_
      exact ⟨_, rfl, hI0, hF0, _, rfl, trivial⟩
    · have c26_ : a1.toInt ≤ v24.toInt := en_i_gt_f c26
      refine At.enter rfl ?_
      refine r_iconst 1 rfl ?_
      refine r_goto ?_
      refine At.enter rfl ?_
      refine q_iretz (by decide) ?_
      refine At.enter rfl ?_
      refine r_iff 14 rfl (by decide) ?_
      refine At.enter rfl ?_
      refine r_iload_n rfl ?_
      refine r_iconst 0 rfl ?_
      refine r_iconst 1 rfl ?_
      refine q_inlS 20 rfl [.int a2, .int 0, .int 1] [] (Nat.le_of_ble_eq_true rfl) rfl ?_
      refine Ev.mk rfl rfl ⟨Nat.le_of_ble_eq_true rfl, Or.inl rfl⟩ ?_
      show At _ none _ _ (0, [(0, .int a2), (1, .int 0), (2, .int 1)], [], (_, _)) _
      refine At.enter rfl ?_
      refine r_iload_n rfl ?_
      refine r_iload_n rfl ?_
      refine r_ics 5 rfl (fun c29 => ?_) (fun c29 => ?_)
      · have c29_ : a2.toInt < 0 := en_i_lt_t c29
        refine At.enter rfl ?_
        refine r_iconst 0 rfl ?_
        refine Ar.fall 15 rfl ?_
        refine At.enter rfl ?_
        refine q_iretz (by decide) ?_
        refine At.enter rfl ?_
        refine r_iff 23 rfl (by decide) ?_
        refine At.enter rfl ?_
        refine r_iconst (-1) rfl ?_
        refine r_ireti ?_
        exact ⟨_, rfl, hI0, hF0, _, rfl, trivial⟩
      · have c29_ : a2.toInt ≥ 0 := en_i_lt_f c29
        refine At.enter rfl ?_
        refine r_iload_n rfl ?_
        refine r_iload_n rfl ?_
        refine r_ics 10 rfl (fun c30 => ?_) (fun c30 => ?_)
        · have c30_ : a2.toInt > 1 := en_i_gt_t c30
          refine At.enter rfl ?_
          refine r_iconst 0 rfl ?_
          refine Ar.fall 15 rfl ?_
          refine At.enter rfl ?_
          refine q_iretz (by decide) ?_
          refine At.enter rfl ?_
          refine r_iff 23 rfl (by decide) ?_
          refine At.enter rfl ?_
          refine r_iconst (-1) rfl ?_
          refine r_ireti ?_
          exact ⟨_, rfl, hI0, hF0, _, rfl, trivial⟩
        · have c30_ : a2.toInt ≤ 1 := en_i_gt_f c30
          refine At.enter rfl ?_
          refine r_iconst 1 rfl ?_
          refine r_goto ?_
          refine At.enter rfl ?_
          refine q_iretz (by decide) ?_
          refine At.enter rfl ?_
          refine r_ift (by decide) ?_
          refine At.enter rfl ?_
          refine r_iload_n rfl ?_
          refine r_ifs 29 rfl (fun c31 => ?_) (fun c31 => ?_)
          · have c31_ : a2.toInt ≠ 0 := en_k_ne_t c31
            refine At.enter rfl ?_
            refine r_aload_n rfl ?_
            refine q_getR (Sh.ref hI0.1 kx_0 rfl) ?_
            refine r_iload_n rfl ?_
            obtain ⟨v32, hv32⟩ : ∃ v, eA g0 229 a1.toInt = v := ⟨_, rfl⟩
            refine q_iald (Sh.arr hI0.1 ka_229) a1.toInt rfl (by omega) v32 hv32 ?_
            refine Ar.fall 44 rfl ?_
            refine At.enter rfl ?_
            refine r_ireti ?_
            exact ⟨_, rfl, hI0, hF0, _, rfl, trivial⟩
          · have c31_ : a2.toInt = 0 := en_k_ne_f c31
            refine At.enter rfl ?_
            refine r_aload_n rfl ?_
            refine q_getR (Sh.ref hI0.1 kx_0 rfl) ?_
            refine r_iload_n rfl ?_
            obtain ⟨v33, hv33⟩ : ∃ v, eA g0 228 a1.toInt = v := ⟨_, rfl⟩
            refine q_iald (Sh.arr hI0.1 ka_228) a1.toInt rfl (by omega) v33 hv33 ?_
            refine r_goto ?_
            refine At.enter rfl ?_
            refine r_ireti ?_
            exact ⟨_, rfl, hI0, hF0, _, rfl, trivial⟩

def F_X10_image_0 : List (Nat × Nat) := [(0, 17), (7, 0), (7, 3), (7, 4), (16, 0), (16, 3), (16, 4), (23, 0), (23, 3), (23, 4), (30, 0), (30, 3), (30, 4), (37, 0), (37, 3), (37, 4), (44, 0), (44, 3), (44, 4), (51, 0), (51, 3), (51, 4), (59, 0), (59, 4), (59, 6), (59, 9), (59, 10), (59, 11), (59, 12), (65, 0), (65, 3), (65, 4), (74, 0), (74, 3), (74, 4), (81, 0), (81, 3), (81, 4), (88, 0), (88, 3), (88, 4), (95, 0), (95, 3), (95, 4), (102, 0), (102, 3), (102, 4), (109, 0), (109, 3), (109, 4), (116, 0), (116, 4), (116, 6), (116, 9), (116, 10), (116, 11), (116, 12), (122, 0), (122, 3), (122, 4), (131, 0), (131, 3), (131, 4), (138, 0), (138, 3), (138, 4), (145, 0), (145, 3), (145, 4), (152, 0), (152, 3), (152, 4), (159, 0), (159, 3), (159, 4), (166, 0), (166, 3), (166, 4), (177, 0), (177, 3), (177, 4)]
def A_X10_image_0 : List Nat := [8, 9, 10, 11, 12, 13, 17, 18, 19, 20, 21, 22, 24, 25, 26, 27, 28, 29, 31, 32, 33, 34, 35, 36, 38, 39, 40, 41, 42, 43, 45, 46, 47, 48, 49, 50, 52, 53, 54, 55, 56, 57, 60, 61, 62, 63, 66, 67, 68, 69, 70, 71, 72, 73, 75, 76, 77, 78, 79, 80, 82, 83, 84, 85, 86, 87, 89, 90, 91, 92, 93, 94, 96, 97, 98, 99, 100, 101, 103, 104, 105, 106, 107, 108, 110, 111, 112, 113, 114, 115, 117, 118, 119, 120, 123, 124, 125, 126, 127, 128, 129, 130, 132, 133, 134, 135, 136, 137, 139, 140, 141, 142, 143, 144, 146, 147, 148, 149, 150, 151, 153, 154, 155, 156, 157, 158, 160, 161, 162, 163, 164, 165, 167, 168, 169, 170, 171, 172, 173, 178, 179, 180, 181, 182, 183, 230]
set_option maxRecDepth 100000 in
set_option maxHeartbeats 4000000 in
theorem T_X10_image_0 (d : Nat) {N : Nat} {g0 : List en_E} (hI0 : HI g0) (a1 : Int32) : Ev (d + 3) 140 [.ref 0, .int a1] (g0, N) (fun w h' => ∃ g', h' = (g', N) ∧ HI g' ∧ Fr F_X10_image_0 A_X10_image_0 g0 g' ∧ ∃ r : Int32, w = some (.int r) ∧ ((-1) ≤ r.toInt ∧ r.toInt ≤ 0) ∧ ((a1.toInt = 0 → (eA g' 173 0).toInt = 1 ∧ r.toInt = 0 ∧ (gI g' 59 0).toInt = (gI g0 1 0).toInt ∧ (gI g' 59 12).toInt = (gI g0 1 12).toInt ∧ (gI g' 59 10).toInt = (gI g0 1 10).toInt ∧ (gI g' 59 11).toInt = (gI g0 1 11).toInt) ∧ (a1.toInt ≠ 0 → (eA g' 173 0).toInt = (eA g0 173 0).toInt ∧ (gI g' 59 0).toInt = (gI g0 59 0).toInt ∧ (gI g' 59 12).toInt = (gI g0 59 12).toInt ∧ (gI g' 59 10).toInt = (gI g0 59 10).toInt ∧ (gI g' 59 11).toInt = (gI g0 59 11).toInt) ∧ (a1.toInt = 1 → (eA g' 173 1).toInt = 1 ∧ r.toInt = 0 ∧ (gI g' 116 0).toInt = (gI g0 1 0).toInt ∧ (gI g' 116 12).toInt = (gI g0 1 12).toInt ∧ (gI g' 116 10).toInt = (gI g0 1 10).toInt ∧ (gI g' 116 11).toInt = (gI g0 1 11).toInt) ∧ (a1.toInt ≠ 1 → (eA g' 173 1).toInt = (eA g0 173 1).toInt ∧ (gI g' 116 0).toInt = (gI g0 116 0).toInt ∧ (gI g' 116 12).toInt = (gI g0 116 12).toInt ∧ (gI g' 116 10).toInt = (gI g0 116 10).toInt ∧ (gI g' 116 11).toInt = (gI g0 116 11).toInt) ∧ (a1.toInt < 0 ∨ 1 < a1.toInt → r.toInt = -1))) := by
  have hF0 : Fr F_X10_image_0 A_X10_image_0 g0 g0 := Fr.rf
  refine Ev.mk rfl rfl ⟨Nat.le_of_ble_eq_true rfl, Or.inr (q_rc hI0.1 kx_0 rfl)⟩ ?_
  show At _ none _ _ (0, [(0, .ref 0), (1, .int a1)], [], (_, _)) _
  refine At.enter rfl ?_
  refine r_aload_n rfl ?_
  refine r_iload_n rfl ?_
  refine q_inlV 5 rfl [.ref 0, .int a1] [] (Nat.le_of_ble_eq_true rfl) rfl ?_
  refine Ev.mk rfl rfl ⟨Nat.le_of_ble_eq_true rfl, Or.inr (q_rc hI0.1 kx_0 rfl)⟩ ?_
  show At _ none _ _ (0, [(0, .ref 0), (1, .int a1)], [], (_, _)) _
  refine At.enter rfl ?_
  refine r_iload_n rfl ?_
  refine r_iconst 0 rfl ?_
  refine r_iconst 1 rfl ?_
  refine q_inlS 6 rfl [.int a1, .int 0, .int 1] [] (Nat.le_of_ble_eq_true rfl) rfl ?_
  refine Ev.mk rfl rfl ⟨Nat.le_of_ble_eq_true rfl, Or.inl rfl⟩ ?_
  show At _ none _ _ (0, [(0, .int a1), (1, .int 0), (2, .int 1)], [], (_, _)) _
  refine At.enter rfl ?_
  refine r_iload_n rfl ?_
  refine r_iload_n rfl ?_
  refine r_ics 5 rfl (fun c1327 => ?_) (fun c1327 => ?_)
  · have c1327_ : a1.toInt < 0 := en_i_lt_t c1327
    refine At.enter rfl ?_
    refine r_iconst 0 rfl ?_
    refine Ar.fall 15 rfl ?_
    refine At.enter rfl ?_
    refine q_iretz (by decide) ?_
    refine At.enter rfl ?_
    refine r_ift (by decide) ?_
    refine At.enter rfl ?_
    refine r_null ?_
    refine Ar.fall 19 rfl ?_
    refine At.enter rfl ?_
    refine q_zret ?_
    refine At.enter rfl ?_
    refine r_zstore_n ([(2, .null), (0, .ref 0), (1, .int a1)]) rfl ?_
    refine r_zload_n rfl ?_
    refine r_nnz 10 rfl ?_
    refine At.enter rfl ?_
    refine r_aload_n rfl ?_
    refine r_iconst (-1) rfl ?_
    refine r_callV 15 rfl [.ref 0, .int (-1)] [] (Nat.le_of_ble_eq_true rfl) rfl (T_X10_refused_0 _ hI0 (-1) (by decide)) ?_
    rintro _ _ ⟨g1328, rfl, hI1329, hF1330, v1331, rfl, hr1332⟩
    refine At.sti ?_
    have hF1333 := Fr.tr hF0 hF1330 rfl rfl
    have zv1334 : ((-1) : Int32).toInt = (-1) := rfl
    refine At.enter rfl ?_
    refine r_ireti ?_
    obtain ⟨v1335, hv1335⟩ : ∃ v, gI g0 1 0 = v := ⟨_, rfl⟩
    have rv1335 := RgF.at hI0.2.1 (p := 1) (b := 0) rfl
    rw [hv1335] at rv1335
    dsimp only at rv1335
    have tv1335 := congrArg Int32.toInt hv1335
    have x1336 := HI.eqI hI0 (p := 1) (b := 0) (hv1335)
    obtain ⟨v1337, hv1337⟩ : ∃ v, gI g0 1 12 = v := ⟨_, rfl⟩
    have rv1337 := RgF.at hI0.2.1 (p := 1) (b := 12) rfl
    rw [hv1337] at rv1337
    dsimp only at rv1337
    have tv1337 := congrArg Int32.toInt hv1337
    have x1338 := HI.eqI hI0 (p := 1) (b := 12) (hv1337)
    obtain ⟨v1339, hv1339⟩ : ∃ v, gI g0 1 10 = v := ⟨_, rfl⟩
    have tv1339 := congrArg Int32.toInt hv1339
    have x1340 := HI.eqI hI0 (p := 1) (b := 10) (hv1339)
    obtain ⟨v1341, hv1341⟩ : ∃ v, gI g0 1 11 = v := ⟨_, rfl⟩
    have tv1341 := congrArg Int32.toInt hv1341
    have x1342 := HI.eqI hI0 (p := 1) (b := 11) (hv1341)
    obtain ⟨v1343, hv1343⟩ : ∃ v, gI g0 59 0 = v := ⟨_, rfl⟩
    have rv1343 := RgF.at hI0.2.1 (p := 59) (b := 0) rfl
    rw [hv1343] at rv1343
    dsimp only at rv1343
    have tv1343 := congrArg Int32.toInt hv1343
    have x1344 := HI.eqI hI0 (p := 59) (b := 0) (hv1343)
    obtain ⟨v1345, hv1345⟩ : ∃ v, gI g0 59 12 = v := ⟨_, rfl⟩
    have rv1345 := RgF.at hI0.2.1 (p := 59) (b := 12) rfl
    rw [hv1345] at rv1345
    dsimp only at rv1345
    have tv1345 := congrArg Int32.toInt hv1345
    have x1346 := HI.eqI hI0 (p := 59) (b := 12) (hv1345)
    obtain ⟨v1347, hv1347⟩ : ∃ v, gI g0 59 10 = v := ⟨_, rfl⟩
    have tv1347 := congrArg Int32.toInt hv1347
    have x1348 := HI.eqI hI0 (p := 59) (b := 10) (hv1347)
    obtain ⟨v1349, hv1349⟩ : ∃ v, gI g0 59 11 = v := ⟨_, rfl⟩
    have tv1349 := congrArg Int32.toInt hv1349
    have x1350 := HI.eqI hI0 (p := 59) (b := 11) (hv1349)
    obtain ⟨v1351, hv1351⟩ : ∃ v, gI g0 116 0 = v := ⟨_, rfl⟩
    have rv1351 := RgF.at hI0.2.1 (p := 116) (b := 0) rfl
    rw [hv1351] at rv1351
    dsimp only at rv1351
    have tv1351 := congrArg Int32.toInt hv1351
    have x1352 := HI.eqI hI0 (p := 116) (b := 0) (hv1351)
    obtain ⟨v1353, hv1353⟩ : ∃ v, gI g0 116 12 = v := ⟨_, rfl⟩
    have rv1353 := RgF.at hI0.2.1 (p := 116) (b := 12) rfl
    rw [hv1353] at rv1353
    dsimp only at rv1353
    have tv1353 := congrArg Int32.toInt hv1353
    have x1354 := HI.eqI hI0 (p := 116) (b := 12) (hv1353)
    obtain ⟨v1355, hv1355⟩ : ∃ v, gI g0 116 10 = v := ⟨_, rfl⟩
    have tv1355 := congrArg Int32.toInt hv1355
    have x1356 := HI.eqI hI0 (p := 116) (b := 10) (hv1355)
    obtain ⟨v1357, hv1357⟩ : ∃ v, gI g0 116 11 = v := ⟨_, rfl⟩
    have tv1357 := congrArg Int32.toInt hv1357
    have x1358 := HI.eqI hI0 (p := 116) (b := 11) (hv1357)
    obtain ⟨v1359, hv1359⟩ : ∃ v, eA g0 173 0 = v := ⟨_, rfl⟩
    have tv1359 := congrArg Int32.toInt hv1359
    have x1360 := HI.eqA hI0 (p := 173) (j := 0) (hv1359)
    obtain ⟨v1361, hv1361⟩ : ∃ v, eA g0 173 1 = v := ⟨_, rfl⟩
    have tv1361 := congrArg Int32.toInt hv1361
    have x1362 := HI.eqA hI0 (p := 173) (j := 1) (hv1361)
    have x1363 := HI.eqI hI1329 (p := 59) (b := 0) (((hF1330.1 59 0 (by decide)).trans hv1343))
    have x1364 := HI.eqI hI1329 (p := 59) (b := 12) (((hF1330.1 59 12 (by decide)).trans hv1345))
    have x1365 := HI.eqI hI1329 (p := 59) (b := 10) (((hF1330.1 59 10 (by decide)).trans hv1347))
    have x1366 := HI.eqI hI1329 (p := 59) (b := 11) (((hF1330.1 59 11 (by decide)).trans hv1349))
    have x1367 := HI.eqI hI1329 (p := 116) (b := 0) (((hF1330.1 116 0 (by decide)).trans hv1351))
    have x1368 := HI.eqI hI1329 (p := 116) (b := 12) (((hF1330.1 116 12 (by decide)).trans hv1353))
    have x1369 := HI.eqI hI1329 (p := 116) (b := 10) (((hF1330.1 116 10 (by decide)).trans hv1355))
    have x1370 := HI.eqI hI1329 (p := 116) (b := 11) (((hF1330.1 116 11 (by decide)).trans hv1357))
    have x1371 := HI.eqA hI1329 (p := 173) (j := 0) (((eA_c (hF1330.2.1 173 (by decide))).trans hv1359))
    have x1372 := HI.eqA hI1329 (p := 173) (j := 1) (((eA_c (hF1330.2.1 173 (by decide))).trans hv1361))
    exact ⟨_, rfl, hI1329, hF1333, _, rfl, by omega, ⟨by omega, by omega, by omega, by omega, by omega⟩⟩
  · have c1327_ : a1.toInt ≥ 0 := en_i_lt_f c1327
    refine At.enter rfl ?_
    refine r_iload_n rfl ?_
    refine r_iload_n rfl ?_
    refine r_ics 10 rfl (fun c1373 => ?_) (fun c1373 => ?_)
    · have c1373_ : a1.toInt > 1 := en_i_gt_t c1373
      refine At.enter rfl ?_
      refine r_iconst 0 rfl ?_
      refine Ar.fall 15 rfl ?_
      refine At.enter rfl ?_
      refine q_iretz (by decide) ?_
      refine At.enter rfl ?_
      refine r_ift (by decide) ?_
      refine At.enter rfl ?_
      refine r_null ?_
      refine Ar.fall 19 rfl ?_
      refine At.enter rfl ?_
      refine q_zret ?_
      refine At.enter rfl ?_
      refine r_zstore_n ([(2, .null), (0, .ref 0), (1, .int a1)]) rfl ?_
      refine r_zload_n rfl ?_
      refine r_nnz 10 rfl ?_
      refine At.enter rfl ?_
      refine r_aload_n rfl ?_
      refine r_iconst (-1) rfl ?_
      refine r_callV 15 rfl [.ref 0, .int (-1)] [] (Nat.le_of_ble_eq_true rfl) rfl (T_X10_refused_0 _ hI0 (-1) (by decide)) ?_
      rintro _ _ ⟨g1374, rfl, hI1375, hF1376, v1377, rfl, hr1378⟩
      refine At.sti ?_
      have hF1379 := Fr.tr hF0 hF1376 rfl rfl
      have zv1380 : ((-1) : Int32).toInt = (-1) := rfl
      refine At.enter rfl ?_
      refine r_ireti ?_
      obtain ⟨v1381, hv1381⟩ : ∃ v, gI g0 1 0 = v := ⟨_, rfl⟩
      have rv1381 := RgF.at hI0.2.1 (p := 1) (b := 0) rfl
      rw [hv1381] at rv1381
      dsimp only at rv1381
      have tv1381 := congrArg Int32.toInt hv1381
      have x1382 := HI.eqI hI0 (p := 1) (b := 0) (hv1381)
      obtain ⟨v1383, hv1383⟩ : ∃ v, gI g0 1 12 = v := ⟨_, rfl⟩
      have rv1383 := RgF.at hI0.2.1 (p := 1) (b := 12) rfl
      rw [hv1383] at rv1383
      dsimp only at rv1383
      have tv1383 := congrArg Int32.toInt hv1383
      have x1384 := HI.eqI hI0 (p := 1) (b := 12) (hv1383)
      obtain ⟨v1385, hv1385⟩ : ∃ v, gI g0 1 10 = v := ⟨_, rfl⟩
      have tv1385 := congrArg Int32.toInt hv1385
      have x1386 := HI.eqI hI0 (p := 1) (b := 10) (hv1385)
      obtain ⟨v1387, hv1387⟩ : ∃ v, gI g0 1 11 = v := ⟨_, rfl⟩
      have tv1387 := congrArg Int32.toInt hv1387
      have x1388 := HI.eqI hI0 (p := 1) (b := 11) (hv1387)
      obtain ⟨v1389, hv1389⟩ : ∃ v, gI g0 59 0 = v := ⟨_, rfl⟩
      have rv1389 := RgF.at hI0.2.1 (p := 59) (b := 0) rfl
      rw [hv1389] at rv1389
      dsimp only at rv1389
      have tv1389 := congrArg Int32.toInt hv1389
      have x1390 := HI.eqI hI0 (p := 59) (b := 0) (hv1389)
      obtain ⟨v1391, hv1391⟩ : ∃ v, gI g0 59 12 = v := ⟨_, rfl⟩
      have rv1391 := RgF.at hI0.2.1 (p := 59) (b := 12) rfl
      rw [hv1391] at rv1391
      dsimp only at rv1391
      have tv1391 := congrArg Int32.toInt hv1391
      have x1392 := HI.eqI hI0 (p := 59) (b := 12) (hv1391)
      obtain ⟨v1393, hv1393⟩ : ∃ v, gI g0 59 10 = v := ⟨_, rfl⟩
      have tv1393 := congrArg Int32.toInt hv1393
      have x1394 := HI.eqI hI0 (p := 59) (b := 10) (hv1393)
      obtain ⟨v1395, hv1395⟩ : ∃ v, gI g0 59 11 = v := ⟨_, rfl⟩
      have tv1395 := congrArg Int32.toInt hv1395
      have x1396 := HI.eqI hI0 (p := 59) (b := 11) (hv1395)
      obtain ⟨v1397, hv1397⟩ : ∃ v, gI g0 116 0 = v := ⟨_, rfl⟩
      have rv1397 := RgF.at hI0.2.1 (p := 116) (b := 0) rfl
      rw [hv1397] at rv1397
      dsimp only at rv1397
      have tv1397 := congrArg Int32.toInt hv1397
      have x1398 := HI.eqI hI0 (p := 116) (b := 0) (hv1397)
      obtain ⟨v1399, hv1399⟩ : ∃ v, gI g0 116 12 = v := ⟨_, rfl⟩
      have rv1399 := RgF.at hI0.2.1 (p := 116) (b := 12) rfl
      rw [hv1399] at rv1399
      dsimp only at rv1399
      have tv1399 := congrArg Int32.toInt hv1399
      have x1400 := HI.eqI hI0 (p := 116) (b := 12) (hv1399)
      obtain ⟨v1401, hv1401⟩ : ∃ v, gI g0 116 10 = v := ⟨_, rfl⟩
      have tv1401 := congrArg Int32.toInt hv1401
      have x1402 := HI.eqI hI0 (p := 116) (b := 10) (hv1401)
      obtain ⟨v1403, hv1403⟩ : ∃ v, gI g0 116 11 = v := ⟨_, rfl⟩
      have tv1403 := congrArg Int32.toInt hv1403
      have x1404 := HI.eqI hI0 (p := 116) (b := 11) (hv1403)
      obtain ⟨v1405, hv1405⟩ : ∃ v, eA g0 173 0 = v := ⟨_, rfl⟩
      have tv1405 := congrArg Int32.toInt hv1405
      have x1406 := HI.eqA hI0 (p := 173) (j := 0) (hv1405)
      obtain ⟨v1407, hv1407⟩ : ∃ v, eA g0 173 1 = v := ⟨_, rfl⟩
      have tv1407 := congrArg Int32.toInt hv1407
      have x1408 := HI.eqA hI0 (p := 173) (j := 1) (hv1407)
      have x1409 := HI.eqI hI1375 (p := 59) (b := 0) (((hF1376.1 59 0 (by decide)).trans hv1389))
      have x1410 := HI.eqI hI1375 (p := 59) (b := 12) (((hF1376.1 59 12 (by decide)).trans hv1391))
      have x1411 := HI.eqI hI1375 (p := 59) (b := 10) (((hF1376.1 59 10 (by decide)).trans hv1393))
      have x1412 := HI.eqI hI1375 (p := 59) (b := 11) (((hF1376.1 59 11 (by decide)).trans hv1395))
      have x1413 := HI.eqI hI1375 (p := 116) (b := 0) (((hF1376.1 116 0 (by decide)).trans hv1397))
      have x1414 := HI.eqI hI1375 (p := 116) (b := 12) (((hF1376.1 116 12 (by decide)).trans hv1399))
      have x1415 := HI.eqI hI1375 (p := 116) (b := 10) (((hF1376.1 116 10 (by decide)).trans hv1401))
      have x1416 := HI.eqI hI1375 (p := 116) (b := 11) (((hF1376.1 116 11 (by decide)).trans hv1403))
      have x1417 := HI.eqA hI1375 (p := 173) (j := 0) (((eA_c (hF1376.2.1 173 (by decide))).trans hv1405))
      have x1418 := HI.eqA hI1375 (p := 173) (j := 1) (((eA_c (hF1376.2.1 173 (by decide))).trans hv1407))
      exact ⟨_, rfl, hI1375, hF1379, _, rfl, by omega, ⟨by omega, by omega, by omega, by omega, by omega⟩⟩
    · have c1373_ : a1.toInt ≤ 1 := en_i_gt_f c1373
      refine At.enter rfl ?_
      refine r_iconst 1 rfl ?_
      refine r_goto ?_
      refine At.enter rfl ?_
      refine q_iretz (by decide) ?_
      refine At.enter rfl ?_
      refine r_iff 9 rfl (by decide) ?_
      refine At.enter rfl ?_
      refine r_aload_n rfl ?_
      refine q_getR (Sh.ref hI0.1 kx_0 rfl) ?_
      refine r_iload_n rfl ?_
      by_cases c1419_0 : a1.toInt = 0
      · refine q_aald (Sh.rar hI0.1 ka_58) (by decide) 0 (by omega) (by decide) (some 59) rfl ?_
        refine r_goto ?_
        refine At.enter rfl ?_
        refine q_aret ?_
        refine At.enter rfl ?_
        refine r_astore_n ([(2, .ref 59), (0, .ref 0), (1, .int a1)]) rfl ?_
        refine r_aload_n rfl ?_
        refine r_nnr ?_
        refine At.enter rfl ?_
        refine r_aload_n rfl ?_
        refine r_aload_n rfl ?_
        refine q_getR (Sh.ref hI0.1 kx_0 rfl) ?_
        refine q_inlV 24 rfl [.ref 59, .ref 1] [] (Nat.le_of_ble_eq_true rfl) rfl ?_
        refine Ev.mk rfl rfl ⟨Nat.le_of_ble_eq_true rfl, Or.inr (q_rc hI0.1 kx_59 rfl)⟩ ?_
        show At _ none _ _ (0, [(0, .ref 59), (1, .ref 1)], [], (_, _)) _
        refine At.enter rfl ?_
        refine r_aload_n rfl ?_
        refine r_aload_n rfl ?_
        obtain ⟨v1420, hv1420⟩ : ∃ v, gI g0 1 0 = v := ⟨_, rfl⟩
        have rv1420 := RgF.at hI0.2.1 (p := 1) (b := 0) rfl
        rw [hv1420] at rv1420
        dsimp only at rv1420
        refine q_getI (Sh.int hI0.1 kx_1 rfl) v1420 hv1420 ?_
        refine q_putI (Sh.int hI0.1 kx_59 rfl) rfl ?_
        have hI1421 := HI.wI1 hI0 kx_59 rfl (p := 59) (b := 0) (v := v1420) rfl (by dsimp only; omega)
        have hF1422 := Fr.wI (p := 59) (b := 0) (v := v1420) hF0 rfl
        refine r_aload_n rfl ?_
        refine q_getR (Sh.ref hI1421.1 kx_1 rfl) ?_
        refine r_iconst 0 rfl ?_
        refine r_aload_n rfl ?_
        refine q_getR (Sh.ref hI1421.1 kx_59 rfl) ?_
        refine r_iconst 0 rfl ?_
        refine r_bipush 12 rfl ?_
        have zv1423 : (0 : Int32).toInt = 0 := rfl
        have zv1424 : (0 : Int32).toInt = 0 := rfl
        have zv1425 : (12 : Int32).toInt = 12 := rfl
        refine q_cpy rfl (Nat.le_of_ble_eq_true rfl) (Sh.arr hI1421.1 ka_2) (Sh.arr hI1421.1 ka_60) ⟨by omega, by omega, by omega, by omega, by omega⟩ ?_
        have hI1426 := HI.cpy0 hI1421 ka_2 ka_60 rfl rfl ((0 : Int32).toInt.toNat) ((0 : Int32).toInt.toNat) ((12 : Int32).toInt.toNat) (by omega) (by omega)
        have hF1427 := Fr.cpy (p0 := 2) (p1 := 60) hF1422 rfl ((0 : Int32).toInt.toNat) ((0 : Int32).toInt.toNat) ((12 : Int32).toInt.toNat)
        refine r_aload_n rfl ?_
        refine q_getR (Sh.ref hI1426.1 kx_1 rfl) ?_
        refine r_iconst 0 rfl ?_
        refine r_aload_n rfl ?_
        refine q_getR (Sh.ref hI1426.1 kx_59 rfl) ?_
        refine r_iconst 0 rfl ?_
        refine r_bipush 12 rfl ?_
        have zv1428 : (0 : Int32).toInt = 0 := rfl
        have zv1429 : (0 : Int32).toInt = 0 := rfl
        have zv1430 : (12 : Int32).toInt = 12 := rfl
        refine q_cpy rfl (Nat.le_of_ble_eq_true rfl) (Sh.arr hI1426.1 ka_3) (Sh.arr hI1426.1 ka_61) ⟨by omega, by omega, by omega, by omega, by omega⟩ ?_
        have hI1431 := HI.cpy0 hI1426 ka_3 ka_61 rfl rfl ((0 : Int32).toInt.toNat) ((0 : Int32).toInt.toNat) ((12 : Int32).toInt.toNat) (by omega) (by omega)
        have hF1432 := Fr.cpy (p0 := 3) (p1 := 61) hF1427 rfl ((0 : Int32).toInt.toNat) ((0 : Int32).toInt.toNat) ((12 : Int32).toInt.toNat)
        refine r_aload_n rfl ?_
        refine q_getR (Sh.ref hI1431.1 kx_1 rfl) ?_
        refine r_iconst 0 rfl ?_
        refine r_aload_n rfl ?_
        refine q_getR (Sh.ref hI1431.1 kx_59 rfl) ?_
        refine r_iconst 0 rfl ?_
        refine r_bipush 12 rfl ?_
        have zv1433 : (0 : Int32).toInt = 0 := rfl
        have zv1434 : (0 : Int32).toInt = 0 := rfl
        have zv1435 : (12 : Int32).toInt = 12 := rfl
        refine q_cpy rfl (Nat.le_of_ble_eq_true rfl) (Sh.arr hI1431.1 ka_4) (Sh.arr hI1431.1 ka_62) ⟨by omega, by omega, by omega, by omega, by omega⟩ ?_
        have hI1436 := HI.cpy0 hI1431 ka_4 ka_62 rfl rfl ((0 : Int32).toInt.toNat) ((0 : Int32).toInt.toNat) ((12 : Int32).toInt.toNat) (by omega) (by omega)
        have hF1437 := Fr.cpy (p0 := 4) (p1 := 62) hF1432 rfl ((0 : Int32).toInt.toNat) ((0 : Int32).toInt.toNat) ((12 : Int32).toInt.toNat)
        refine r_aload_n rfl ?_
        refine r_aload_n rfl ?_
        obtain ⟨v1438, hv1438⟩ : ∃ v, gI g0 1 4 = v := ⟨_, rfl⟩
        have rv1438 := RgF.at hI0.2.1 (p := 1) (b := 4) rfl
        rw [hv1438] at rv1438
        dsimp only at rv1438
        refine q_getI (Sh.int hI1436.1 kx_1 rfl) v1438 (((gI_sW).trans ((gI_sW).trans ((gI_sW).trans (gI_sI_ne (by decide))))).trans hv1438) ?_
        refine q_putI (Sh.int hI1436.1 kx_59 rfl) rfl ?_
        have hI1439 := HI.wI1 hI1436 kx_59 rfl (p := 59) (b := 4) (v := v1438) rfl (by dsimp only; omega)
        have hF1440 := Fr.wI (p := 59) (b := 4) (v := v1438) hF1437 rfl
        refine r_aload_n rfl ?_
        refine q_getR (Sh.ref hI1439.1 kx_1 rfl) ?_
        refine r_iconst 0 rfl ?_
        refine r_aload_n rfl ?_
        refine q_getR (Sh.ref hI1439.1 kx_59 rfl) ?_
        refine r_iconst 0 rfl ?_
        refine r_bipush 48 rfl ?_
        have zv1441 : (0 : Int32).toInt = 0 := rfl
        have zv1442 : (0 : Int32).toInt = 0 := rfl
        have zv1443 : (48 : Int32).toInt = 48 := rfl
        refine q_cpy rfl (Nat.le_of_ble_eq_true rfl) (Sh.arr hI1439.1 ka_5) (Sh.arr hI1439.1 ka_63) ⟨by omega, by omega, by omega, by omega, by omega⟩ ?_
        have hI1444 := HI.cpy0 hI1439 ka_5 ka_63 rfl rfl ((0 : Int32).toInt.toNat) ((0 : Int32).toInt.toNat) ((48 : Int32).toInt.toNat) (by omega) (by omega)
        have hF1445 := Fr.cpy (p0 := 5) (p1 := 63) hF1440 rfl ((0 : Int32).toInt.toNat) ((0 : Int32).toInt.toNat) ((48 : Int32).toInt.toNat)
        refine r_aload_n rfl ?_
        refine r_aload_n rfl ?_
        obtain ⟨v1446, hv1446⟩ : ∃ v, gI g0 1 6 = v := ⟨_, rfl⟩
        have rv1446 := RgF.at hI0.2.1 (p := 1) (b := 6) rfl
        rw [hv1446] at rv1446
        dsimp only at rv1446
        refine q_getI (Sh.int hI1444.1 kx_1 rfl) v1446 (((gI_sW).trans ((gI_sI_ne (by decide)).trans ((gI_sW).trans ((gI_sW).trans ((gI_sW).trans (gI_sI_ne (by decide))))))).trans hv1446) ?_
        refine q_putI (Sh.int hI1444.1 kx_59 rfl) rfl ?_
        have hI1447 := HI.wI1 hI1444 kx_59 rfl (p := 59) (b := 6) (v := v1446) rfl (by dsimp only; omega)
        have hF1448 := Fr.wI (p := 59) (b := 6) (v := v1446) hF1445 rfl
        refine r_iconst 0 rfl ?_
        refine r_istore_n ([(2, .int 0), (0, .ref 59), (1, .ref 1)]) rfl ?_
        refine Ar.fall 86 rfl ?_
        obtain ⟨v1449, hv1449⟩ : ∃ v, gI g0 59 10 = v := ⟨_, rfl⟩
        have tv1449 := congrArg Int32.toInt hv1449
        obtain ⟨v1450, hv1450⟩ : ∃ v, gI g0 59 11 = v := ⟨_, rfl⟩
        have tv1450 := congrArg Int32.toInt hv1450
        obtain ⟨v1451, hv1451⟩ : ∃ v, gI g0 59 12 = v := ⟨_, rfl⟩
        have rv1451 := RgF.at hI0.2.1 (p := 59) (b := 12) rfl
        rw [hv1451] at rv1451
        dsimp only at rv1451
        have tv1451 := congrArg Int32.toInt hv1451
        obtain ⟨v1452, hv1452⟩ : ∃ v, gI g0 116 0 = v := ⟨_, rfl⟩
        have rv1452 := RgF.at hI0.2.1 (p := 116) (b := 0) rfl
        rw [hv1452] at rv1452
        dsimp only at rv1452
        have tv1452 := congrArg Int32.toInt hv1452
        obtain ⟨v1453, hv1453⟩ : ∃ v, gI g0 116 10 = v := ⟨_, rfl⟩
        have tv1453 := congrArg Int32.toInt hv1453
        obtain ⟨v1454, hv1454⟩ : ∃ v, gI g0 116 11 = v := ⟨_, rfl⟩
        have tv1454 := congrArg Int32.toInt hv1454
        obtain ⟨v1455, hv1455⟩ : ∃ v, gI g0 116 12 = v := ⟨_, rfl⟩
        have rv1455 := RgF.at hI0.2.1 (p := 116) (b := 12) rfl
        rw [hv1455] at rv1455
        dsimp only at rv1455
        have tv1455 := congrArg Int32.toInt hv1455
        obtain ⟨v1456, hv1456⟩ : ∃ v, eA g0 173 0 = v := ⟨_, rfl⟩
        have tv1456 := congrArg Int32.toInt hv1456
        obtain ⟨v1457, hv1457⟩ : ∃ v, eA g0 173 1 = v := ⟨_, rfl⟩
        have tv1457 := congrArg Int32.toInt hv1457
        have z_1685 : (0 : Int32).toInt = 0 := rfl
        refine w_loopI (fun n_ l_ g_ => ∃ x1664 : Int32, n_ = 6 - x1664.toInt ∧ HI g_ ∧ Fr F_X10_image_0 A_X10_image_0 g0 g_ ∧ gI g_ 59 0 = v1420 ∧ gI g_ 59 10 = v1449 ∧ gI g_ 59 11 = v1450 ∧ gI g_ 59 12 = v1451 ∧ gI g_ 116 0 = v1452 ∧ gI g_ 116 10 = v1453 ∧ gI g_ 116 11 = v1454 ∧ gI g_ 116 12 = v1455 ∧ eA g_ 173 0 = v1456 ∧ eA g_ 173 1 = v1457 ∧ en_get 0 l_ = some (.ref 59) ∧ en_get 1 l_ = some (.ref 1) ∧ en_get 2 l_ = some (.int x1664) ∧ (0 ≤ x1664.toInt ∧ x1664.toInt ≤ 6)) ?_ (6 - 0) ⟨0, by first | rfl | omega, hI1447, hF1448, ((gI_sI_ne (by decide)).trans ((gI_sW).trans ((gI_sI_ne (by decide)).trans ((gI_sW).trans ((gI_sW).trans ((gI_sW).trans (gI_sI_eq hI0.1 kx_59 rfl _))))))), (((gI_sI_ne (by decide)).trans ((gI_sW).trans ((gI_sI_ne (by decide)).trans ((gI_sW).trans ((gI_sW).trans ((gI_sW).trans (gI_sI_ne (by decide)))))))).trans hv1449), (((gI_sI_ne (by decide)).trans ((gI_sW).trans ((gI_sI_ne (by decide)).trans ((gI_sW).trans ((gI_sW).trans ((gI_sW).trans (gI_sI_ne (by decide)))))))).trans hv1450), (((gI_sI_ne (by decide)).trans ((gI_sW).trans ((gI_sI_ne (by decide)).trans ((gI_sW).trans ((gI_sW).trans ((gI_sW).trans (gI_sI_ne (by decide)))))))).trans hv1451), (((gI_sI_ne (by decide)).trans ((gI_sW).trans ((gI_sI_ne (by decide)).trans ((gI_sW).trans ((gI_sW).trans ((gI_sW).trans (gI_sI_ne (by decide)))))))).trans hv1452), (((gI_sI_ne (by decide)).trans ((gI_sW).trans ((gI_sI_ne (by decide)).trans ((gI_sW).trans ((gI_sW).trans ((gI_sW).trans (gI_sI_ne (by decide)))))))).trans hv1453), (((gI_sI_ne (by decide)).trans ((gI_sW).trans ((gI_sI_ne (by decide)).trans ((gI_sW).trans ((gI_sW).trans ((gI_sW).trans (gI_sI_ne (by decide)))))))).trans hv1454), (((gI_sI_ne (by decide)).trans ((gI_sW).trans ((gI_sI_ne (by decide)).trans ((gI_sW).trans ((gI_sW).trans ((gI_sW).trans (gI_sI_ne (by decide)))))))).trans hv1455), (((eA_c gA_sI).trans ((eA_c (gA_sW_ne (by decide))).trans ((eA_c gA_sI).trans ((eA_c (gA_sW_ne (by decide))).trans ((eA_c (gA_sW_ne (by decide))).trans ((eA_c (gA_sW_ne (by decide))).trans (eA_c gA_sI))))))).trans hv1456), (((eA_c gA_sI).trans ((eA_c (gA_sW_ne (by decide))).trans ((eA_c gA_sI).trans ((eA_c (gA_sW_ne (by decide))).trans ((eA_c (gA_sW_ne (by decide))).trans ((eA_c (gA_sW_ne (by decide))).trans (eA_c gA_sI))))))).trans hv1457), rfl, rfl, rfl, by decide⟩
        rintro n1669 l1668 g1665 ⟨x1664, hm1686, hI1666, hF1667, e1671, e1672, e1673, e1674, e1675, e1676, e1677, e1678, e1679, e1680, e1681, e1682, e1683, r1684⟩ ih1670
        have tv1687 := congrArg Int32.toInt e1679
        have tv1688 := congrArg Int32.toInt e1680
        have tv1689 := congrArg Int32.toInt e1671
        have tv1690 := congrArg Int32.toInt e1672
        have tv1691 := congrArg Int32.toInt e1673
        have tv1692 := congrArg Int32.toInt e1674
        have tv1693 := congrArg Int32.toInt e1675
        have tv1694 := congrArg Int32.toInt e1676
        have tv1695 := congrArg Int32.toInt e1677
        have tv1696 := congrArg Int32.toInt e1678
        refine At.enter rfl ?_
        refine r_iload_n e1683 ?_
        refine r_bipush 6 rfl ?_
        refine r_ics 92 rfl (fun c1697 => ?_) (fun c1697 => ?_)
        · have c1697_ : x1664.toInt ≥ 6 := en_i_ge_t c1697
          refine At.enter rfl ?_
          refine r_aload_n e1681 ?_
          refine r_aload_n e1682 ?_
          obtain ⟨v1698, hv1698⟩ : ∃ v, gI g0 1 9 = v := ⟨_, rfl⟩
          refine q_getI (Sh.int hI1666.1 kx_1 rfl) v1698 ((hF1667.1 1 9 (by decide)).trans hv1698) ?_
          refine q_putI (Sh.int hI1666.1 kx_59 rfl) rfl ?_
          have hI1699 := HI.wI0 hI1666 kx_59 rfl (p := 59) (b := 9) (v := v1698) rfl
          have hF1700 := Fr.wI (p := 59) (b := 9) (v := v1698) hF1667 rfl
          refine r_aload_n e1681 ?_
          refine r_aload_n e1682 ?_
          obtain ⟨v1701, hv1701⟩ : ∃ v, gI g0 1 10 = v := ⟨_, rfl⟩
          refine q_getI (Sh.int hI1699.1 kx_1 rfl) v1701 (((gI_sI_ne (by decide)).trans (hF1667.1 1 10 (by decide))).trans hv1701) ?_
          refine q_putI (Sh.int hI1699.1 kx_59 rfl) rfl ?_
          have hI1702 := HI.wI0 hI1699 kx_59 rfl (p := 59) (b := 10) (v := v1701) rfl
          have hF1703 := Fr.wI (p := 59) (b := 10) (v := v1701) hF1700 rfl
          refine r_aload_n e1681 ?_
          refine r_aload_n e1682 ?_
          obtain ⟨v1704, hv1704⟩ : ∃ v, gI g0 1 11 = v := ⟨_, rfl⟩
          refine q_getI (Sh.int hI1702.1 kx_1 rfl) v1704 (((gI_sI_ne (by decide)).trans ((gI_sI_ne (by decide)).trans (hF1667.1 1 11 (by decide)))).trans hv1704) ?_
          refine q_putI (Sh.int hI1702.1 kx_59 rfl) rfl ?_
          have hI1705 := HI.wI0 hI1702 kx_59 rfl (p := 59) (b := 11) (v := v1704) rfl
          have hF1706 := Fr.wI (p := 59) (b := 11) (v := v1704) hF1703 rfl
          refine r_aload_n e1681 ?_
          refine r_aload_n e1682 ?_
          obtain ⟨v1707, hv1707⟩ : ∃ v, gI g0 1 12 = v := ⟨_, rfl⟩
          have rv1707 := RgF.at hI0.2.1 (p := 1) (b := 12) rfl
          rw [hv1707] at rv1707
          dsimp only at rv1707
          refine q_getI (Sh.int hI1705.1 kx_1 rfl) v1707 (((gI_sI_ne (by decide)).trans ((gI_sI_ne (by decide)).trans ((gI_sI_ne (by decide)).trans (hF1667.1 1 12 (by decide))))).trans hv1707) ?_
          refine q_putI (Sh.int hI1705.1 kx_59 rfl) rfl ?_
          have hI1708 := HI.wI1 hI1705 kx_59 rfl (p := 59) (b := 12) (v := v1707) rfl (by dsimp only; omega)
          have hF1709 := Fr.wI (p := 59) (b := 12) (v := v1707) hF1706 rfl
          refine r_aload_n e1682 ?_
          refine q_getR (Sh.ref hI1708.1 kx_1 rfl) ?_
          refine r_iconst 0 rfl ?_
          refine r_aload_n e1681 ?_
          refine q_getR (Sh.ref hI1708.1 kx_59 rfl) ?_
          refine r_iconst 0 rfl ?_
          refine r_bipush 8 rfl ?_
          have zv1710 : (0 : Int32).toInt = 0 := rfl
          have zv1711 : (0 : Int32).toInt = 0 := rfl
          have zv1712 : (8 : Int32).toInt = 8 := rfl
          refine q_cpy rfl (Nat.le_of_ble_eq_true rfl) (Sh.arr hI1708.1 ka_14) (Sh.arr hI1708.1 ka_72) ⟨by omega, by omega, by omega, by omega, by omega⟩ ?_
          have hI1713 := HI.cpy0 hI1708 ka_14 ka_72 rfl rfl ((0 : Int32).toInt.toNat) ((0 : Int32).toInt.toNat) ((8 : Int32).toInt.toNat) (by omega) (by omega)
          have hF1714 := Fr.cpy (p0 := 14) (p1 := 72) hF1709 rfl ((0 : Int32).toInt.toNat) ((0 : Int32).toInt.toNat) ((8 : Int32).toInt.toNat)
          refine r_aload_n e1682 ?_
          refine q_getR (Sh.ref hI1713.1 kx_1 rfl) ?_
          refine r_iconst 0 rfl ?_
          refine r_aload_n e1681 ?_
          refine q_getR (Sh.ref hI1713.1 kx_59 rfl) ?_
          refine r_iconst 0 rfl ?_
          refine r_bipush 8 rfl ?_
          have zv1715 : (0 : Int32).toInt = 0 := rfl
          have zv1716 : (0 : Int32).toInt = 0 := rfl
          have zv1717 : (8 : Int32).toInt = 8 := rfl
          refine q_cpy rfl (Nat.le_of_ble_eq_true rfl) (Sh.arr hI1713.1 ka_15) (Sh.arr hI1713.1 ka_73) ⟨by omega, by omega, by omega, by omega, by omega⟩ ?_
          have hI1718 := HI.cpy0 hI1713 ka_15 ka_73 rfl rfl ((0 : Int32).toInt.toNat) ((0 : Int32).toInt.toNat) ((8 : Int32).toInt.toNat) (by omega) (by omega)
          have hF1719 := Fr.cpy (p0 := 15) (p1 := 73) hF1714 rfl ((0 : Int32).toInt.toNat) ((0 : Int32).toInt.toNat) ((8 : Int32).toInt.toNat)
          refine q_vret ?_
          refine At.enter rfl ?_
          refine r_aload_n rfl ?_
          refine q_getR (Sh.ref hI1718.1 kx_0 rfl) ?_
          refine r_iload_n rfl ?_
          refine r_iconst 1 rfl ?_
          refine q_bast (Sh.arr hI1718.1 ka_173) (a1.toInt) rfl (by omega) rfl ?_
          have hI1720 := HI.wA0 hI1718 ka_173 (p := 173) rfl rfl (a1.toInt) (1)
          have hF1721 := Fr.wA (p := 173) (j := a1.toInt) (v := 1) hF1719 rfl
          refine r_aload_n rfl ?_
          refine r_iconst 0 rfl ?_
          refine q_inlV 36 rfl [.ref 0, .int 0] [] (Nat.le_of_ble_eq_true rfl) rfl ?_
          refine Ev.mk rfl rfl ⟨Nat.le_of_ble_eq_true rfl, Or.inr (q_rc hI1720.1 kx_0 rfl)⟩ ?_
          show At _ none _ _ (0, [(0, .ref 0), (1, .int 0)], [], (_, _)) _
          refine At.enter rfl ?_
          refine r_aload_n rfl ?_
          refine r_iconst 0 rfl ?_
          refine q_putI (Sh.int hI1720.1 kx_0 rfl) rfl ?_
          have hI1722 := HI.wI0 hI1720 kx_0 rfl (p := 0) (b := 17) (v := 0) rfl
          have hF1723 := Fr.wI (p := 0) (b := 17) (v := 0) hF1721 rfl
          refine r_iload_n rfl ?_
          refine q_ireti ?_
          refine At.enter rfl ?_
          refine r_ireti ?_
          have zv1724 : (0 : Int32).toInt = 0 := rfl
          have x1725 := HI.eqI hI0 (p := 1) (b := 0) (hv1420)
          have x1726 := HI.eqI hI0 (p := 1) (b := 12) (hv1707)
          have x1727 := HI.eqI hI0 (p := 1) (b := 10) (hv1701)
          have x1728 := HI.eqI hI0 (p := 1) (b := 11) (hv1704)
          obtain ⟨v1729, hv1729⟩ : ∃ v, gI g0 59 0 = v := ⟨_, rfl⟩
          have rv1729 := RgF.at hI0.2.1 (p := 59) (b := 0) rfl
          rw [hv1729] at rv1729
          dsimp only at rv1729
          have tv1729 := congrArg Int32.toInt hv1729
          have x1730 := HI.eqI hI0 (p := 59) (b := 0) (hv1729)
          have x1731 := HI.eqI hI0 (p := 59) (b := 12) (hv1451)
          have x1732 := HI.eqI hI0 (p := 59) (b := 10) (hv1449)
          have x1733 := HI.eqI hI0 (p := 59) (b := 11) (hv1450)
          have x1734 := HI.eqI hI0 (p := 116) (b := 0) (hv1452)
          have x1735 := HI.eqI hI0 (p := 116) (b := 12) (hv1455)
          have x1736 := HI.eqI hI0 (p := 116) (b := 10) (hv1453)
          have x1737 := HI.eqI hI0 (p := 116) (b := 11) (hv1454)
          have x1738 := HI.eqA hI0 (p := 173) (j := 0) (hv1456)
          have x1739 := HI.eqA hI0 (p := 173) (j := 1) (hv1457)
          have x1740 := HI.eqI hI1722 (p := 59) (b := 0) ((((gI_sI_ne (by decide)).trans ((gI_sW).trans ((gI_sW).trans ((gI_sW).trans ((gI_sI_ne (by decide)).trans ((gI_sI_ne (by decide)).trans ((gI_sI_ne (by decide)).trans (gI_sI_ne (by decide))))))))).trans e1671))
          have x1741 := HI.eqI hI1722 (p := 59) (b := 12) (((gI_sI_ne (by decide)).trans ((gI_sW).trans ((gI_sW).trans ((gI_sW).trans (gI_sI_eq hI1705.1 kx_59 rfl _))))))
          have x1742 := HI.eqI hI1722 (p := 59) (b := 10) (((gI_sI_ne (by decide)).trans ((gI_sW).trans ((gI_sW).trans ((gI_sW).trans ((gI_sI_ne (by decide)).trans ((gI_sI_ne (by decide)).trans (gI_sI_eq hI1699.1 kx_59 rfl _))))))))
          have x1743 := HI.eqI hI1722 (p := 59) (b := 11) (((gI_sI_ne (by decide)).trans ((gI_sW).trans ((gI_sW).trans ((gI_sW).trans ((gI_sI_ne (by decide)).trans (gI_sI_eq hI1702.1 kx_59 rfl _)))))))
          have x1744 := HI.eqI hI1722 (p := 116) (b := 0) ((((gI_sI_ne (by decide)).trans ((gI_sW).trans ((gI_sW).trans ((gI_sW).trans ((gI_sI_ne (by decide)).trans ((gI_sI_ne (by decide)).trans ((gI_sI_ne (by decide)).trans (gI_sI_ne (by decide))))))))).trans e1675))
          have x1745 := HI.eqI hI1722 (p := 116) (b := 12) ((((gI_sI_ne (by decide)).trans ((gI_sW).trans ((gI_sW).trans ((gI_sW).trans ((gI_sI_ne (by decide)).trans ((gI_sI_ne (by decide)).trans ((gI_sI_ne (by decide)).trans (gI_sI_ne (by decide))))))))).trans e1678))
          have x1746 := HI.eqI hI1722 (p := 116) (b := 10) ((((gI_sI_ne (by decide)).trans ((gI_sW).trans ((gI_sW).trans ((gI_sW).trans ((gI_sI_ne (by decide)).trans ((gI_sI_ne (by decide)).trans ((gI_sI_ne (by decide)).trans (gI_sI_ne (by decide))))))))).trans e1676))
          have x1747 := HI.eqI hI1722 (p := 116) (b := 11) ((((gI_sI_ne (by decide)).trans ((gI_sW).trans ((gI_sW).trans ((gI_sW).trans ((gI_sI_ne (by decide)).trans ((gI_sI_ne (by decide)).trans ((gI_sI_ne (by decide)).trans (gI_sI_ne (by decide))))))))).trans e1677))
          have x1748 := fun e : a1.toInt = 0 => HI.eqA hI1722 (p := 173) (j := 0) (((eA_c gA_sI).trans (eA_sA_eq hI1718.1 ka_173 (by omega) (by first | decide | omega) (by first | decide | omega))))
          have zv1749 : (1 : Int32).toInt = 1 := rfl
          have x1750 := fun e : a1.toInt = 0 => HI.eqA hI1722 (p := 173) (j := 1) ((((eA_c gA_sI).trans ((eA_sA_ne hI1718.1 ka_173 (by first | decide | omega) (by first | decide | omega) (by first | decide | omega)).trans ((eA_c (gA_sW_ne (by decide))).trans ((eA_c (gA_sW_ne (by decide))).trans ((eA_c gA_sI).trans ((eA_c gA_sI).trans ((eA_c gA_sI).trans (eA_c gA_sI)))))))).trans e1680))
          exact ⟨_, rfl, hI1722, hF1723, _, rfl, by decide, ⟨by omega, by omega, by omega, by omega, by omega⟩⟩
        · have c1697_ : x1664.toInt < 6 := en_i_ge_f c1697
          refine At.enter rfl ?_
          refine r_aload_n e1681 ?_
          refine r_iload_n e1683 ?_
          refine r_callV 97 rfl [.ref 59, .int x1664] [] (Nat.le_of_ble_eq_true rfl) rfl (T_X0_lawAt_59 _ hI1666 x1664) ?_
          rintro _ _ ⟨g1751, rfl, hI1752, hF1753, v1754, rfl, hr1755⟩
          refine At.str ?_
          have hF1756 := Fr.tr hF1667 hF1753 rfl rfl
          refine At.enter rfl ?_
          refine r_aload_n e1682 ?_
          refine r_iload_n e1683 ?_
          refine r_callV 102 rfl [.ref 1, .int x1664] [.ref (v1754)] (Nat.le_of_ble_eq_true rfl) rfl (T_X0_lawAt_1 _ hI1752 x1664) ?_
          rintro _ _ ⟨g1757, rfl, hI1758, hF1759, v1760, rfl, hr1761⟩
          refine At.str ?_
          have hF1762 := Fr.tr hF1756 hF1759 rfl rfl
          refine At.enter rfl ?_
          refine r_callV 105 rfl [.ref (v1754), .ref (v1760)] [] (Nat.le_of_ble_eq_true rfl) rfl (T_X4_become_law _ hI1758 (v1754) hr1755 (v1760) hr1761) ?_
          rintro _ _ ⟨g1763, rfl, hI1764, hF1765, rfl⟩
          refine At.stn ?_
          have hF1768 := Fr.tr hF1762 hF1765 rfl rfl
          refine At.enter rfl ?_
          refine q_iinc e1683 (x1664.toInt + 1) rfl (by omega) (fun v1769 hv1769 => ?_)
          refine r_goto ?_
          exact ih1670 (6 - v1769.toInt) _ _ ⟨v1769, by first | rfl | omega, hI1764, hF1768, (((hF1765.1 59 0 (by decide)).trans ((hF1759.1 59 0 (by decide)).trans (hF1753.1 59 0 (by decide)))).trans e1671), (((hF1765.1 59 10 (by decide)).trans ((hF1759.1 59 10 (by decide)).trans (hF1753.1 59 10 (by decide)))).trans e1672), (((hF1765.1 59 11 (by decide)).trans ((hF1759.1 59 11 (by decide)).trans (hF1753.1 59 11 (by decide)))).trans e1673), (((hF1765.1 59 12 (by decide)).trans ((hF1759.1 59 12 (by decide)).trans (hF1753.1 59 12 (by decide)))).trans e1674), (((hF1765.1 116 0 (by decide)).trans ((hF1759.1 116 0 (by decide)).trans (hF1753.1 116 0 (by decide)))).trans e1675), (((hF1765.1 116 10 (by decide)).trans ((hF1759.1 116 10 (by decide)).trans (hF1753.1 116 10 (by decide)))).trans e1676), (((hF1765.1 116 11 (by decide)).trans ((hF1759.1 116 11 (by decide)).trans (hF1753.1 116 11 (by decide)))).trans e1677), (((hF1765.1 116 12 (by decide)).trans ((hF1759.1 116 12 (by decide)).trans (hF1753.1 116 12 (by decide)))).trans e1678), (((eA_c (hF1765.2.1 173 (by decide))).trans ((eA_c (hF1759.2.1 173 (by decide))).trans (eA_c (hF1753.2.1 173 (by decide))))).trans e1679), (((eA_c (hF1765.2.1 173 (by decide))).trans ((eA_c (hF1759.2.1 173 (by decide))).trans (eA_c (hF1753.2.1 173 (by decide))))).trans e1680), (w_p1 (by decide) (Or.inr rfl) e1681), (w_p1 (by decide) (Or.inr rfl) e1682), (w_e1 _ _ _), by omega⟩ ⟨by omega, by omega⟩
      have c1419_1 : a1.toInt = 1 := by omega
      refine q_aald (Sh.rar hI0.1 ka_58) (by decide) 1 (by omega) (by decide) (some 116) rfl ?_
      refine r_goto ?_
      refine At.enter rfl ?_
      refine q_aret ?_
      refine At.enter rfl ?_
      refine r_astore_n ([(2, .ref 116), (0, .ref 0), (1, .int a1)]) rfl ?_
      refine r_aload_n rfl ?_
      refine r_nnr ?_
      refine At.enter rfl ?_
      refine r_aload_n rfl ?_
      refine r_aload_n rfl ?_
      refine q_getR (Sh.ref hI0.1 kx_0 rfl) ?_
      refine q_inlV 24 rfl [.ref 116, .ref 1] [] (Nat.le_of_ble_eq_true rfl) rfl ?_
      refine Ev.mk rfl rfl ⟨Nat.le_of_ble_eq_true rfl, Or.inr (q_rc hI0.1 kx_116 rfl)⟩ ?_
      show At _ none _ _ (0, [(0, .ref 116), (1, .ref 1)], [], (_, _)) _
      refine At.enter rfl ?_
      refine r_aload_n rfl ?_
      refine r_aload_n rfl ?_
      obtain ⟨v1770, hv1770⟩ : ∃ v, gI g0 1 0 = v := ⟨_, rfl⟩
      have rv1770 := RgF.at hI0.2.1 (p := 1) (b := 0) rfl
      rw [hv1770] at rv1770
      dsimp only at rv1770
      refine q_getI (Sh.int hI0.1 kx_1 rfl) v1770 hv1770 ?_
      refine q_putI (Sh.int hI0.1 kx_116 rfl) rfl ?_
      have hI1771 := HI.wI1 hI0 kx_116 rfl (p := 116) (b := 0) (v := v1770) rfl (by dsimp only; omega)
      have hF1772 := Fr.wI (p := 116) (b := 0) (v := v1770) hF0 rfl
      refine r_aload_n rfl ?_
      refine q_getR (Sh.ref hI1771.1 kx_1 rfl) ?_
      refine r_iconst 0 rfl ?_
      refine r_aload_n rfl ?_
      refine q_getR (Sh.ref hI1771.1 kx_116 rfl) ?_
      refine r_iconst 0 rfl ?_
      refine r_bipush 12 rfl ?_
      have zv1773 : (0 : Int32).toInt = 0 := rfl
      have zv1774 : (0 : Int32).toInt = 0 := rfl
      have zv1775 : (12 : Int32).toInt = 12 := rfl
      refine q_cpy rfl (Nat.le_of_ble_eq_true rfl) (Sh.arr hI1771.1 ka_2) (Sh.arr hI1771.1 ka_117) ⟨by omega, by omega, by omega, by omega, by omega⟩ ?_
      have hI1776 := HI.cpy0 hI1771 ka_2 ka_117 rfl rfl ((0 : Int32).toInt.toNat) ((0 : Int32).toInt.toNat) ((12 : Int32).toInt.toNat) (by omega) (by omega)
      have hF1777 := Fr.cpy (p0 := 2) (p1 := 117) hF1772 rfl ((0 : Int32).toInt.toNat) ((0 : Int32).toInt.toNat) ((12 : Int32).toInt.toNat)
      refine r_aload_n rfl ?_
      refine q_getR (Sh.ref hI1776.1 kx_1 rfl) ?_
      refine r_iconst 0 rfl ?_
      refine r_aload_n rfl ?_
      refine q_getR (Sh.ref hI1776.1 kx_116 rfl) ?_
      refine r_iconst 0 rfl ?_
      refine r_bipush 12 rfl ?_
      have zv1778 : (0 : Int32).toInt = 0 := rfl
      have zv1779 : (0 : Int32).toInt = 0 := rfl
      have zv1780 : (12 : Int32).toInt = 12 := rfl
      refine q_cpy rfl (Nat.le_of_ble_eq_true rfl) (Sh.arr hI1776.1 ka_3) (Sh.arr hI1776.1 ka_118) ⟨by omega, by omega, by omega, by omega, by omega⟩ ?_
      have hI1781 := HI.cpy0 hI1776 ka_3 ka_118 rfl rfl ((0 : Int32).toInt.toNat) ((0 : Int32).toInt.toNat) ((12 : Int32).toInt.toNat) (by omega) (by omega)
      have hF1782 := Fr.cpy (p0 := 3) (p1 := 118) hF1777 rfl ((0 : Int32).toInt.toNat) ((0 : Int32).toInt.toNat) ((12 : Int32).toInt.toNat)
      refine r_aload_n rfl ?_
      refine q_getR (Sh.ref hI1781.1 kx_1 rfl) ?_
      refine r_iconst 0 rfl ?_
      refine r_aload_n rfl ?_
      refine q_getR (Sh.ref hI1781.1 kx_116 rfl) ?_
      refine r_iconst 0 rfl ?_
      refine r_bipush 12 rfl ?_
      have zv1783 : (0 : Int32).toInt = 0 := rfl
      have zv1784 : (0 : Int32).toInt = 0 := rfl
      have zv1785 : (12 : Int32).toInt = 12 := rfl
      refine q_cpy rfl (Nat.le_of_ble_eq_true rfl) (Sh.arr hI1781.1 ka_4) (Sh.arr hI1781.1 ka_119) ⟨by omega, by omega, by omega, by omega, by omega⟩ ?_
      have hI1786 := HI.cpy0 hI1781 ka_4 ka_119 rfl rfl ((0 : Int32).toInt.toNat) ((0 : Int32).toInt.toNat) ((12 : Int32).toInt.toNat) (by omega) (by omega)
      have hF1787 := Fr.cpy (p0 := 4) (p1 := 119) hF1782 rfl ((0 : Int32).toInt.toNat) ((0 : Int32).toInt.toNat) ((12 : Int32).toInt.toNat)
      refine r_aload_n rfl ?_
      refine r_aload_n rfl ?_
      obtain ⟨v1788, hv1788⟩ : ∃ v, gI g0 1 4 = v := ⟨_, rfl⟩
      have rv1788 := RgF.at hI0.2.1 (p := 1) (b := 4) rfl
      rw [hv1788] at rv1788
      dsimp only at rv1788
      refine q_getI (Sh.int hI1786.1 kx_1 rfl) v1788 (((gI_sW).trans ((gI_sW).trans ((gI_sW).trans (gI_sI_ne (by decide))))).trans hv1788) ?_
      refine q_putI (Sh.int hI1786.1 kx_116 rfl) rfl ?_
      have hI1789 := HI.wI1 hI1786 kx_116 rfl (p := 116) (b := 4) (v := v1788) rfl (by dsimp only; omega)
      have hF1790 := Fr.wI (p := 116) (b := 4) (v := v1788) hF1787 rfl
      refine r_aload_n rfl ?_
      refine q_getR (Sh.ref hI1789.1 kx_1 rfl) ?_
      refine r_iconst 0 rfl ?_
      refine r_aload_n rfl ?_
      refine q_getR (Sh.ref hI1789.1 kx_116 rfl) ?_
      refine r_iconst 0 rfl ?_
      refine r_bipush 48 rfl ?_
      have zv1791 : (0 : Int32).toInt = 0 := rfl
      have zv1792 : (0 : Int32).toInt = 0 := rfl
      have zv1793 : (48 : Int32).toInt = 48 := rfl
      refine q_cpy rfl (Nat.le_of_ble_eq_true rfl) (Sh.arr hI1789.1 ka_5) (Sh.arr hI1789.1 ka_120) ⟨by omega, by omega, by omega, by omega, by omega⟩ ?_
      have hI1794 := HI.cpy0 hI1789 ka_5 ka_120 rfl rfl ((0 : Int32).toInt.toNat) ((0 : Int32).toInt.toNat) ((48 : Int32).toInt.toNat) (by omega) (by omega)
      have hF1795 := Fr.cpy (p0 := 5) (p1 := 120) hF1790 rfl ((0 : Int32).toInt.toNat) ((0 : Int32).toInt.toNat) ((48 : Int32).toInt.toNat)
      refine r_aload_n rfl ?_
      refine r_aload_n rfl ?_
      obtain ⟨v1796, hv1796⟩ : ∃ v, gI g0 1 6 = v := ⟨_, rfl⟩
      have rv1796 := RgF.at hI0.2.1 (p := 1) (b := 6) rfl
      rw [hv1796] at rv1796
      dsimp only at rv1796
      refine q_getI (Sh.int hI1794.1 kx_1 rfl) v1796 (((gI_sW).trans ((gI_sI_ne (by decide)).trans ((gI_sW).trans ((gI_sW).trans ((gI_sW).trans (gI_sI_ne (by decide))))))).trans hv1796) ?_
      refine q_putI (Sh.int hI1794.1 kx_116 rfl) rfl ?_
      have hI1797 := HI.wI1 hI1794 kx_116 rfl (p := 116) (b := 6) (v := v1796) rfl (by dsimp only; omega)
      have hF1798 := Fr.wI (p := 116) (b := 6) (v := v1796) hF1795 rfl
      refine r_iconst 0 rfl ?_
      refine r_istore_n ([(2, .int 0), (0, .ref 116), (1, .ref 1)]) rfl ?_
      refine Ar.fall 86 rfl ?_
      obtain ⟨v1799, hv1799⟩ : ∃ v, gI g0 59 0 = v := ⟨_, rfl⟩
      have rv1799 := RgF.at hI0.2.1 (p := 59) (b := 0) rfl
      rw [hv1799] at rv1799
      dsimp only at rv1799
      have tv1799 := congrArg Int32.toInt hv1799
      obtain ⟨v1800, hv1800⟩ : ∃ v, gI g0 59 10 = v := ⟨_, rfl⟩
      have tv1800 := congrArg Int32.toInt hv1800
      obtain ⟨v1801, hv1801⟩ : ∃ v, gI g0 59 11 = v := ⟨_, rfl⟩
      have tv1801 := congrArg Int32.toInt hv1801
      obtain ⟨v1802, hv1802⟩ : ∃ v, gI g0 59 12 = v := ⟨_, rfl⟩
      have rv1802 := RgF.at hI0.2.1 (p := 59) (b := 12) rfl
      rw [hv1802] at rv1802
      dsimp only at rv1802
      have tv1802 := congrArg Int32.toInt hv1802
      obtain ⟨v1803, hv1803⟩ : ∃ v, gI g0 116 10 = v := ⟨_, rfl⟩
      have tv1803 := congrArg Int32.toInt hv1803
      obtain ⟨v1804, hv1804⟩ : ∃ v, gI g0 116 11 = v := ⟨_, rfl⟩
      have tv1804 := congrArg Int32.toInt hv1804
      obtain ⟨v1805, hv1805⟩ : ∃ v, gI g0 116 12 = v := ⟨_, rfl⟩
      have rv1805 := RgF.at hI0.2.1 (p := 116) (b := 12) rfl
      rw [hv1805] at rv1805
      dsimp only at rv1805
      have tv1805 := congrArg Int32.toInt hv1805
      obtain ⟨v1806, hv1806⟩ : ∃ v, eA g0 173 0 = v := ⟨_, rfl⟩
      have tv1806 := congrArg Int32.toInt hv1806
      obtain ⟨v1807, hv1807⟩ : ∃ v, eA g0 173 1 = v := ⟨_, rfl⟩
      have tv1807 := congrArg Int32.toInt hv1807
      have z_2035 : (0 : Int32).toInt = 0 := rfl
      refine w_loopI (fun n_ l_ g_ => ∃ x2014 : Int32, n_ = 6 - x2014.toInt ∧ HI g_ ∧ Fr F_X10_image_0 A_X10_image_0 g0 g_ ∧ gI g_ 59 0 = v1799 ∧ gI g_ 59 10 = v1800 ∧ gI g_ 59 11 = v1801 ∧ gI g_ 59 12 = v1802 ∧ gI g_ 116 0 = v1770 ∧ gI g_ 116 10 = v1803 ∧ gI g_ 116 11 = v1804 ∧ gI g_ 116 12 = v1805 ∧ eA g_ 173 0 = v1806 ∧ eA g_ 173 1 = v1807 ∧ en_get 0 l_ = some (.ref 116) ∧ en_get 1 l_ = some (.ref 1) ∧ en_get 2 l_ = some (.int x2014) ∧ (0 ≤ x2014.toInt ∧ x2014.toInt ≤ 6)) ?_ (6 - 0) ⟨0, by first | rfl | omega, hI1797, hF1798, (((gI_sI_ne (by decide)).trans ((gI_sW).trans ((gI_sI_ne (by decide)).trans ((gI_sW).trans ((gI_sW).trans ((gI_sW).trans (gI_sI_ne (by decide)))))))).trans hv1799), (((gI_sI_ne (by decide)).trans ((gI_sW).trans ((gI_sI_ne (by decide)).trans ((gI_sW).trans ((gI_sW).trans ((gI_sW).trans (gI_sI_ne (by decide)))))))).trans hv1800), (((gI_sI_ne (by decide)).trans ((gI_sW).trans ((gI_sI_ne (by decide)).trans ((gI_sW).trans ((gI_sW).trans ((gI_sW).trans (gI_sI_ne (by decide)))))))).trans hv1801), (((gI_sI_ne (by decide)).trans ((gI_sW).trans ((gI_sI_ne (by decide)).trans ((gI_sW).trans ((gI_sW).trans ((gI_sW).trans (gI_sI_ne (by decide)))))))).trans hv1802), ((gI_sI_ne (by decide)).trans ((gI_sW).trans ((gI_sI_ne (by decide)).trans ((gI_sW).trans ((gI_sW).trans ((gI_sW).trans (gI_sI_eq hI0.1 kx_116 rfl _))))))), (((gI_sI_ne (by decide)).trans ((gI_sW).trans ((gI_sI_ne (by decide)).trans ((gI_sW).trans ((gI_sW).trans ((gI_sW).trans (gI_sI_ne (by decide)))))))).trans hv1803), (((gI_sI_ne (by decide)).trans ((gI_sW).trans ((gI_sI_ne (by decide)).trans ((gI_sW).trans ((gI_sW).trans ((gI_sW).trans (gI_sI_ne (by decide)))))))).trans hv1804), (((gI_sI_ne (by decide)).trans ((gI_sW).trans ((gI_sI_ne (by decide)).trans ((gI_sW).trans ((gI_sW).trans ((gI_sW).trans (gI_sI_ne (by decide)))))))).trans hv1805), (((eA_c gA_sI).trans ((eA_c (gA_sW_ne (by decide))).trans ((eA_c gA_sI).trans ((eA_c (gA_sW_ne (by decide))).trans ((eA_c (gA_sW_ne (by decide))).trans ((eA_c (gA_sW_ne (by decide))).trans (eA_c gA_sI))))))).trans hv1806), (((eA_c gA_sI).trans ((eA_c (gA_sW_ne (by decide))).trans ((eA_c gA_sI).trans ((eA_c (gA_sW_ne (by decide))).trans ((eA_c (gA_sW_ne (by decide))).trans ((eA_c (gA_sW_ne (by decide))).trans (eA_c gA_sI))))))).trans hv1807), rfl, rfl, rfl, by decide⟩
      rintro n2019 l2018 g2015 ⟨x2014, hm2036, hI2016, hF2017, e2021, e2022, e2023, e2024, e2025, e2026, e2027, e2028, e2029, e2030, e2031, e2032, e2033, r2034⟩ ih2020
      have tv2037 := congrArg Int32.toInt e2029
      have tv2038 := congrArg Int32.toInt e2030
      have tv2039 := congrArg Int32.toInt e2021
      have tv2040 := congrArg Int32.toInt e2022
      have tv2041 := congrArg Int32.toInt e2023
      have tv2042 := congrArg Int32.toInt e2024
      have tv2043 := congrArg Int32.toInt e2025
      have tv2044 := congrArg Int32.toInt e2026
      have tv2045 := congrArg Int32.toInt e2027
      have tv2046 := congrArg Int32.toInt e2028
      refine At.enter rfl ?_
      refine r_iload_n e2033 ?_
      refine r_bipush 6 rfl ?_
      refine r_ics 92 rfl (fun c2047 => ?_) (fun c2047 => ?_)
      · have c2047_ : x2014.toInt ≥ 6 := en_i_ge_t c2047
        refine At.enter rfl ?_
        refine r_aload_n e2031 ?_
        refine r_aload_n e2032 ?_
        obtain ⟨v2048, hv2048⟩ : ∃ v, gI g0 1 9 = v := ⟨_, rfl⟩
        refine q_getI (Sh.int hI2016.1 kx_1 rfl) v2048 ((hF2017.1 1 9 (by decide)).trans hv2048) ?_
        refine q_putI (Sh.int hI2016.1 kx_116 rfl) rfl ?_
        have hI2049 := HI.wI0 hI2016 kx_116 rfl (p := 116) (b := 9) (v := v2048) rfl
        have hF2050 := Fr.wI (p := 116) (b := 9) (v := v2048) hF2017 rfl
        refine r_aload_n e2031 ?_
        refine r_aload_n e2032 ?_
        obtain ⟨v2051, hv2051⟩ : ∃ v, gI g0 1 10 = v := ⟨_, rfl⟩
        refine q_getI (Sh.int hI2049.1 kx_1 rfl) v2051 (((gI_sI_ne (by decide)).trans (hF2017.1 1 10 (by decide))).trans hv2051) ?_
        refine q_putI (Sh.int hI2049.1 kx_116 rfl) rfl ?_
        have hI2052 := HI.wI0 hI2049 kx_116 rfl (p := 116) (b := 10) (v := v2051) rfl
        have hF2053 := Fr.wI (p := 116) (b := 10) (v := v2051) hF2050 rfl
        refine r_aload_n e2031 ?_
        refine r_aload_n e2032 ?_
        obtain ⟨v2054, hv2054⟩ : ∃ v, gI g0 1 11 = v := ⟨_, rfl⟩
        refine q_getI (Sh.int hI2052.1 kx_1 rfl) v2054 (((gI_sI_ne (by decide)).trans ((gI_sI_ne (by decide)).trans (hF2017.1 1 11 (by decide)))).trans hv2054) ?_
        refine q_putI (Sh.int hI2052.1 kx_116 rfl) rfl ?_
        have hI2055 := HI.wI0 hI2052 kx_116 rfl (p := 116) (b := 11) (v := v2054) rfl
        have hF2056 := Fr.wI (p := 116) (b := 11) (v := v2054) hF2053 rfl
        refine r_aload_n e2031 ?_
        refine r_aload_n e2032 ?_
        obtain ⟨v2057, hv2057⟩ : ∃ v, gI g0 1 12 = v := ⟨_, rfl⟩
        have rv2057 := RgF.at hI0.2.1 (p := 1) (b := 12) rfl
        rw [hv2057] at rv2057
        dsimp only at rv2057
        refine q_getI (Sh.int hI2055.1 kx_1 rfl) v2057 (((gI_sI_ne (by decide)).trans ((gI_sI_ne (by decide)).trans ((gI_sI_ne (by decide)).trans (hF2017.1 1 12 (by decide))))).trans hv2057) ?_
        refine q_putI (Sh.int hI2055.1 kx_116 rfl) rfl ?_
        have hI2058 := HI.wI1 hI2055 kx_116 rfl (p := 116) (b := 12) (v := v2057) rfl (by dsimp only; omega)
        have hF2059 := Fr.wI (p := 116) (b := 12) (v := v2057) hF2056 rfl
        refine r_aload_n e2032 ?_
        refine q_getR (Sh.ref hI2058.1 kx_1 rfl) ?_
        refine r_iconst 0 rfl ?_
        refine r_aload_n e2031 ?_
        refine q_getR (Sh.ref hI2058.1 kx_116 rfl) ?_
        refine r_iconst 0 rfl ?_
        refine r_bipush 8 rfl ?_
        have zv2060 : (0 : Int32).toInt = 0 := rfl
        have zv2061 : (0 : Int32).toInt = 0 := rfl
        have zv2062 : (8 : Int32).toInt = 8 := rfl
        refine q_cpy rfl (Nat.le_of_ble_eq_true rfl) (Sh.arr hI2058.1 ka_14) (Sh.arr hI2058.1 ka_129) ⟨by omega, by omega, by omega, by omega, by omega⟩ ?_
        have hI2063 := HI.cpy0 hI2058 ka_14 ka_129 rfl rfl ((0 : Int32).toInt.toNat) ((0 : Int32).toInt.toNat) ((8 : Int32).toInt.toNat) (by omega) (by omega)
        have hF2064 := Fr.cpy (p0 := 14) (p1 := 129) hF2059 rfl ((0 : Int32).toInt.toNat) ((0 : Int32).toInt.toNat) ((8 : Int32).toInt.toNat)
        refine r_aload_n e2032 ?_
        refine q_getR (Sh.ref hI2063.1 kx_1 rfl) ?_
        refine r_iconst 0 rfl ?_
        refine r_aload_n e2031 ?_
        refine q_getR (Sh.ref hI2063.1 kx_116 rfl) ?_
        refine r_iconst 0 rfl ?_
        refine r_bipush 8 rfl ?_
        have zv2065 : (0 : Int32).toInt = 0 := rfl
        have zv2066 : (0 : Int32).toInt = 0 := rfl
        have zv2067 : (8 : Int32).toInt = 8 := rfl
        refine q_cpy rfl (Nat.le_of_ble_eq_true rfl) (Sh.arr hI2063.1 ka_15) (Sh.arr hI2063.1 ka_130) ⟨by omega, by omega, by omega, by omega, by omega⟩ ?_
        have hI2068 := HI.cpy0 hI2063 ka_15 ka_130 rfl rfl ((0 : Int32).toInt.toNat) ((0 : Int32).toInt.toNat) ((8 : Int32).toInt.toNat) (by omega) (by omega)
        have hF2069 := Fr.cpy (p0 := 15) (p1 := 130) hF2064 rfl ((0 : Int32).toInt.toNat) ((0 : Int32).toInt.toNat) ((8 : Int32).toInt.toNat)
        refine q_vret ?_
        refine At.enter rfl ?_
        refine r_aload_n rfl ?_
        refine q_getR (Sh.ref hI2068.1 kx_0 rfl) ?_
        refine r_iload_n rfl ?_
        refine r_iconst 1 rfl ?_
        refine q_bast (Sh.arr hI2068.1 ka_173) (a1.toInt) rfl (by omega) rfl ?_
        have hI2070 := HI.wA0 hI2068 ka_173 (p := 173) rfl rfl (a1.toInt) (1)
        have hF2071 := Fr.wA (p := 173) (j := a1.toInt) (v := 1) hF2069 rfl
        refine r_aload_n rfl ?_
        refine r_iconst 0 rfl ?_
        refine q_inlV 36 rfl [.ref 0, .int 0] [] (Nat.le_of_ble_eq_true rfl) rfl ?_
        refine Ev.mk rfl rfl ⟨Nat.le_of_ble_eq_true rfl, Or.inr (q_rc hI2070.1 kx_0 rfl)⟩ ?_
        show At _ none _ _ (0, [(0, .ref 0), (1, .int 0)], [], (_, _)) _
        refine At.enter rfl ?_
        refine r_aload_n rfl ?_
        refine r_iconst 0 rfl ?_
        refine q_putI (Sh.int hI2070.1 kx_0 rfl) rfl ?_
        have hI2072 := HI.wI0 hI2070 kx_0 rfl (p := 0) (b := 17) (v := 0) rfl
        have hF2073 := Fr.wI (p := 0) (b := 17) (v := 0) hF2071 rfl
        refine r_iload_n rfl ?_
        refine q_ireti ?_
        refine At.enter rfl ?_
        refine r_ireti ?_
        have zv2074 : (0 : Int32).toInt = 0 := rfl
        have x2075 := HI.eqI hI0 (p := 1) (b := 0) (hv1770)
        have x2076 := HI.eqI hI0 (p := 1) (b := 12) (hv2057)
        have x2077 := HI.eqI hI0 (p := 1) (b := 10) (hv2051)
        have x2078 := HI.eqI hI0 (p := 1) (b := 11) (hv2054)
        have x2079 := HI.eqI hI0 (p := 59) (b := 0) (hv1799)
        have x2080 := HI.eqI hI0 (p := 59) (b := 12) (hv1802)
        have x2081 := HI.eqI hI0 (p := 59) (b := 10) (hv1800)
        have x2082 := HI.eqI hI0 (p := 59) (b := 11) (hv1801)
        obtain ⟨v2083, hv2083⟩ : ∃ v, gI g0 116 0 = v := ⟨_, rfl⟩
        have rv2083 := RgF.at hI0.2.1 (p := 116) (b := 0) rfl
        rw [hv2083] at rv2083
        dsimp only at rv2083
        have tv2083 := congrArg Int32.toInt hv2083
        have x2084 := HI.eqI hI0 (p := 116) (b := 0) (hv2083)
        have x2085 := HI.eqI hI0 (p := 116) (b := 12) (hv1805)
        have x2086 := HI.eqI hI0 (p := 116) (b := 10) (hv1803)
        have x2087 := HI.eqI hI0 (p := 116) (b := 11) (hv1804)
        have x2088 := HI.eqA hI0 (p := 173) (j := 0) (hv1806)
        have x2089 := HI.eqA hI0 (p := 173) (j := 1) (hv1807)
        have x2090 := HI.eqI hI2072 (p := 59) (b := 0) ((((gI_sI_ne (by decide)).trans ((gI_sW).trans ((gI_sW).trans ((gI_sW).trans ((gI_sI_ne (by decide)).trans ((gI_sI_ne (by decide)).trans ((gI_sI_ne (by decide)).trans (gI_sI_ne (by decide))))))))).trans e2021))
        have x2091 := HI.eqI hI2072 (p := 59) (b := 12) ((((gI_sI_ne (by decide)).trans ((gI_sW).trans ((gI_sW).trans ((gI_sW).trans ((gI_sI_ne (by decide)).trans ((gI_sI_ne (by decide)).trans ((gI_sI_ne (by decide)).trans (gI_sI_ne (by decide))))))))).trans e2024))
        have x2092 := HI.eqI hI2072 (p := 59) (b := 10) ((((gI_sI_ne (by decide)).trans ((gI_sW).trans ((gI_sW).trans ((gI_sW).trans ((gI_sI_ne (by decide)).trans ((gI_sI_ne (by decide)).trans ((gI_sI_ne (by decide)).trans (gI_sI_ne (by decide))))))))).trans e2022))
        have x2093 := HI.eqI hI2072 (p := 59) (b := 11) ((((gI_sI_ne (by decide)).trans ((gI_sW).trans ((gI_sW).trans ((gI_sW).trans ((gI_sI_ne (by decide)).trans ((gI_sI_ne (by decide)).trans ((gI_sI_ne (by decide)).trans (gI_sI_ne (by decide))))))))).trans e2023))
        have x2094 := HI.eqI hI2072 (p := 116) (b := 0) ((((gI_sI_ne (by decide)).trans ((gI_sW).trans ((gI_sW).trans ((gI_sW).trans ((gI_sI_ne (by decide)).trans ((gI_sI_ne (by decide)).trans ((gI_sI_ne (by decide)).trans (gI_sI_ne (by decide))))))))).trans e2025))
        have x2095 := HI.eqI hI2072 (p := 116) (b := 12) (((gI_sI_ne (by decide)).trans ((gI_sW).trans ((gI_sW).trans ((gI_sW).trans (gI_sI_eq hI2055.1 kx_116 rfl _))))))
        have x2096 := HI.eqI hI2072 (p := 116) (b := 10) (((gI_sI_ne (by decide)).trans ((gI_sW).trans ((gI_sW).trans ((gI_sW).trans ((gI_sI_ne (by decide)).trans ((gI_sI_ne (by decide)).trans (gI_sI_eq hI2049.1 kx_116 rfl _))))))))
        have x2097 := HI.eqI hI2072 (p := 116) (b := 11) (((gI_sI_ne (by decide)).trans ((gI_sW).trans ((gI_sW).trans ((gI_sW).trans ((gI_sI_ne (by decide)).trans (gI_sI_eq hI2052.1 kx_116 rfl _)))))))
        have x2098 := fun e : a1.toInt = 1 => HI.eqA hI2072 (p := 173) (j := 0) ((((eA_c gA_sI).trans ((eA_sA_ne hI2068.1 ka_173 (by first | decide | omega) (by first | decide | omega) (by first | decide | omega)).trans ((eA_c (gA_sW_ne (by decide))).trans ((eA_c (gA_sW_ne (by decide))).trans ((eA_c gA_sI).trans ((eA_c gA_sI).trans ((eA_c gA_sI).trans (eA_c gA_sI)))))))).trans e2029))
        have x2099 := fun e : a1.toInt = 1 => HI.eqA hI2072 (p := 173) (j := 1) (((eA_c gA_sI).trans (eA_sA_eq hI2068.1 ka_173 (by omega) (by first | decide | omega) (by first | decide | omega))))
        have zv2100 : (1 : Int32).toInt = 1 := rfl
        exact ⟨_, rfl, hI2072, hF2073, _, rfl, by decide, ⟨by omega, by omega, by omega, by omega, by omega⟩⟩
      · have c2047_ : x2014.toInt < 6 := en_i_ge_f c2047
        refine At.enter rfl ?_
        refine r_aload_n e2031 ?_
        refine r_iload_n e2033 ?_
        refine r_callV 97 rfl [.ref 116, .int x2014] [] (Nat.le_of_ble_eq_true rfl) rfl (T_X0_lawAt_116 _ hI2016 x2014) ?_
        rintro _ _ ⟨g2101, rfl, hI2102, hF2103, v2104, rfl, hr2105⟩
        refine At.str ?_
        have hF2106 := Fr.tr hF2017 hF2103 rfl rfl
        refine At.enter rfl ?_
        refine r_aload_n e2032 ?_
        refine r_iload_n e2033 ?_
        refine r_callV 102 rfl [.ref 1, .int x2014] [.ref (v2104)] (Nat.le_of_ble_eq_true rfl) rfl (T_X0_lawAt_1 _ hI2102 x2014) ?_
        rintro _ _ ⟨g2107, rfl, hI2108, hF2109, v2110, rfl, hr2111⟩
        refine At.str ?_
        have hF2112 := Fr.tr hF2106 hF2109 rfl rfl
        refine At.enter rfl ?_
        refine r_callV 105 rfl [.ref (v2104), .ref (v2110)] [] (Nat.le_of_ble_eq_true rfl) rfl (T_X4_become_law _ hI2108 (v2104) hr2105 (v2110) hr2111) ?_
        rintro _ _ ⟨g2113, rfl, hI2114, hF2115, rfl⟩
        refine At.stn ?_
        have hF2118 := Fr.tr hF2112 hF2115 rfl rfl
        refine At.enter rfl ?_
        refine q_iinc e2033 (x2014.toInt + 1) rfl (by omega) (fun v2119 hv2119 => ?_)
        refine r_goto ?_
        exact ih2020 (6 - v2119.toInt) _ _ ⟨v2119, by first | rfl | omega, hI2114, hF2118, (((hF2115.1 59 0 (by decide)).trans ((hF2109.1 59 0 (by decide)).trans (hF2103.1 59 0 (by decide)))).trans e2021), (((hF2115.1 59 10 (by decide)).trans ((hF2109.1 59 10 (by decide)).trans (hF2103.1 59 10 (by decide)))).trans e2022), (((hF2115.1 59 11 (by decide)).trans ((hF2109.1 59 11 (by decide)).trans (hF2103.1 59 11 (by decide)))).trans e2023), (((hF2115.1 59 12 (by decide)).trans ((hF2109.1 59 12 (by decide)).trans (hF2103.1 59 12 (by decide)))).trans e2024), (((hF2115.1 116 0 (by decide)).trans ((hF2109.1 116 0 (by decide)).trans (hF2103.1 116 0 (by decide)))).trans e2025), (((hF2115.1 116 10 (by decide)).trans ((hF2109.1 116 10 (by decide)).trans (hF2103.1 116 10 (by decide)))).trans e2026), (((hF2115.1 116 11 (by decide)).trans ((hF2109.1 116 11 (by decide)).trans (hF2103.1 116 11 (by decide)))).trans e2027), (((hF2115.1 116 12 (by decide)).trans ((hF2109.1 116 12 (by decide)).trans (hF2103.1 116 12 (by decide)))).trans e2028), (((eA_c (hF2115.2.1 173 (by decide))).trans ((eA_c (hF2109.2.1 173 (by decide))).trans (eA_c (hF2103.2.1 173 (by decide))))).trans e2029), (((eA_c (hF2115.2.1 173 (by decide))).trans ((eA_c (hF2109.2.1 173 (by decide))).trans (eA_c (hF2103.2.1 173 (by decide))))).trans e2030), (w_p1 (by decide) (Or.inr rfl) e2031), (w_p1 (by decide) (Or.inr rfl) e2032), (w_e1 _ _ _), by omega⟩ ⟨by omega, by omega⟩

def F_X10_back_0 : List (Nat × Nat) := [(0, 14), (0, 17), (1, 0), (1, 4), (1, 6), (1, 9), (1, 10), (1, 11), (1, 12), (7, 0), (7, 3), (7, 4), (16, 0), (16, 3), (16, 4), (23, 0), (23, 3), (23, 4), (30, 0), (30, 3), (30, 4), (37, 0), (37, 3), (37, 4), (44, 0), (44, 3), (44, 4), (51, 0), (51, 3), (51, 4), (65, 0), (65, 3), (65, 4), (74, 0), (74, 3), (74, 4), (81, 0), (81, 3), (81, 4), (88, 0), (88, 3), (88, 4), (95, 0), (95, 3), (95, 4), (102, 0), (102, 3), (102, 4), (109, 0), (109, 3), (109, 4), (122, 0), (122, 3), (122, 4), (131, 0), (131, 3), (131, 4), (138, 0), (138, 3), (138, 4), (145, 0), (145, 3), (145, 4), (152, 0), (152, 3), (152, 4), (159, 0), (159, 3), (159, 4), (166, 0), (166, 3), (166, 4), (177, 0), (177, 3), (177, 4), (220, 2), (222, 2), (223, 5), (223, 10)]
def A_X10_back_0 : List Nat := [2, 3, 4, 5, 8, 9, 10, 11, 12, 13, 14, 15, 17, 18, 19, 20, 21, 22, 24, 25, 26, 27, 28, 29, 31, 32, 33, 34, 35, 36, 38, 39, 40, 41, 42, 43, 45, 46, 47, 48, 49, 50, 52, 53, 54, 55, 56, 57, 66, 67, 68, 69, 70, 71, 75, 76, 77, 78, 79, 80, 82, 83, 84, 85, 86, 87, 89, 90, 91, 92, 93, 94, 96, 97, 98, 99, 100, 101, 103, 104, 105, 106, 107, 108, 110, 111, 112, 113, 114, 115, 123, 124, 125, 126, 127, 128, 132, 133, 134, 135, 136, 137, 139, 140, 141, 142, 143, 144, 146, 147, 148, 149, 150, 151, 153, 154, 155, 156, 157, 158, 160, 161, 162, 163, 164, 165, 167, 168, 169, 170, 171, 172, 178, 179, 180, 181, 182, 183, 230]
set_option maxRecDepth 100000 in
set_option maxHeartbeats 4000000 in
theorem T_X10_back_0 (d : Nat) {N : Nat} {g0 : List en_E} (hI0 : HI g0) (a1 : Int32) : Ev (d + 3) 141 [.ref 0, .int a1] (g0, N) (fun w h' => ∃ g', h' = (g', N) ∧ HI g' ∧ Fr F_X10_back_0 A_X10_back_0 g0 g' ∧ ∃ r : Int32, w = some (.int r) ∧ ((-2) ≤ r.toInt ∧ r.toInt ≤ 0) ∧ ((a1.toInt = 0 ∧ (eA g0 173 0).toInt ≠ 0 → r.toInt = 0 ∧ (gI g' 1 0).toInt = (gI g0 59 0).toInt ∧ (gI g' 1 12).toInt = (gI g0 59 12).toInt ∧ (gI g' 1 10).toInt = (gI g0 59 10).toInt ∧ (gI g' 1 11).toInt = (gI g0 59 11).toInt) ∧ (a1.toInt = 1 ∧ (eA g0 173 1).toInt ≠ 0 → r.toInt = 0 ∧ (gI g' 1 0).toInt = (gI g0 116 0).toInt ∧ (gI g' 1 12).toInt = (gI g0 116 12).toInt ∧ (gI g' 1 10).toInt = (gI g0 116 10).toInt ∧ (gI g' 1 11).toInt = (gI g0 116 11).toInt) ∧ (¬ (a1.toInt = 0 ∧ (eA g0 173 0).toInt ≠ 0) ∧ ¬ (a1.toInt = 1 ∧ (eA g0 173 1).toInt ≠ 0) → (gI g' 1 0).toInt = (gI g0 1 0).toInt ∧ (gI g' 1 12).toInt = (gI g0 1 12).toInt ∧ (gI g' 1 10).toInt = (gI g0 1 10).toInt ∧ (gI g' 1 11).toInt = (gI g0 1 11).toInt) ∧ (a1.toInt < 0 ∨ 1 < a1.toInt → r.toInt = -1) ∧ (0 ≤ a1.toInt ∧ a1.toInt ≤ 1 ∧ ¬ (a1.toInt = 0 ∧ (eA g0 173 0).toInt ≠ 0) ∧ ¬ (a1.toInt = 1 ∧ (eA g0 173 1).toInt ≠ 0) → r.toInt = -2))) := by
  have hF0 : Fr F_X10_back_0 A_X10_back_0 g0 g0 := Fr.rf
  refine Ev.mk rfl rfl ⟨Nat.le_of_ble_eq_true rfl, Or.inr (q_rc hI0.1 kx_0 rfl)⟩ ?_
  show At _ none _ _ (0, [(0, .ref 0), (1, .int a1)], [], (_, _)) _
  refine At.enter rfl ?_
  refine r_aload_n rfl ?_
  refine r_iload_n rfl ?_
  refine q_inlV 5 rfl [.ref 0, .int a1] [] (Nat.le_of_ble_eq_true rfl) rfl ?_
  refine Ev.mk rfl rfl ⟨Nat.le_of_ble_eq_true rfl, Or.inr (q_rc hI0.1 kx_0 rfl)⟩ ?_
  show At _ none _ _ (0, [(0, .ref 0), (1, .int a1)], [], (_, _)) _
  refine At.enter rfl ?_
  refine r_iload_n rfl ?_
  refine r_iconst 0 rfl ?_
  refine r_iconst 1 rfl ?_
  refine q_inlS 6 rfl [.int a1, .int 0, .int 1] [] (Nat.le_of_ble_eq_true rfl) rfl ?_
  refine Ev.mk rfl rfl ⟨Nat.le_of_ble_eq_true rfl, Or.inl rfl⟩ ?_
  show At _ none _ _ (0, [(0, .int a1), (1, .int 0), (2, .int 1)], [], (_, _)) _
  refine At.enter rfl ?_
  refine r_iload_n rfl ?_
  refine r_iload_n rfl ?_
  refine r_ics 5 rfl (fun c1303 => ?_) (fun c1303 => ?_)
  · have c1303_ : a1.toInt < 0 := en_i_lt_t c1303
    refine At.enter rfl ?_
    refine r_iconst 0 rfl ?_
    refine Ar.fall 15 rfl ?_
    refine At.enter rfl ?_
    refine q_iretz (by decide) ?_
    refine At.enter rfl ?_
    refine r_ift (by decide) ?_
    refine At.enter rfl ?_
    refine r_null ?_
    refine Ar.fall 19 rfl ?_
    refine At.enter rfl ?_
    refine q_zret ?_
    refine At.enter rfl ?_
    refine r_zstore_n ([(2, .null), (0, .ref 0), (1, .int a1)]) rfl ?_
    refine r_zload_n rfl ?_
    refine r_nnz 10 rfl ?_
    refine At.enter rfl ?_
    refine r_aload_n rfl ?_
    refine r_iconst (-1) rfl ?_
    refine r_callV 15 rfl [.ref 0, .int (-1)] [] (Nat.le_of_ble_eq_true rfl) rfl (T_X10_refused_0 _ hI0 (-1) (by decide)) ?_
    rintro _ _ ⟨g1304, rfl, hI1305, hF1306, v1307, rfl, hr1308⟩
    refine At.sti ?_
    have hF1309 := Fr.tr hF0 hF1306 rfl rfl
    have zv1310 : ((-1) : Int32).toInt = (-1) := rfl
    refine At.enter rfl ?_
    refine r_ireti ?_
    obtain ⟨v1311, hv1311⟩ : ∃ v, gI g0 1 0 = v := ⟨_, rfl⟩
    have rv1311 := RgF.at hI0.2.1 (p := 1) (b := 0) rfl
    rw [hv1311] at rv1311
    dsimp only at rv1311
    have tv1311 := congrArg Int32.toInt hv1311
    have x1312 := HI.eqI hI0 (p := 1) (b := 0) (hv1311)
    obtain ⟨v1313, hv1313⟩ : ∃ v, gI g0 1 12 = v := ⟨_, rfl⟩
    have rv1313 := RgF.at hI0.2.1 (p := 1) (b := 12) rfl
    rw [hv1313] at rv1313
    dsimp only at rv1313
    have tv1313 := congrArg Int32.toInt hv1313
    have x1314 := HI.eqI hI0 (p := 1) (b := 12) (hv1313)
    obtain ⟨v1315, hv1315⟩ : ∃ v, gI g0 1 10 = v := ⟨_, rfl⟩
    have tv1315 := congrArg Int32.toInt hv1315
    have x1316 := HI.eqI hI0 (p := 1) (b := 10) (hv1315)
    obtain ⟨v1317, hv1317⟩ : ∃ v, gI g0 1 11 = v := ⟨_, rfl⟩
    have tv1317 := congrArg Int32.toInt hv1317
    have x1318 := HI.eqI hI0 (p := 1) (b := 11) (hv1317)
    obtain ⟨v1319, hv1319⟩ : ∃ v, gI g0 59 0 = v := ⟨_, rfl⟩
    have rv1319 := RgF.at hI0.2.1 (p := 59) (b := 0) rfl
    rw [hv1319] at rv1319
    dsimp only at rv1319
    have tv1319 := congrArg Int32.toInt hv1319
    have x1320 := HI.eqI hI0 (p := 59) (b := 0) (hv1319)
    obtain ⟨v1321, hv1321⟩ : ∃ v, gI g0 59 12 = v := ⟨_, rfl⟩
    have rv1321 := RgF.at hI0.2.1 (p := 59) (b := 12) rfl
    rw [hv1321] at rv1321
    dsimp only at rv1321
    have tv1321 := congrArg Int32.toInt hv1321
    have x1322 := HI.eqI hI0 (p := 59) (b := 12) (hv1321)
    obtain ⟨v1323, hv1323⟩ : ∃ v, gI g0 59 10 = v := ⟨_, rfl⟩
    have tv1323 := congrArg Int32.toInt hv1323
    have x1324 := HI.eqI hI0 (p := 59) (b := 10) (hv1323)
    obtain ⟨v1325, hv1325⟩ : ∃ v, gI g0 59 11 = v := ⟨_, rfl⟩
    have tv1325 := congrArg Int32.toInt hv1325
    have x1326 := HI.eqI hI0 (p := 59) (b := 11) (hv1325)
    obtain ⟨v1327, hv1327⟩ : ∃ v, gI g0 116 0 = v := ⟨_, rfl⟩
    have rv1327 := RgF.at hI0.2.1 (p := 116) (b := 0) rfl
    rw [hv1327] at rv1327
    dsimp only at rv1327
    have tv1327 := congrArg Int32.toInt hv1327
    have x1328 := HI.eqI hI0 (p := 116) (b := 0) (hv1327)
    obtain ⟨v1329, hv1329⟩ : ∃ v, gI g0 116 12 = v := ⟨_, rfl⟩
    have rv1329 := RgF.at hI0.2.1 (p := 116) (b := 12) rfl
    rw [hv1329] at rv1329
    dsimp only at rv1329
    have tv1329 := congrArg Int32.toInt hv1329
    have x1330 := HI.eqI hI0 (p := 116) (b := 12) (hv1329)
    obtain ⟨v1331, hv1331⟩ : ∃ v, gI g0 116 10 = v := ⟨_, rfl⟩
    have tv1331 := congrArg Int32.toInt hv1331
    have x1332 := HI.eqI hI0 (p := 116) (b := 10) (hv1331)
    obtain ⟨v1333, hv1333⟩ : ∃ v, gI g0 116 11 = v := ⟨_, rfl⟩
    have tv1333 := congrArg Int32.toInt hv1333
    have x1334 := HI.eqI hI0 (p := 116) (b := 11) (hv1333)
    obtain ⟨v1335, hv1335⟩ : ∃ v, eA g0 173 0 = v := ⟨_, rfl⟩
    have tv1335 := congrArg Int32.toInt hv1335
    have x1336 := HI.eqA hI0 (p := 173) (j := 0) (hv1335)
    obtain ⟨v1337, hv1337⟩ : ∃ v, eA g0 173 1 = v := ⟨_, rfl⟩
    have tv1337 := congrArg Int32.toInt hv1337
    have x1338 := HI.eqA hI0 (p := 173) (j := 1) (hv1337)
    have x1339 := HI.eqI hI1305 (p := 1) (b := 0) (((hF1306.1 1 0 (by decide)).trans hv1311))
    have x1340 := HI.eqI hI1305 (p := 1) (b := 12) (((hF1306.1 1 12 (by decide)).trans hv1313))
    have x1341 := HI.eqI hI1305 (p := 1) (b := 10) (((hF1306.1 1 10 (by decide)).trans hv1315))
    have x1342 := HI.eqI hI1305 (p := 1) (b := 11) (((hF1306.1 1 11 (by decide)).trans hv1317))
    exact ⟨_, rfl, hI1305, hF1309, _, rfl, by omega, ⟨by omega, by omega, by omega, by omega, by omega⟩⟩
  · have c1303_ : a1.toInt ≥ 0 := en_i_lt_f c1303
    refine At.enter rfl ?_
    refine r_iload_n rfl ?_
    refine r_iload_n rfl ?_
    refine r_ics 10 rfl (fun c1343 => ?_) (fun c1343 => ?_)
    · have c1343_ : a1.toInt > 1 := en_i_gt_t c1343
      refine At.enter rfl ?_
      refine r_iconst 0 rfl ?_
      refine Ar.fall 15 rfl ?_
      refine At.enter rfl ?_
      refine q_iretz (by decide) ?_
      refine At.enter rfl ?_
      refine r_ift (by decide) ?_
      refine At.enter rfl ?_
      refine r_null ?_
      refine Ar.fall 19 rfl ?_
      refine At.enter rfl ?_
      refine q_zret ?_
      refine At.enter rfl ?_
      refine r_zstore_n ([(2, .null), (0, .ref 0), (1, .int a1)]) rfl ?_
      refine r_zload_n rfl ?_
      refine r_nnz 10 rfl ?_
      refine At.enter rfl ?_
      refine r_aload_n rfl ?_
      refine r_iconst (-1) rfl ?_
      refine r_callV 15 rfl [.ref 0, .int (-1)] [] (Nat.le_of_ble_eq_true rfl) rfl (T_X10_refused_0 _ hI0 (-1) (by decide)) ?_
      rintro _ _ ⟨g1344, rfl, hI1345, hF1346, v1347, rfl, hr1348⟩
      refine At.sti ?_
      have hF1349 := Fr.tr hF0 hF1346 rfl rfl
      have zv1350 : ((-1) : Int32).toInt = (-1) := rfl
      refine At.enter rfl ?_
      refine r_ireti ?_
      obtain ⟨v1351, hv1351⟩ : ∃ v, gI g0 1 0 = v := ⟨_, rfl⟩
      have rv1351 := RgF.at hI0.2.1 (p := 1) (b := 0) rfl
      rw [hv1351] at rv1351
      dsimp only at rv1351
      have tv1351 := congrArg Int32.toInt hv1351
      have x1352 := HI.eqI hI0 (p := 1) (b := 0) (hv1351)
      obtain ⟨v1353, hv1353⟩ : ∃ v, gI g0 1 12 = v := ⟨_, rfl⟩
      have rv1353 := RgF.at hI0.2.1 (p := 1) (b := 12) rfl
      rw [hv1353] at rv1353
      dsimp only at rv1353
      have tv1353 := congrArg Int32.toInt hv1353
      have x1354 := HI.eqI hI0 (p := 1) (b := 12) (hv1353)
      obtain ⟨v1355, hv1355⟩ : ∃ v, gI g0 1 10 = v := ⟨_, rfl⟩
      have tv1355 := congrArg Int32.toInt hv1355
      have x1356 := HI.eqI hI0 (p := 1) (b := 10) (hv1355)
      obtain ⟨v1357, hv1357⟩ : ∃ v, gI g0 1 11 = v := ⟨_, rfl⟩
      have tv1357 := congrArg Int32.toInt hv1357
      have x1358 := HI.eqI hI0 (p := 1) (b := 11) (hv1357)
      obtain ⟨v1359, hv1359⟩ : ∃ v, gI g0 59 0 = v := ⟨_, rfl⟩
      have rv1359 := RgF.at hI0.2.1 (p := 59) (b := 0) rfl
      rw [hv1359] at rv1359
      dsimp only at rv1359
      have tv1359 := congrArg Int32.toInt hv1359
      have x1360 := HI.eqI hI0 (p := 59) (b := 0) (hv1359)
      obtain ⟨v1361, hv1361⟩ : ∃ v, gI g0 59 12 = v := ⟨_, rfl⟩
      have rv1361 := RgF.at hI0.2.1 (p := 59) (b := 12) rfl
      rw [hv1361] at rv1361
      dsimp only at rv1361
      have tv1361 := congrArg Int32.toInt hv1361
      have x1362 := HI.eqI hI0 (p := 59) (b := 12) (hv1361)
      obtain ⟨v1363, hv1363⟩ : ∃ v, gI g0 59 10 = v := ⟨_, rfl⟩
      have tv1363 := congrArg Int32.toInt hv1363
      have x1364 := HI.eqI hI0 (p := 59) (b := 10) (hv1363)
      obtain ⟨v1365, hv1365⟩ : ∃ v, gI g0 59 11 = v := ⟨_, rfl⟩
      have tv1365 := congrArg Int32.toInt hv1365
      have x1366 := HI.eqI hI0 (p := 59) (b := 11) (hv1365)
      obtain ⟨v1367, hv1367⟩ : ∃ v, gI g0 116 0 = v := ⟨_, rfl⟩
      have rv1367 := RgF.at hI0.2.1 (p := 116) (b := 0) rfl
      rw [hv1367] at rv1367
      dsimp only at rv1367
      have tv1367 := congrArg Int32.toInt hv1367
      have x1368 := HI.eqI hI0 (p := 116) (b := 0) (hv1367)
      obtain ⟨v1369, hv1369⟩ : ∃ v, gI g0 116 12 = v := ⟨_, rfl⟩
      have rv1369 := RgF.at hI0.2.1 (p := 116) (b := 12) rfl
      rw [hv1369] at rv1369
      dsimp only at rv1369
      have tv1369 := congrArg Int32.toInt hv1369
      have x1370 := HI.eqI hI0 (p := 116) (b := 12) (hv1369)
      obtain ⟨v1371, hv1371⟩ : ∃ v, gI g0 116 10 = v := ⟨_, rfl⟩
      have tv1371 := congrArg Int32.toInt hv1371
      have x1372 := HI.eqI hI0 (p := 116) (b := 10) (hv1371)
      obtain ⟨v1373, hv1373⟩ : ∃ v, gI g0 116 11 = v := ⟨_, rfl⟩
      have tv1373 := congrArg Int32.toInt hv1373
      have x1374 := HI.eqI hI0 (p := 116) (b := 11) (hv1373)
      obtain ⟨v1375, hv1375⟩ : ∃ v, eA g0 173 0 = v := ⟨_, rfl⟩
      have tv1375 := congrArg Int32.toInt hv1375
      have x1376 := HI.eqA hI0 (p := 173) (j := 0) (hv1375)
      obtain ⟨v1377, hv1377⟩ : ∃ v, eA g0 173 1 = v := ⟨_, rfl⟩
      have tv1377 := congrArg Int32.toInt hv1377
      have x1378 := HI.eqA hI0 (p := 173) (j := 1) (hv1377)
      have x1379 := HI.eqI hI1345 (p := 1) (b := 0) (((hF1346.1 1 0 (by decide)).trans hv1351))
      have x1380 := HI.eqI hI1345 (p := 1) (b := 12) (((hF1346.1 1 12 (by decide)).trans hv1353))
      have x1381 := HI.eqI hI1345 (p := 1) (b := 10) (((hF1346.1 1 10 (by decide)).trans hv1355))
      have x1382 := HI.eqI hI1345 (p := 1) (b := 11) (((hF1346.1 1 11 (by decide)).trans hv1357))
      exact ⟨_, rfl, hI1345, hF1349, _, rfl, by omega, ⟨by omega, by omega, by omega, by omega, by omega⟩⟩
    · have c1343_ : a1.toInt ≤ 1 := en_i_gt_f c1343
      refine At.enter rfl ?_
      refine r_iconst 1 rfl ?_
      refine r_goto ?_
      refine At.enter rfl ?_
      refine q_iretz (by decide) ?_
      refine At.enter rfl ?_
      refine r_iff 9 rfl (by decide) ?_
      refine At.enter rfl ?_
      refine r_aload_n rfl ?_
      refine q_getR (Sh.ref hI0.1 kx_0 rfl) ?_
      refine r_iload_n rfl ?_
      by_cases c1383_0 : a1.toInt = 0
      · refine q_aald (Sh.rar hI0.1 ka_58) (by decide) 0 (by omega) (by decide) (some 59) rfl ?_
        refine r_goto ?_
        refine At.enter rfl ?_
        refine q_aret ?_
        refine At.enter rfl ?_
        refine r_astore_n ([(2, .ref 59), (0, .ref 0), (1, .int a1)]) rfl ?_
        refine r_aload_n rfl ?_
        refine r_nnr ?_
        refine At.enter rfl ?_
        refine r_aload_n rfl ?_
        refine q_getR (Sh.ref hI0.1 kx_0 rfl) ?_
        refine r_iload_n rfl ?_
        obtain ⟨v1384, hv1384⟩ : ∃ v, eA g0 173 a1.toInt = v := ⟨_, rfl⟩
        refine q_bald (Sh.arr hI0.1 ka_173) a1.toInt rfl (by omega) v1384 hv1384 ?_
        refine r_ifs 25 rfl (fun c1385 => ?_) (fun c1385 => ?_)
        · have c1385_ : v1384.toInt ≠ 0 := en_k_ne_t c1385
          refine At.enter rfl ?_
          refine r_aload_n rfl ?_
          refine q_getR (Sh.ref hI0.1 kx_0 rfl) ?_
          refine r_aload_n rfl ?_
          refine q_inlV 40 rfl [.ref 1, .ref 59] [] (Nat.le_of_ble_eq_true rfl) rfl ?_
          refine Ev.mk rfl rfl ⟨Nat.le_of_ble_eq_true rfl, Or.inr (q_rc hI0.1 kx_1 rfl)⟩ ?_
          show At _ none _ _ (0, [(0, .ref 1), (1, .ref 59)], [], (_, _)) _
          refine At.enter rfl ?_
          refine r_aload_n rfl ?_
          refine r_aload_n rfl ?_
          obtain ⟨v1386, hv1386⟩ : ∃ v, gI g0 59 0 = v := ⟨_, rfl⟩
          have rv1386 := RgF.at hI0.2.1 (p := 59) (b := 0) rfl
          rw [hv1386] at rv1386
          dsimp only at rv1386
          refine q_getI (Sh.int hI0.1 kx_59 rfl) v1386 hv1386 ?_
          refine q_putI (Sh.int hI0.1 kx_1 rfl) rfl ?_
          have hI1387 := HI.wI1 hI0 kx_1 rfl (p := 1) (b := 0) (v := v1386) rfl (by dsimp only; omega)
          have hF1388 := Fr.wI (p := 1) (b := 0) (v := v1386) hF0 rfl
          refine r_aload_n rfl ?_
          refine q_getR (Sh.ref hI1387.1 kx_59 rfl) ?_
          refine r_iconst 0 rfl ?_
          refine r_aload_n rfl ?_
          refine q_getR (Sh.ref hI1387.1 kx_1 rfl) ?_
          refine r_iconst 0 rfl ?_
          refine r_bipush 12 rfl ?_
          have zv1389 : (0 : Int32).toInt = 0 := rfl
          have zv1390 : (0 : Int32).toInt = 0 := rfl
          have zv1391 : (12 : Int32).toInt = 12 := rfl
          refine q_cpy rfl (Nat.le_of_ble_eq_true rfl) (Sh.arr hI1387.1 ka_60) (Sh.arr hI1387.1 ka_2) ⟨by omega, by omega, by omega, by omega, by omega⟩ ?_
          have hI1392 := HI.cpy0 hI1387 ka_60 ka_2 rfl rfl ((0 : Int32).toInt.toNat) ((0 : Int32).toInt.toNat) ((12 : Int32).toInt.toNat) (by omega) (by omega)
          have hF1393 := Fr.cpy (p0 := 60) (p1 := 2) hF1388 rfl ((0 : Int32).toInt.toNat) ((0 : Int32).toInt.toNat) ((12 : Int32).toInt.toNat)
          refine r_aload_n rfl ?_
          refine q_getR (Sh.ref hI1392.1 kx_59 rfl) ?_
          refine r_iconst 0 rfl ?_
          refine r_aload_n rfl ?_
          refine q_getR (Sh.ref hI1392.1 kx_1 rfl) ?_
          refine r_iconst 0 rfl ?_
          refine r_bipush 12 rfl ?_
          have zv1394 : (0 : Int32).toInt = 0 := rfl
          have zv1395 : (0 : Int32).toInt = 0 := rfl
          have zv1396 : (12 : Int32).toInt = 12 := rfl
          refine q_cpy rfl (Nat.le_of_ble_eq_true rfl) (Sh.arr hI1392.1 ka_61) (Sh.arr hI1392.1 ka_3) ⟨by omega, by omega, by omega, by omega, by omega⟩ ?_
          have hI1397 := HI.cpy0 hI1392 ka_61 ka_3 rfl rfl ((0 : Int32).toInt.toNat) ((0 : Int32).toInt.toNat) ((12 : Int32).toInt.toNat) (by omega) (by omega)
          have hF1398 := Fr.cpy (p0 := 61) (p1 := 3) hF1393 rfl ((0 : Int32).toInt.toNat) ((0 : Int32).toInt.toNat) ((12 : Int32).toInt.toNat)
          refine r_aload_n rfl ?_
          refine q_getR (Sh.ref hI1397.1 kx_59 rfl) ?_
          refine r_iconst 0 rfl ?_
          refine r_aload_n rfl ?_
          refine q_getR (Sh.ref hI1397.1 kx_1 rfl) ?_
          refine r_iconst 0 rfl ?_
          refine r_bipush 12 rfl ?_
          have zv1399 : (0 : Int32).toInt = 0 := rfl
          have zv1400 : (0 : Int32).toInt = 0 := rfl
          have zv1401 : (12 : Int32).toInt = 12 := rfl
          refine q_cpy rfl (Nat.le_of_ble_eq_true rfl) (Sh.arr hI1397.1 ka_62) (Sh.arr hI1397.1 ka_4) ⟨by omega, by omega, by omega, by omega, by omega⟩ ?_
          have hI1402 := HI.cpy0 hI1397 ka_62 ka_4 rfl rfl ((0 : Int32).toInt.toNat) ((0 : Int32).toInt.toNat) ((12 : Int32).toInt.toNat) (by omega) (by omega)
          have hF1403 := Fr.cpy (p0 := 62) (p1 := 4) hF1398 rfl ((0 : Int32).toInt.toNat) ((0 : Int32).toInt.toNat) ((12 : Int32).toInt.toNat)
          refine r_aload_n rfl ?_
          refine r_aload_n rfl ?_
          obtain ⟨v1404, hv1404⟩ : ∃ v, gI g0 59 4 = v := ⟨_, rfl⟩
          have rv1404 := RgF.at hI0.2.1 (p := 59) (b := 4) rfl
          rw [hv1404] at rv1404
          dsimp only at rv1404
          refine q_getI (Sh.int hI1402.1 kx_59 rfl) v1404 (((gI_sW).trans ((gI_sW).trans ((gI_sW).trans (gI_sI_ne (by decide))))).trans hv1404) ?_
          refine q_putI (Sh.int hI1402.1 kx_1 rfl) rfl ?_
          have hI1405 := HI.wI1 hI1402 kx_1 rfl (p := 1) (b := 4) (v := v1404) rfl (by dsimp only; omega)
          have hF1406 := Fr.wI (p := 1) (b := 4) (v := v1404) hF1403 rfl
          refine r_aload_n rfl ?_
          refine q_getR (Sh.ref hI1405.1 kx_59 rfl) ?_
          refine r_iconst 0 rfl ?_
          refine r_aload_n rfl ?_
          refine q_getR (Sh.ref hI1405.1 kx_1 rfl) ?_
          refine r_iconst 0 rfl ?_
          refine r_bipush 48 rfl ?_
          have zv1407 : (0 : Int32).toInt = 0 := rfl
          have zv1408 : (0 : Int32).toInt = 0 := rfl
          have zv1409 : (48 : Int32).toInt = 48 := rfl
          refine q_cpy rfl (Nat.le_of_ble_eq_true rfl) (Sh.arr hI1405.1 ka_63) (Sh.arr hI1405.1 ka_5) ⟨by omega, by omega, by omega, by omega, by omega⟩ ?_
          have hI1410 := HI.cpy0 hI1405 ka_63 ka_5 rfl rfl ((0 : Int32).toInt.toNat) ((0 : Int32).toInt.toNat) ((48 : Int32).toInt.toNat) (by omega) (by omega)
          have hF1411 := Fr.cpy (p0 := 63) (p1 := 5) hF1406 rfl ((0 : Int32).toInt.toNat) ((0 : Int32).toInt.toNat) ((48 : Int32).toInt.toNat)
          refine r_aload_n rfl ?_
          refine r_aload_n rfl ?_
          obtain ⟨v1412, hv1412⟩ : ∃ v, gI g0 59 6 = v := ⟨_, rfl⟩
          have rv1412 := RgF.at hI0.2.1 (p := 59) (b := 6) rfl
          rw [hv1412] at rv1412
          dsimp only at rv1412
          refine q_getI (Sh.int hI1410.1 kx_59 rfl) v1412 (((gI_sW).trans ((gI_sI_ne (by decide)).trans ((gI_sW).trans ((gI_sW).trans ((gI_sW).trans (gI_sI_ne (by decide))))))).trans hv1412) ?_
          refine q_putI (Sh.int hI1410.1 kx_1 rfl) rfl ?_
          have hI1413 := HI.wI1 hI1410 kx_1 rfl (p := 1) (b := 6) (v := v1412) rfl (by dsimp only; omega)
          have hF1414 := Fr.wI (p := 1) (b := 6) (v := v1412) hF1411 rfl
          refine r_iconst 0 rfl ?_
          refine r_istore_n ([(2, .int 0), (0, .ref 1), (1, .ref 59)]) rfl ?_
          refine Ar.fall 86 rfl ?_
          have z_1641 : (0 : Int32).toInt = 0 := rfl
          refine w_loopI (fun n_ l_ g_ => ∃ x1629 : Int32, n_ = 6 - x1629.toInt ∧ HI g_ ∧ Fr F_X10_back_0 A_X10_back_0 g0 g_ ∧ gI g_ 1 0 = v1386 ∧ en_get 0 l_ = some (.ref 1) ∧ en_get 1 l_ = some (.ref 59) ∧ en_get 2 l_ = some (.int x1629) ∧ (0 ≤ x1629.toInt ∧ x1629.toInt ≤ 6)) ?_ (6 - 0) ⟨0, by first | rfl | omega, hI1413, hF1414, ((gI_sI_ne (by decide)).trans ((gI_sW).trans ((gI_sI_ne (by decide)).trans ((gI_sW).trans ((gI_sW).trans ((gI_sW).trans (gI_sI_eq hI0.1 kx_1 rfl _))))))), rfl, rfl, rfl, by decide⟩
          rintro n1634 l1633 g1630 ⟨x1629, hm1642, hI1631, hF1632, e1636, e1637, e1638, e1639, r1640⟩ ih1635
          have tv1643 := congrArg Int32.toInt e1636
          refine At.enter rfl ?_
          refine r_iload_n e1639 ?_
          refine r_bipush 6 rfl ?_
          refine r_ics 92 rfl (fun c1644 => ?_) (fun c1644 => ?_)
          · have c1644_ : x1629.toInt ≥ 6 := en_i_ge_t c1644
            refine At.enter rfl ?_
            refine r_aload_n e1637 ?_
            refine r_aload_n e1638 ?_
            obtain ⟨v1645, hv1645⟩ : ∃ v, gI g0 59 9 = v := ⟨_, rfl⟩
            refine q_getI (Sh.int hI1631.1 kx_59 rfl) v1645 ((hF1632.1 59 9 (by decide)).trans hv1645) ?_
            refine q_putI (Sh.int hI1631.1 kx_1 rfl) rfl ?_
            have hI1646 := HI.wI0 hI1631 kx_1 rfl (p := 1) (b := 9) (v := v1645) rfl
            have hF1647 := Fr.wI (p := 1) (b := 9) (v := v1645) hF1632 rfl
            refine r_aload_n e1637 ?_
            refine r_aload_n e1638 ?_
            obtain ⟨v1648, hv1648⟩ : ∃ v, gI g0 59 10 = v := ⟨_, rfl⟩
            refine q_getI (Sh.int hI1646.1 kx_59 rfl) v1648 (((gI_sI_ne (by decide)).trans (hF1632.1 59 10 (by decide))).trans hv1648) ?_
            refine q_putI (Sh.int hI1646.1 kx_1 rfl) rfl ?_
            have hI1649 := HI.wI0 hI1646 kx_1 rfl (p := 1) (b := 10) (v := v1648) rfl
            have hF1650 := Fr.wI (p := 1) (b := 10) (v := v1648) hF1647 rfl
            refine r_aload_n e1637 ?_
            refine r_aload_n e1638 ?_
            obtain ⟨v1651, hv1651⟩ : ∃ v, gI g0 59 11 = v := ⟨_, rfl⟩
            refine q_getI (Sh.int hI1649.1 kx_59 rfl) v1651 (((gI_sI_ne (by decide)).trans ((gI_sI_ne (by decide)).trans (hF1632.1 59 11 (by decide)))).trans hv1651) ?_
            refine q_putI (Sh.int hI1649.1 kx_1 rfl) rfl ?_
            have hI1652 := HI.wI0 hI1649 kx_1 rfl (p := 1) (b := 11) (v := v1651) rfl
            have hF1653 := Fr.wI (p := 1) (b := 11) (v := v1651) hF1650 rfl
            refine r_aload_n e1637 ?_
            refine r_aload_n e1638 ?_
            obtain ⟨v1654, hv1654⟩ : ∃ v, gI g0 59 12 = v := ⟨_, rfl⟩
            have rv1654 := RgF.at hI0.2.1 (p := 59) (b := 12) rfl
            rw [hv1654] at rv1654
            dsimp only at rv1654
            refine q_getI (Sh.int hI1652.1 kx_59 rfl) v1654 (((gI_sI_ne (by decide)).trans ((gI_sI_ne (by decide)).trans ((gI_sI_ne (by decide)).trans (hF1632.1 59 12 (by decide))))).trans hv1654) ?_
            refine q_putI (Sh.int hI1652.1 kx_1 rfl) rfl ?_
            have hI1655 := HI.wI1 hI1652 kx_1 rfl (p := 1) (b := 12) (v := v1654) rfl (by dsimp only; omega)
            have hF1656 := Fr.wI (p := 1) (b := 12) (v := v1654) hF1653 rfl
            refine r_aload_n e1638 ?_
            refine q_getR (Sh.ref hI1655.1 kx_59 rfl) ?_
            refine r_iconst 0 rfl ?_
            refine r_aload_n e1637 ?_
            refine q_getR (Sh.ref hI1655.1 kx_1 rfl) ?_
            refine r_iconst 0 rfl ?_
            refine r_bipush 8 rfl ?_
            have zv1657 : (0 : Int32).toInt = 0 := rfl
            have zv1658 : (0 : Int32).toInt = 0 := rfl
            have zv1659 : (8 : Int32).toInt = 8 := rfl
            refine q_cpy rfl (Nat.le_of_ble_eq_true rfl) (Sh.arr hI1655.1 ka_72) (Sh.arr hI1655.1 ka_14) ⟨by omega, by omega, by omega, by omega, by omega⟩ ?_
            have hI1660 := HI.cpy0 hI1655 ka_72 ka_14 rfl rfl ((0 : Int32).toInt.toNat) ((0 : Int32).toInt.toNat) ((8 : Int32).toInt.toNat) (by omega) (by omega)
            have hF1661 := Fr.cpy (p0 := 72) (p1 := 14) hF1656 rfl ((0 : Int32).toInt.toNat) ((0 : Int32).toInt.toNat) ((8 : Int32).toInt.toNat)
            refine r_aload_n e1638 ?_
            refine q_getR (Sh.ref hI1660.1 kx_59 rfl) ?_
            refine r_iconst 0 rfl ?_
            refine r_aload_n e1637 ?_
            refine q_getR (Sh.ref hI1660.1 kx_1 rfl) ?_
            refine r_iconst 0 rfl ?_
            refine r_bipush 8 rfl ?_
            have zv1662 : (0 : Int32).toInt = 0 := rfl
            have zv1663 : (0 : Int32).toInt = 0 := rfl
            have zv1664 : (8 : Int32).toInt = 8 := rfl
            refine q_cpy rfl (Nat.le_of_ble_eq_true rfl) (Sh.arr hI1660.1 ka_73) (Sh.arr hI1660.1 ka_15) ⟨by omega, by omega, by omega, by omega, by omega⟩ ?_
            have hI1665 := HI.cpy0 hI1660 ka_73 ka_15 rfl rfl ((0 : Int32).toInt.toNat) ((0 : Int32).toInt.toNat) ((8 : Int32).toInt.toNat) (by omega) (by omega)
            have hF1666 := Fr.cpy (p0 := 73) (p1 := 15) hF1661 rfl ((0 : Int32).toInt.toNat) ((0 : Int32).toInt.toNat) ((8 : Int32).toInt.toNat)
            refine q_vret ?_
            refine At.enter rfl ?_
            refine r_aload_n rfl ?_
            refine r_callV 44 rfl [.ref 0] [] (Nat.le_of_ble_eq_true rfl) rfl (T_X10_changed_0 _ hI1665) ?_
            rintro _ _ ⟨g1667, rfl, hI1668, hF1669, rfl⟩
            refine At.stn ?_
            have hF1672 := Fr.tr hF1666 hF1669 rfl rfl
            refine At.enter rfl ?_
            refine r_aload_n rfl ?_
            refine r_iconst 0 rfl ?_
            refine q_inlV 49 rfl [.ref 0, .int 0] [] (Nat.le_of_ble_eq_true rfl) rfl ?_
            refine Ev.mk rfl rfl ⟨Nat.le_of_ble_eq_true rfl, Or.inr (q_rc hI1668.1 kx_0 rfl)⟩ ?_
            show At _ none _ _ (0, [(0, .ref 0), (1, .int 0)], [], (_, _)) _
            refine At.enter rfl ?_
            refine r_aload_n rfl ?_
            refine r_iconst 0 rfl ?_
            refine q_putI (Sh.int hI1668.1 kx_0 rfl) rfl ?_
            have hI1673 := HI.wI0 hI1668 kx_0 rfl (p := 0) (b := 17) (v := 0) rfl
            have hF1674 := Fr.wI (p := 0) (b := 17) (v := 0) hF1672 rfl
            refine r_iload_n rfl ?_
            refine q_ireti ?_
            refine At.enter rfl ?_
            refine r_ireti ?_
            have zv1675 : (0 : Int32).toInt = 0 := rfl
            obtain ⟨v1676, hv1676⟩ : ∃ v, gI g0 1 0 = v := ⟨_, rfl⟩
            have rv1676 := RgF.at hI0.2.1 (p := 1) (b := 0) rfl
            rw [hv1676] at rv1676
            dsimp only at rv1676
            have tv1676 := congrArg Int32.toInt hv1676
            have x1677 := HI.eqI hI0 (p := 1) (b := 0) (hv1676)
            obtain ⟨v1678, hv1678⟩ : ∃ v, gI g0 1 12 = v := ⟨_, rfl⟩
            have rv1678 := RgF.at hI0.2.1 (p := 1) (b := 12) rfl
            rw [hv1678] at rv1678
            dsimp only at rv1678
            have tv1678 := congrArg Int32.toInt hv1678
            have x1679 := HI.eqI hI0 (p := 1) (b := 12) (hv1678)
            obtain ⟨v1680, hv1680⟩ : ∃ v, gI g0 1 10 = v := ⟨_, rfl⟩
            have tv1680 := congrArg Int32.toInt hv1680
            have x1681 := HI.eqI hI0 (p := 1) (b := 10) (hv1680)
            obtain ⟨v1682, hv1682⟩ : ∃ v, gI g0 1 11 = v := ⟨_, rfl⟩
            have tv1682 := congrArg Int32.toInt hv1682
            have x1683 := HI.eqI hI0 (p := 1) (b := 11) (hv1682)
            have x1684 := HI.eqI hI0 (p := 59) (b := 0) (hv1386)
            have x1685 := HI.eqI hI0 (p := 59) (b := 12) (hv1654)
            have x1686 := HI.eqI hI0 (p := 59) (b := 10) (hv1648)
            have x1687 := HI.eqI hI0 (p := 59) (b := 11) (hv1651)
            obtain ⟨v1688, hv1688⟩ : ∃ v, gI g0 116 0 = v := ⟨_, rfl⟩
            have rv1688 := RgF.at hI0.2.1 (p := 116) (b := 0) rfl
            rw [hv1688] at rv1688
            dsimp only at rv1688
            have tv1688 := congrArg Int32.toInt hv1688
            have x1689 := HI.eqI hI0 (p := 116) (b := 0) (hv1688)
            obtain ⟨v1690, hv1690⟩ : ∃ v, gI g0 116 12 = v := ⟨_, rfl⟩
            have rv1690 := RgF.at hI0.2.1 (p := 116) (b := 12) rfl
            rw [hv1690] at rv1690
            dsimp only at rv1690
            have tv1690 := congrArg Int32.toInt hv1690
            have x1691 := HI.eqI hI0 (p := 116) (b := 12) (hv1690)
            obtain ⟨v1692, hv1692⟩ : ∃ v, gI g0 116 10 = v := ⟨_, rfl⟩
            have tv1692 := congrArg Int32.toInt hv1692
            have x1693 := HI.eqI hI0 (p := 116) (b := 10) (hv1692)
            obtain ⟨v1694, hv1694⟩ : ∃ v, gI g0 116 11 = v := ⟨_, rfl⟩
            have tv1694 := congrArg Int32.toInt hv1694
            have x1695 := HI.eqI hI0 (p := 116) (b := 11) (hv1694)
            obtain ⟨v1696, hv1696⟩ : ∃ v, eA g0 173 0 = v := ⟨_, rfl⟩
            have tv1696 := congrArg Int32.toInt hv1696
            have x1697 := HI.eqA hI0 (p := 173) (j := 0) (hv1696)
            obtain ⟨v1698, hv1698⟩ : ∃ v, eA g0 173 1 = v := ⟨_, rfl⟩
            have tv1698 := congrArg Int32.toInt hv1698
            have x1699 := HI.eqA hI0 (p := 173) (j := 1) (hv1698)
            have x1700 := HI.eqI hI1673 (p := 1) (b := 0) ((((gI_sI_ne (by decide)).trans ((hF1669.1 1 0 (by decide)).trans ((gI_sW).trans ((gI_sW).trans ((gI_sI_ne (by decide)).trans ((gI_sI_ne (by decide)).trans ((gI_sI_ne (by decide)).trans (gI_sI_ne (by decide))))))))).trans e1636))
            have x1701 := HI.eqI hI1673 (p := 1) (b := 12) (((gI_sI_ne (by decide)).trans ((hF1669.1 1 12 (by decide)).trans ((gI_sW).trans ((gI_sW).trans (gI_sI_eq hI1652.1 kx_1 rfl _))))))
            have x1702 := HI.eqI hI1673 (p := 1) (b := 10) (((gI_sI_ne (by decide)).trans ((hF1669.1 1 10 (by decide)).trans ((gI_sW).trans ((gI_sW).trans ((gI_sI_ne (by decide)).trans ((gI_sI_ne (by decide)).trans (gI_sI_eq hI1646.1 kx_1 rfl _))))))))
            have x1703 := HI.eqI hI1673 (p := 1) (b := 11) (((gI_sI_ne (by decide)).trans ((hF1669.1 1 11 (by decide)).trans ((gI_sW).trans ((gI_sW).trans ((gI_sI_ne (by decide)).trans (gI_sI_eq hI1649.1 kx_1 rfl _)))))))
            have y1704 : a1.toInt = 0 → (eA g0 173 0).toInt = v1384.toInt := fun e => by rw [← hv1384, e]
            exact ⟨_, rfl, hI1673, hF1674, _, rfl, by decide, ⟨by omega, by omega, by omega, by omega, by omega⟩⟩
          · have c1644_ : x1629.toInt < 6 := en_i_ge_f c1644
            refine At.enter rfl ?_
            refine r_aload_n e1637 ?_
            refine r_iload_n e1639 ?_
            refine r_callV 97 rfl [.ref 1, .int x1629] [] (Nat.le_of_ble_eq_true rfl) rfl (T_X0_lawAt_1 _ hI1631 x1629) ?_
            rintro _ _ ⟨g1705, rfl, hI1706, hF1707, v1708, rfl, hr1709⟩
            refine At.str ?_
            have hF1710 := Fr.tr hF1632 hF1707 rfl rfl
            refine At.enter rfl ?_
            refine r_aload_n e1638 ?_
            refine r_iload_n e1639 ?_
            refine r_callV 102 rfl [.ref 59, .int x1629] [.ref (v1708)] (Nat.le_of_ble_eq_true rfl) rfl (T_X0_lawAt_59 _ hI1706 x1629) ?_
            rintro _ _ ⟨g1711, rfl, hI1712, hF1713, v1714, rfl, hr1715⟩
            refine At.str ?_
            have hF1716 := Fr.tr hF1710 hF1713 rfl rfl
            refine At.enter rfl ?_
            refine r_callV 105 rfl [.ref (v1708), .ref (v1714)] [] (Nat.le_of_ble_eq_true rfl) rfl (T_X4_become_law _ hI1712 (v1708) hr1709 (v1714) hr1715) ?_
            rintro _ _ ⟨g1717, rfl, hI1718, hF1719, rfl⟩
            refine At.stn ?_
            have hF1722 := Fr.tr hF1716 hF1719 rfl rfl
            refine At.enter rfl ?_
            refine q_iinc e1639 (x1629.toInt + 1) rfl (by omega) (fun v1723 hv1723 => ?_)
            refine r_goto ?_
            exact ih1635 (6 - v1723.toInt) _ _ ⟨v1723, by first | rfl | omega, hI1718, hF1722, (((hF1719.1 1 0 (by decide)).trans ((hF1713.1 1 0 (by decide)).trans (hF1707.1 1 0 (by decide)))).trans e1636), (w_p1 (by decide) (Or.inr rfl) e1637), (w_p1 (by decide) (Or.inr rfl) e1638), (w_e1 _ _ _), by omega⟩ ⟨by omega, by omega⟩
        · have c1385_ : v1384.toInt = 0 := en_k_ne_f c1385
          refine At.enter rfl ?_
          refine r_aload_n rfl ?_
          refine r_bipush (-2) rfl ?_
          refine r_callV 31 rfl [.ref 0, .int (-2)] [] (Nat.le_of_ble_eq_true rfl) rfl (T_X10_refused_0 _ hI0 (-2) (by decide)) ?_
          rintro _ _ ⟨g1724, rfl, hI1725, hF1726, v1727, rfl, hr1728⟩
          refine At.sti ?_
          have hF1729 := Fr.tr hF0 hF1726 rfl rfl
          have zv1730 : ((-2) : Int32).toInt = (-2) := rfl
          refine At.enter rfl ?_
          refine r_ireti ?_
          obtain ⟨v1731, hv1731⟩ : ∃ v, gI g0 1 0 = v := ⟨_, rfl⟩
          have rv1731 := RgF.at hI0.2.1 (p := 1) (b := 0) rfl
          rw [hv1731] at rv1731
          dsimp only at rv1731
          have tv1731 := congrArg Int32.toInt hv1731
          have x1732 := HI.eqI hI0 (p := 1) (b := 0) (hv1731)
          obtain ⟨v1733, hv1733⟩ : ∃ v, gI g0 1 12 = v := ⟨_, rfl⟩
          have rv1733 := RgF.at hI0.2.1 (p := 1) (b := 12) rfl
          rw [hv1733] at rv1733
          dsimp only at rv1733
          have tv1733 := congrArg Int32.toInt hv1733
          have x1734 := HI.eqI hI0 (p := 1) (b := 12) (hv1733)
          obtain ⟨v1735, hv1735⟩ : ∃ v, gI g0 1 10 = v := ⟨_, rfl⟩
          have tv1735 := congrArg Int32.toInt hv1735
          have x1736 := HI.eqI hI0 (p := 1) (b := 10) (hv1735)
          obtain ⟨v1737, hv1737⟩ : ∃ v, gI g0 1 11 = v := ⟨_, rfl⟩
          have tv1737 := congrArg Int32.toInt hv1737
          have x1738 := HI.eqI hI0 (p := 1) (b := 11) (hv1737)
          obtain ⟨v1739, hv1739⟩ : ∃ v, gI g0 59 0 = v := ⟨_, rfl⟩
          have rv1739 := RgF.at hI0.2.1 (p := 59) (b := 0) rfl
          rw [hv1739] at rv1739
          dsimp only at rv1739
          have tv1739 := congrArg Int32.toInt hv1739
          have x1740 := HI.eqI hI0 (p := 59) (b := 0) (hv1739)
          obtain ⟨v1741, hv1741⟩ : ∃ v, gI g0 59 12 = v := ⟨_, rfl⟩
          have rv1741 := RgF.at hI0.2.1 (p := 59) (b := 12) rfl
          rw [hv1741] at rv1741
          dsimp only at rv1741
          have tv1741 := congrArg Int32.toInt hv1741
          have x1742 := HI.eqI hI0 (p := 59) (b := 12) (hv1741)
          obtain ⟨v1743, hv1743⟩ : ∃ v, gI g0 59 10 = v := ⟨_, rfl⟩
          have tv1743 := congrArg Int32.toInt hv1743
          have x1744 := HI.eqI hI0 (p := 59) (b := 10) (hv1743)
          obtain ⟨v1745, hv1745⟩ : ∃ v, gI g0 59 11 = v := ⟨_, rfl⟩
          have tv1745 := congrArg Int32.toInt hv1745
          have x1746 := HI.eqI hI0 (p := 59) (b := 11) (hv1745)
          obtain ⟨v1747, hv1747⟩ : ∃ v, gI g0 116 0 = v := ⟨_, rfl⟩
          have rv1747 := RgF.at hI0.2.1 (p := 116) (b := 0) rfl
          rw [hv1747] at rv1747
          dsimp only at rv1747
          have tv1747 := congrArg Int32.toInt hv1747
          have x1748 := HI.eqI hI0 (p := 116) (b := 0) (hv1747)
          obtain ⟨v1749, hv1749⟩ : ∃ v, gI g0 116 12 = v := ⟨_, rfl⟩
          have rv1749 := RgF.at hI0.2.1 (p := 116) (b := 12) rfl
          rw [hv1749] at rv1749
          dsimp only at rv1749
          have tv1749 := congrArg Int32.toInt hv1749
          have x1750 := HI.eqI hI0 (p := 116) (b := 12) (hv1749)
          obtain ⟨v1751, hv1751⟩ : ∃ v, gI g0 116 10 = v := ⟨_, rfl⟩
          have tv1751 := congrArg Int32.toInt hv1751
          have x1752 := HI.eqI hI0 (p := 116) (b := 10) (hv1751)
          obtain ⟨v1753, hv1753⟩ : ∃ v, gI g0 116 11 = v := ⟨_, rfl⟩
          have tv1753 := congrArg Int32.toInt hv1753
          have x1754 := HI.eqI hI0 (p := 116) (b := 11) (hv1753)
          obtain ⟨v1755, hv1755⟩ : ∃ v, eA g0 173 0 = v := ⟨_, rfl⟩
          have tv1755 := congrArg Int32.toInt hv1755
          have x1756 := HI.eqA hI0 (p := 173) (j := 0) (hv1755)
          obtain ⟨v1757, hv1757⟩ : ∃ v, eA g0 173 1 = v := ⟨_, rfl⟩
          have tv1757 := congrArg Int32.toInt hv1757
          have x1758 := HI.eqA hI0 (p := 173) (j := 1) (hv1757)
          have x1759 := HI.eqI hI1725 (p := 1) (b := 0) (((hF1726.1 1 0 (by decide)).trans hv1731))
          have x1760 := HI.eqI hI1725 (p := 1) (b := 12) (((hF1726.1 1 12 (by decide)).trans hv1733))
          have x1761 := HI.eqI hI1725 (p := 1) (b := 10) (((hF1726.1 1 10 (by decide)).trans hv1735))
          have x1762 := HI.eqI hI1725 (p := 1) (b := 11) (((hF1726.1 1 11 (by decide)).trans hv1737))
          have y1763 : a1.toInt = 0 → (eA g0 173 0).toInt = v1384.toInt := fun e => by rw [← hv1384, e]
          exact ⟨_, rfl, hI1725, hF1729, _, rfl, by omega, ⟨by omega, by omega, by omega, by omega, by omega⟩⟩
      have c1383_1 : a1.toInt = 1 := by omega
      refine q_aald (Sh.rar hI0.1 ka_58) (by decide) 1 (by omega) (by decide) (some 116) rfl ?_
      refine r_goto ?_
      refine At.enter rfl ?_
      refine q_aret ?_
      refine At.enter rfl ?_
      refine r_astore_n ([(2, .ref 116), (0, .ref 0), (1, .int a1)]) rfl ?_
      refine r_aload_n rfl ?_
      refine r_nnr ?_
      refine At.enter rfl ?_
      refine r_aload_n rfl ?_
      refine q_getR (Sh.ref hI0.1 kx_0 rfl) ?_
      refine r_iload_n rfl ?_
      obtain ⟨v1764, hv1764⟩ : ∃ v, eA g0 173 a1.toInt = v := ⟨_, rfl⟩
      refine q_bald (Sh.arr hI0.1 ka_173) a1.toInt rfl (by omega) v1764 hv1764 ?_
      refine r_ifs 25 rfl (fun c1765 => ?_) (fun c1765 => ?_)
      · have c1765_ : v1764.toInt ≠ 0 := en_k_ne_t c1765
        refine At.enter rfl ?_
        refine r_aload_n rfl ?_
        refine q_getR (Sh.ref hI0.1 kx_0 rfl) ?_
        refine r_aload_n rfl ?_
        refine q_inlV 40 rfl [.ref 1, .ref 116] [] (Nat.le_of_ble_eq_true rfl) rfl ?_
        refine Ev.mk rfl rfl ⟨Nat.le_of_ble_eq_true rfl, Or.inr (q_rc hI0.1 kx_1 rfl)⟩ ?_
        show At _ none _ _ (0, [(0, .ref 1), (1, .ref 116)], [], (_, _)) _
        refine At.enter rfl ?_
        refine r_aload_n rfl ?_
        refine r_aload_n rfl ?_
        obtain ⟨v1766, hv1766⟩ : ∃ v, gI g0 116 0 = v := ⟨_, rfl⟩
        have rv1766 := RgF.at hI0.2.1 (p := 116) (b := 0) rfl
        rw [hv1766] at rv1766
        dsimp only at rv1766
        refine q_getI (Sh.int hI0.1 kx_116 rfl) v1766 hv1766 ?_
        refine q_putI (Sh.int hI0.1 kx_1 rfl) rfl ?_
        have hI1767 := HI.wI1 hI0 kx_1 rfl (p := 1) (b := 0) (v := v1766) rfl (by dsimp only; omega)
        have hF1768 := Fr.wI (p := 1) (b := 0) (v := v1766) hF0 rfl
        refine r_aload_n rfl ?_
        refine q_getR (Sh.ref hI1767.1 kx_116 rfl) ?_
        refine r_iconst 0 rfl ?_
        refine r_aload_n rfl ?_
        refine q_getR (Sh.ref hI1767.1 kx_1 rfl) ?_
        refine r_iconst 0 rfl ?_
        refine r_bipush 12 rfl ?_
        have zv1769 : (0 : Int32).toInt = 0 := rfl
        have zv1770 : (0 : Int32).toInt = 0 := rfl
        have zv1771 : (12 : Int32).toInt = 12 := rfl
        refine q_cpy rfl (Nat.le_of_ble_eq_true rfl) (Sh.arr hI1767.1 ka_117) (Sh.arr hI1767.1 ka_2) ⟨by omega, by omega, by omega, by omega, by omega⟩ ?_
        have hI1772 := HI.cpy0 hI1767 ka_117 ka_2 rfl rfl ((0 : Int32).toInt.toNat) ((0 : Int32).toInt.toNat) ((12 : Int32).toInt.toNat) (by omega) (by omega)
        have hF1773 := Fr.cpy (p0 := 117) (p1 := 2) hF1768 rfl ((0 : Int32).toInt.toNat) ((0 : Int32).toInt.toNat) ((12 : Int32).toInt.toNat)
        refine r_aload_n rfl ?_
        refine q_getR (Sh.ref hI1772.1 kx_116 rfl) ?_
        refine r_iconst 0 rfl ?_
        refine r_aload_n rfl ?_
        refine q_getR (Sh.ref hI1772.1 kx_1 rfl) ?_
        refine r_iconst 0 rfl ?_
        refine r_bipush 12 rfl ?_
        have zv1774 : (0 : Int32).toInt = 0 := rfl
        have zv1775 : (0 : Int32).toInt = 0 := rfl
        have zv1776 : (12 : Int32).toInt = 12 := rfl
        refine q_cpy rfl (Nat.le_of_ble_eq_true rfl) (Sh.arr hI1772.1 ka_118) (Sh.arr hI1772.1 ka_3) ⟨by omega, by omega, by omega, by omega, by omega⟩ ?_
        have hI1777 := HI.cpy0 hI1772 ka_118 ka_3 rfl rfl ((0 : Int32).toInt.toNat) ((0 : Int32).toInt.toNat) ((12 : Int32).toInt.toNat) (by omega) (by omega)
        have hF1778 := Fr.cpy (p0 := 118) (p1 := 3) hF1773 rfl ((0 : Int32).toInt.toNat) ((0 : Int32).toInt.toNat) ((12 : Int32).toInt.toNat)
        refine r_aload_n rfl ?_
        refine q_getR (Sh.ref hI1777.1 kx_116 rfl) ?_
        refine r_iconst 0 rfl ?_
        refine r_aload_n rfl ?_
        refine q_getR (Sh.ref hI1777.1 kx_1 rfl) ?_
        refine r_iconst 0 rfl ?_
        refine r_bipush 12 rfl ?_
        have zv1779 : (0 : Int32).toInt = 0 := rfl
        have zv1780 : (0 : Int32).toInt = 0 := rfl
        have zv1781 : (12 : Int32).toInt = 12 := rfl
        refine q_cpy rfl (Nat.le_of_ble_eq_true rfl) (Sh.arr hI1777.1 ka_119) (Sh.arr hI1777.1 ka_4) ⟨by omega, by omega, by omega, by omega, by omega⟩ ?_
        have hI1782 := HI.cpy0 hI1777 ka_119 ka_4 rfl rfl ((0 : Int32).toInt.toNat) ((0 : Int32).toInt.toNat) ((12 : Int32).toInt.toNat) (by omega) (by omega)
        have hF1783 := Fr.cpy (p0 := 119) (p1 := 4) hF1778 rfl ((0 : Int32).toInt.toNat) ((0 : Int32).toInt.toNat) ((12 : Int32).toInt.toNat)
        refine r_aload_n rfl ?_
        refine r_aload_n rfl ?_
        obtain ⟨v1784, hv1784⟩ : ∃ v, gI g0 116 4 = v := ⟨_, rfl⟩
        have rv1784 := RgF.at hI0.2.1 (p := 116) (b := 4) rfl
        rw [hv1784] at rv1784
        dsimp only at rv1784
        refine q_getI (Sh.int hI1782.1 kx_116 rfl) v1784 (((gI_sW).trans ((gI_sW).trans ((gI_sW).trans (gI_sI_ne (by decide))))).trans hv1784) ?_
        refine q_putI (Sh.int hI1782.1 kx_1 rfl) rfl ?_
        have hI1785 := HI.wI1 hI1782 kx_1 rfl (p := 1) (b := 4) (v := v1784) rfl (by dsimp only; omega)
        have hF1786 := Fr.wI (p := 1) (b := 4) (v := v1784) hF1783 rfl
        refine r_aload_n rfl ?_
        refine q_getR (Sh.ref hI1785.1 kx_116 rfl) ?_
        refine r_iconst 0 rfl ?_
        refine r_aload_n rfl ?_
        refine q_getR (Sh.ref hI1785.1 kx_1 rfl) ?_
        refine r_iconst 0 rfl ?_
        refine r_bipush 48 rfl ?_
        have zv1787 : (0 : Int32).toInt = 0 := rfl
        have zv1788 : (0 : Int32).toInt = 0 := rfl
        have zv1789 : (48 : Int32).toInt = 48 := rfl
        refine q_cpy rfl (Nat.le_of_ble_eq_true rfl) (Sh.arr hI1785.1 ka_120) (Sh.arr hI1785.1 ka_5) ⟨by omega, by omega, by omega, by omega, by omega⟩ ?_
        have hI1790 := HI.cpy0 hI1785 ka_120 ka_5 rfl rfl ((0 : Int32).toInt.toNat) ((0 : Int32).toInt.toNat) ((48 : Int32).toInt.toNat) (by omega) (by omega)
        have hF1791 := Fr.cpy (p0 := 120) (p1 := 5) hF1786 rfl ((0 : Int32).toInt.toNat) ((0 : Int32).toInt.toNat) ((48 : Int32).toInt.toNat)
        refine r_aload_n rfl ?_
        refine r_aload_n rfl ?_
        obtain ⟨v1792, hv1792⟩ : ∃ v, gI g0 116 6 = v := ⟨_, rfl⟩
        have rv1792 := RgF.at hI0.2.1 (p := 116) (b := 6) rfl
        rw [hv1792] at rv1792
        dsimp only at rv1792
        refine q_getI (Sh.int hI1790.1 kx_116 rfl) v1792 (((gI_sW).trans ((gI_sI_ne (by decide)).trans ((gI_sW).trans ((gI_sW).trans ((gI_sW).trans (gI_sI_ne (by decide))))))).trans hv1792) ?_
        refine q_putI (Sh.int hI1790.1 kx_1 rfl) rfl ?_
        have hI1793 := HI.wI1 hI1790 kx_1 rfl (p := 1) (b := 6) (v := v1792) rfl (by dsimp only; omega)
        have hF1794 := Fr.wI (p := 1) (b := 6) (v := v1792) hF1791 rfl
        refine r_iconst 0 rfl ?_
        refine r_istore_n ([(2, .int 0), (0, .ref 1), (1, .ref 116)]) rfl ?_
        refine Ar.fall 86 rfl ?_
        have z_2021 : (0 : Int32).toInt = 0 := rfl
        refine w_loopI (fun n_ l_ g_ => ∃ x2009 : Int32, n_ = 6 - x2009.toInt ∧ HI g_ ∧ Fr F_X10_back_0 A_X10_back_0 g0 g_ ∧ gI g_ 1 0 = v1766 ∧ en_get 0 l_ = some (.ref 1) ∧ en_get 1 l_ = some (.ref 116) ∧ en_get 2 l_ = some (.int x2009) ∧ (0 ≤ x2009.toInt ∧ x2009.toInt ≤ 6)) ?_ (6 - 0) ⟨0, by first | rfl | omega, hI1793, hF1794, ((gI_sI_ne (by decide)).trans ((gI_sW).trans ((gI_sI_ne (by decide)).trans ((gI_sW).trans ((gI_sW).trans ((gI_sW).trans (gI_sI_eq hI0.1 kx_1 rfl _))))))), rfl, rfl, rfl, by decide⟩
        rintro n2014 l2013 g2010 ⟨x2009, hm2022, hI2011, hF2012, e2016, e2017, e2018, e2019, r2020⟩ ih2015
        have tv2023 := congrArg Int32.toInt e2016
        refine At.enter rfl ?_
        refine r_iload_n e2019 ?_
        refine r_bipush 6 rfl ?_
        refine r_ics 92 rfl (fun c2024 => ?_) (fun c2024 => ?_)
        · have c2024_ : x2009.toInt ≥ 6 := en_i_ge_t c2024
          refine At.enter rfl ?_
          refine r_aload_n e2017 ?_
          refine r_aload_n e2018 ?_
          obtain ⟨v2025, hv2025⟩ : ∃ v, gI g0 116 9 = v := ⟨_, rfl⟩
          refine q_getI (Sh.int hI2011.1 kx_116 rfl) v2025 ((hF2012.1 116 9 (by decide)).trans hv2025) ?_
          refine q_putI (Sh.int hI2011.1 kx_1 rfl) rfl ?_
          have hI2026 := HI.wI0 hI2011 kx_1 rfl (p := 1) (b := 9) (v := v2025) rfl
          have hF2027 := Fr.wI (p := 1) (b := 9) (v := v2025) hF2012 rfl
          refine r_aload_n e2017 ?_
          refine r_aload_n e2018 ?_
          obtain ⟨v2028, hv2028⟩ : ∃ v, gI g0 116 10 = v := ⟨_, rfl⟩
          refine q_getI (Sh.int hI2026.1 kx_116 rfl) v2028 (((gI_sI_ne (by decide)).trans (hF2012.1 116 10 (by decide))).trans hv2028) ?_
          refine q_putI (Sh.int hI2026.1 kx_1 rfl) rfl ?_
          have hI2029 := HI.wI0 hI2026 kx_1 rfl (p := 1) (b := 10) (v := v2028) rfl
          have hF2030 := Fr.wI (p := 1) (b := 10) (v := v2028) hF2027 rfl
          refine r_aload_n e2017 ?_
          refine r_aload_n e2018 ?_
          obtain ⟨v2031, hv2031⟩ : ∃ v, gI g0 116 11 = v := ⟨_, rfl⟩
          refine q_getI (Sh.int hI2029.1 kx_116 rfl) v2031 (((gI_sI_ne (by decide)).trans ((gI_sI_ne (by decide)).trans (hF2012.1 116 11 (by decide)))).trans hv2031) ?_
          refine q_putI (Sh.int hI2029.1 kx_1 rfl) rfl ?_
          have hI2032 := HI.wI0 hI2029 kx_1 rfl (p := 1) (b := 11) (v := v2031) rfl
          have hF2033 := Fr.wI (p := 1) (b := 11) (v := v2031) hF2030 rfl
          refine r_aload_n e2017 ?_
          refine r_aload_n e2018 ?_
          obtain ⟨v2034, hv2034⟩ : ∃ v, gI g0 116 12 = v := ⟨_, rfl⟩
          have rv2034 := RgF.at hI0.2.1 (p := 116) (b := 12) rfl
          rw [hv2034] at rv2034
          dsimp only at rv2034
          refine q_getI (Sh.int hI2032.1 kx_116 rfl) v2034 (((gI_sI_ne (by decide)).trans ((gI_sI_ne (by decide)).trans ((gI_sI_ne (by decide)).trans (hF2012.1 116 12 (by decide))))).trans hv2034) ?_
          refine q_putI (Sh.int hI2032.1 kx_1 rfl) rfl ?_
          have hI2035 := HI.wI1 hI2032 kx_1 rfl (p := 1) (b := 12) (v := v2034) rfl (by dsimp only; omega)
          have hF2036 := Fr.wI (p := 1) (b := 12) (v := v2034) hF2033 rfl
          refine r_aload_n e2018 ?_
          refine q_getR (Sh.ref hI2035.1 kx_116 rfl) ?_
          refine r_iconst 0 rfl ?_
          refine r_aload_n e2017 ?_
          refine q_getR (Sh.ref hI2035.1 kx_1 rfl) ?_
          refine r_iconst 0 rfl ?_
          refine r_bipush 8 rfl ?_
          have zv2037 : (0 : Int32).toInt = 0 := rfl
          have zv2038 : (0 : Int32).toInt = 0 := rfl
          have zv2039 : (8 : Int32).toInt = 8 := rfl
          refine q_cpy rfl (Nat.le_of_ble_eq_true rfl) (Sh.arr hI2035.1 ka_129) (Sh.arr hI2035.1 ka_14) ⟨by omega, by omega, by omega, by omega, by omega⟩ ?_
          have hI2040 := HI.cpy0 hI2035 ka_129 ka_14 rfl rfl ((0 : Int32).toInt.toNat) ((0 : Int32).toInt.toNat) ((8 : Int32).toInt.toNat) (by omega) (by omega)
          have hF2041 := Fr.cpy (p0 := 129) (p1 := 14) hF2036 rfl ((0 : Int32).toInt.toNat) ((0 : Int32).toInt.toNat) ((8 : Int32).toInt.toNat)
          refine r_aload_n e2018 ?_
          refine q_getR (Sh.ref hI2040.1 kx_116 rfl) ?_
          refine r_iconst 0 rfl ?_
          refine r_aload_n e2017 ?_
          refine q_getR (Sh.ref hI2040.1 kx_1 rfl) ?_
          refine r_iconst 0 rfl ?_
          refine r_bipush 8 rfl ?_
          have zv2042 : (0 : Int32).toInt = 0 := rfl
          have zv2043 : (0 : Int32).toInt = 0 := rfl
          have zv2044 : (8 : Int32).toInt = 8 := rfl
          refine q_cpy rfl (Nat.le_of_ble_eq_true rfl) (Sh.arr hI2040.1 ka_130) (Sh.arr hI2040.1 ka_15) ⟨by omega, by omega, by omega, by omega, by omega⟩ ?_
          have hI2045 := HI.cpy0 hI2040 ka_130 ka_15 rfl rfl ((0 : Int32).toInt.toNat) ((0 : Int32).toInt.toNat) ((8 : Int32).toInt.toNat) (by omega) (by omega)
          have hF2046 := Fr.cpy (p0 := 130) (p1 := 15) hF2041 rfl ((0 : Int32).toInt.toNat) ((0 : Int32).toInt.toNat) ((8 : Int32).toInt.toNat)
          refine q_vret ?_
          refine At.enter rfl ?_
          refine r_aload_n rfl ?_
          refine r_callV 44 rfl [.ref 0] [] (Nat.le_of_ble_eq_true rfl) rfl (T_X10_changed_0 _ hI2045) ?_
          rintro _ _ ⟨g2047, rfl, hI2048, hF2049, rfl⟩
          refine At.stn ?_
          have hF2052 := Fr.tr hF2046 hF2049 rfl rfl
          refine At.enter rfl ?_
          refine r_aload_n rfl ?_
          refine r_iconst 0 rfl ?_
          refine q_inlV 49 rfl [.ref 0, .int 0] [] (Nat.le_of_ble_eq_true rfl) rfl ?_
          refine Ev.mk rfl rfl ⟨Nat.le_of_ble_eq_true rfl, Or.inr (q_rc hI2048.1 kx_0 rfl)⟩ ?_
          show At _ none _ _ (0, [(0, .ref 0), (1, .int 0)], [], (_, _)) _
          refine At.enter rfl ?_
          refine r_aload_n rfl ?_
          refine r_iconst 0 rfl ?_
          refine q_putI (Sh.int hI2048.1 kx_0 rfl) rfl ?_
          have hI2053 := HI.wI0 hI2048 kx_0 rfl (p := 0) (b := 17) (v := 0) rfl
          have hF2054 := Fr.wI (p := 0) (b := 17) (v := 0) hF2052 rfl
          refine r_iload_n rfl ?_
          refine q_ireti ?_
          refine At.enter rfl ?_
          refine r_ireti ?_
          have zv2055 : (0 : Int32).toInt = 0 := rfl
          obtain ⟨v2056, hv2056⟩ : ∃ v, gI g0 1 0 = v := ⟨_, rfl⟩
          have rv2056 := RgF.at hI0.2.1 (p := 1) (b := 0) rfl
          rw [hv2056] at rv2056
          dsimp only at rv2056
          have tv2056 := congrArg Int32.toInt hv2056
          have x2057 := HI.eqI hI0 (p := 1) (b := 0) (hv2056)
          obtain ⟨v2058, hv2058⟩ : ∃ v, gI g0 1 12 = v := ⟨_, rfl⟩
          have rv2058 := RgF.at hI0.2.1 (p := 1) (b := 12) rfl
          rw [hv2058] at rv2058
          dsimp only at rv2058
          have tv2058 := congrArg Int32.toInt hv2058
          have x2059 := HI.eqI hI0 (p := 1) (b := 12) (hv2058)
          obtain ⟨v2060, hv2060⟩ : ∃ v, gI g0 1 10 = v := ⟨_, rfl⟩
          have tv2060 := congrArg Int32.toInt hv2060
          have x2061 := HI.eqI hI0 (p := 1) (b := 10) (hv2060)
          obtain ⟨v2062, hv2062⟩ : ∃ v, gI g0 1 11 = v := ⟨_, rfl⟩
          have tv2062 := congrArg Int32.toInt hv2062
          have x2063 := HI.eqI hI0 (p := 1) (b := 11) (hv2062)
          obtain ⟨v2064, hv2064⟩ : ∃ v, gI g0 59 0 = v := ⟨_, rfl⟩
          have rv2064 := RgF.at hI0.2.1 (p := 59) (b := 0) rfl
          rw [hv2064] at rv2064
          dsimp only at rv2064
          have tv2064 := congrArg Int32.toInt hv2064
          have x2065 := HI.eqI hI0 (p := 59) (b := 0) (hv2064)
          obtain ⟨v2066, hv2066⟩ : ∃ v, gI g0 59 12 = v := ⟨_, rfl⟩
          have rv2066 := RgF.at hI0.2.1 (p := 59) (b := 12) rfl
          rw [hv2066] at rv2066
          dsimp only at rv2066
          have tv2066 := congrArg Int32.toInt hv2066
          have x2067 := HI.eqI hI0 (p := 59) (b := 12) (hv2066)
          obtain ⟨v2068, hv2068⟩ : ∃ v, gI g0 59 10 = v := ⟨_, rfl⟩
          have tv2068 := congrArg Int32.toInt hv2068
          have x2069 := HI.eqI hI0 (p := 59) (b := 10) (hv2068)
          obtain ⟨v2070, hv2070⟩ : ∃ v, gI g0 59 11 = v := ⟨_, rfl⟩
          have tv2070 := congrArg Int32.toInt hv2070
          have x2071 := HI.eqI hI0 (p := 59) (b := 11) (hv2070)
          have x2072 := HI.eqI hI0 (p := 116) (b := 0) (hv1766)
          have x2073 := HI.eqI hI0 (p := 116) (b := 12) (hv2034)
          have x2074 := HI.eqI hI0 (p := 116) (b := 10) (hv2028)
          have x2075 := HI.eqI hI0 (p := 116) (b := 11) (hv2031)
          obtain ⟨v2076, hv2076⟩ : ∃ v, eA g0 173 0 = v := ⟨_, rfl⟩
          have tv2076 := congrArg Int32.toInt hv2076
          have x2077 := HI.eqA hI0 (p := 173) (j := 0) (hv2076)
          obtain ⟨v2078, hv2078⟩ : ∃ v, eA g0 173 1 = v := ⟨_, rfl⟩
          have tv2078 := congrArg Int32.toInt hv2078
          have x2079 := HI.eqA hI0 (p := 173) (j := 1) (hv2078)
          have x2080 := HI.eqI hI2053 (p := 1) (b := 0) ((((gI_sI_ne (by decide)).trans ((hF2049.1 1 0 (by decide)).trans ((gI_sW).trans ((gI_sW).trans ((gI_sI_ne (by decide)).trans ((gI_sI_ne (by decide)).trans ((gI_sI_ne (by decide)).trans (gI_sI_ne (by decide))))))))).trans e2016))
          have x2081 := HI.eqI hI2053 (p := 1) (b := 12) (((gI_sI_ne (by decide)).trans ((hF2049.1 1 12 (by decide)).trans ((gI_sW).trans ((gI_sW).trans (gI_sI_eq hI2032.1 kx_1 rfl _))))))
          have x2082 := HI.eqI hI2053 (p := 1) (b := 10) (((gI_sI_ne (by decide)).trans ((hF2049.1 1 10 (by decide)).trans ((gI_sW).trans ((gI_sW).trans ((gI_sI_ne (by decide)).trans ((gI_sI_ne (by decide)).trans (gI_sI_eq hI2026.1 kx_1 rfl _))))))))
          have x2083 := HI.eqI hI2053 (p := 1) (b := 11) (((gI_sI_ne (by decide)).trans ((hF2049.1 1 11 (by decide)).trans ((gI_sW).trans ((gI_sW).trans ((gI_sI_ne (by decide)).trans (gI_sI_eq hI2029.1 kx_1 rfl _)))))))
          have y2084 : a1.toInt = 1 → (eA g0 173 1).toInt = v1764.toInt := fun e => by rw [← hv1764, e]
          exact ⟨_, rfl, hI2053, hF2054, _, rfl, by decide, ⟨by omega, by omega, by omega, by omega, by omega⟩⟩
        · have c2024_ : x2009.toInt < 6 := en_i_ge_f c2024
          refine At.enter rfl ?_
          refine r_aload_n e2017 ?_
          refine r_iload_n e2019 ?_
          refine r_callV 97 rfl [.ref 1, .int x2009] [] (Nat.le_of_ble_eq_true rfl) rfl (T_X0_lawAt_1 _ hI2011 x2009) ?_
          rintro _ _ ⟨g2085, rfl, hI2086, hF2087, v2088, rfl, hr2089⟩
          refine At.str ?_
          have hF2090 := Fr.tr hF2012 hF2087 rfl rfl
          refine At.enter rfl ?_
          refine r_aload_n e2018 ?_
          refine r_iload_n e2019 ?_
          refine r_callV 102 rfl [.ref 116, .int x2009] [.ref (v2088)] (Nat.le_of_ble_eq_true rfl) rfl (T_X0_lawAt_116 _ hI2086 x2009) ?_
          rintro _ _ ⟨g2091, rfl, hI2092, hF2093, v2094, rfl, hr2095⟩
          refine At.str ?_
          have hF2096 := Fr.tr hF2090 hF2093 rfl rfl
          refine At.enter rfl ?_
          refine r_callV 105 rfl [.ref (v2088), .ref (v2094)] [] (Nat.le_of_ble_eq_true rfl) rfl (T_X4_become_law _ hI2092 (v2088) hr2089 (v2094) hr2095) ?_
          rintro _ _ ⟨g2097, rfl, hI2098, hF2099, rfl⟩
          refine At.stn ?_
          have hF2102 := Fr.tr hF2096 hF2099 rfl rfl
          refine At.enter rfl ?_
          refine q_iinc e2019 (x2009.toInt + 1) rfl (by omega) (fun v2103 hv2103 => ?_)
          refine r_goto ?_
          exact ih2015 (6 - v2103.toInt) _ _ ⟨v2103, by first | rfl | omega, hI2098, hF2102, (((hF2099.1 1 0 (by decide)).trans ((hF2093.1 1 0 (by decide)).trans (hF2087.1 1 0 (by decide)))).trans e2016), (w_p1 (by decide) (Or.inr rfl) e2017), (w_p1 (by decide) (Or.inr rfl) e2018), (w_e1 _ _ _), by omega⟩ ⟨by omega, by omega⟩
      · have c1765_ : v1764.toInt = 0 := en_k_ne_f c1765
        refine At.enter rfl ?_
        refine r_aload_n rfl ?_
        refine r_bipush (-2) rfl ?_
        refine r_callV 31 rfl [.ref 0, .int (-2)] [] (Nat.le_of_ble_eq_true rfl) rfl (T_X10_refused_0 _ hI0 (-2) (by decide)) ?_
        rintro _ _ ⟨g2104, rfl, hI2105, hF2106, v2107, rfl, hr2108⟩
        refine At.sti ?_
        have hF2109 := Fr.tr hF0 hF2106 rfl rfl
        have zv2110 : ((-2) : Int32).toInt = (-2) := rfl
        refine At.enter rfl ?_
        refine r_ireti ?_
        obtain ⟨v2111, hv2111⟩ : ∃ v, gI g0 1 0 = v := ⟨_, rfl⟩
        have rv2111 := RgF.at hI0.2.1 (p := 1) (b := 0) rfl
        rw [hv2111] at rv2111
        dsimp only at rv2111
        have tv2111 := congrArg Int32.toInt hv2111
        have x2112 := HI.eqI hI0 (p := 1) (b := 0) (hv2111)
        obtain ⟨v2113, hv2113⟩ : ∃ v, gI g0 1 12 = v := ⟨_, rfl⟩
        have rv2113 := RgF.at hI0.2.1 (p := 1) (b := 12) rfl
        rw [hv2113] at rv2113
        dsimp only at rv2113
        have tv2113 := congrArg Int32.toInt hv2113
        have x2114 := HI.eqI hI0 (p := 1) (b := 12) (hv2113)
        obtain ⟨v2115, hv2115⟩ : ∃ v, gI g0 1 10 = v := ⟨_, rfl⟩
        have tv2115 := congrArg Int32.toInt hv2115
        have x2116 := HI.eqI hI0 (p := 1) (b := 10) (hv2115)
        obtain ⟨v2117, hv2117⟩ : ∃ v, gI g0 1 11 = v := ⟨_, rfl⟩
        have tv2117 := congrArg Int32.toInt hv2117
        have x2118 := HI.eqI hI0 (p := 1) (b := 11) (hv2117)
        obtain ⟨v2119, hv2119⟩ : ∃ v, gI g0 59 0 = v := ⟨_, rfl⟩
        have rv2119 := RgF.at hI0.2.1 (p := 59) (b := 0) rfl
        rw [hv2119] at rv2119
        dsimp only at rv2119
        have tv2119 := congrArg Int32.toInt hv2119
        have x2120 := HI.eqI hI0 (p := 59) (b := 0) (hv2119)
        obtain ⟨v2121, hv2121⟩ : ∃ v, gI g0 59 12 = v := ⟨_, rfl⟩
        have rv2121 := RgF.at hI0.2.1 (p := 59) (b := 12) rfl
        rw [hv2121] at rv2121
        dsimp only at rv2121
        have tv2121 := congrArg Int32.toInt hv2121
        have x2122 := HI.eqI hI0 (p := 59) (b := 12) (hv2121)
        obtain ⟨v2123, hv2123⟩ : ∃ v, gI g0 59 10 = v := ⟨_, rfl⟩
        have tv2123 := congrArg Int32.toInt hv2123
        have x2124 := HI.eqI hI0 (p := 59) (b := 10) (hv2123)
        obtain ⟨v2125, hv2125⟩ : ∃ v, gI g0 59 11 = v := ⟨_, rfl⟩
        have tv2125 := congrArg Int32.toInt hv2125
        have x2126 := HI.eqI hI0 (p := 59) (b := 11) (hv2125)
        obtain ⟨v2127, hv2127⟩ : ∃ v, gI g0 116 0 = v := ⟨_, rfl⟩
        have rv2127 := RgF.at hI0.2.1 (p := 116) (b := 0) rfl
        rw [hv2127] at rv2127
        dsimp only at rv2127
        have tv2127 := congrArg Int32.toInt hv2127
        have x2128 := HI.eqI hI0 (p := 116) (b := 0) (hv2127)
        obtain ⟨v2129, hv2129⟩ : ∃ v, gI g0 116 12 = v := ⟨_, rfl⟩
        have rv2129 := RgF.at hI0.2.1 (p := 116) (b := 12) rfl
        rw [hv2129] at rv2129
        dsimp only at rv2129
        have tv2129 := congrArg Int32.toInt hv2129
        have x2130 := HI.eqI hI0 (p := 116) (b := 12) (hv2129)
        obtain ⟨v2131, hv2131⟩ : ∃ v, gI g0 116 10 = v := ⟨_, rfl⟩
        have tv2131 := congrArg Int32.toInt hv2131
        have x2132 := HI.eqI hI0 (p := 116) (b := 10) (hv2131)
        obtain ⟨v2133, hv2133⟩ : ∃ v, gI g0 116 11 = v := ⟨_, rfl⟩
        have tv2133 := congrArg Int32.toInt hv2133
        have x2134 := HI.eqI hI0 (p := 116) (b := 11) (hv2133)
        obtain ⟨v2135, hv2135⟩ : ∃ v, eA g0 173 0 = v := ⟨_, rfl⟩
        have tv2135 := congrArg Int32.toInt hv2135
        have x2136 := HI.eqA hI0 (p := 173) (j := 0) (hv2135)
        obtain ⟨v2137, hv2137⟩ : ∃ v, eA g0 173 1 = v := ⟨_, rfl⟩
        have tv2137 := congrArg Int32.toInt hv2137
        have x2138 := HI.eqA hI0 (p := 173) (j := 1) (hv2137)
        have x2139 := HI.eqI hI2105 (p := 1) (b := 0) (((hF2106.1 1 0 (by decide)).trans hv2111))
        have x2140 := HI.eqI hI2105 (p := 1) (b := 12) (((hF2106.1 1 12 (by decide)).trans hv2113))
        have x2141 := HI.eqI hI2105 (p := 1) (b := 10) (((hF2106.1 1 10 (by decide)).trans hv2115))
        have x2142 := HI.eqI hI2105 (p := 1) (b := 11) (((hF2106.1 1 11 (by decide)).trans hv2117))
        have y2143 : a1.toInt = 1 → (eA g0 173 1).toInt = v1764.toInt := fun e => by rw [← hv1764, e]
        exact ⟨_, rfl, hI2105, hF2109, _, rfl, by omega, ⟨by omega, by omega, by omega, by omega, by omega⟩⟩
