def F_X10_answer_0 : List (Nat × Nat) := [(185, 3), (223, 5), (223, 6), (223, 7), (223, 8), (223, 9)]
def A_X10_answer_0 : List Nat := [224, 225, 226]
set_option maxRecDepth 100000 in
set_option maxHeartbeats 4000000 in
theorem T_X10_answer_0 (d : Nat) {N : Nat} {g0 : List en_E} (hI0 : HI g0) (a1 : Int32) (a2 : Int32) : Ev (d + 8) 130 [.ref 0, .int a1, .int a2] (g0, N) (fun w h' => ∃ g', h' = (g', N) ∧ HI g' ∧ Fr F_X10_answer_0 A_X10_answer_0 g0 g' ∧ ∃ r : Int32, w = some (.int r) ∧ True ∧ AOQ g0 g' a1.toInt a2.toInt r.toInt) := by
  have hF0 : Fr F_X10_answer_0 A_X10_answer_0 g0 g0 := Fr.rf
  refine Ev.mk rfl rfl ⟨Nat.le_of_ble_eq_true rfl, Or.inr (q_rc hI0.1 kx_0 rfl)⟩ ?_
  show At _ none _ _ (0, [(0, .ref 0), (1, .int a1), (2, .int a2)], [], (_, _)) _
  refine At.enter rfl ?_
  refine r_aload_n rfl ?_
  refine q_getR (Sh.ref hI0.1 kx_0 rfl) ?_
  refine r_iload_n rfl ?_
  refine q_inlV 8 rfl [.ref 1, .int a1] [] (Nat.le_of_ble_eq_true rfl) rfl ?_
  refine Ev.mk rfl rfl ⟨Nat.le_of_ble_eq_true rfl, Or.inr (q_rc hI0.1 kx_1 rfl)⟩ ?_
  show At _ none _ _ (0, [(0, .ref 1), (1, .int a1)], [], (_, _)) _
  refine At.enter rfl ?_
  refine r_iload_n rfl ?_
  refine r_ifs 4 rfl (fun c27 => ?_) (fun c27 => ?_)
  · have c27_ : a1.toInt < 0 := en_k_lt_t c27
    refine At.enter rfl ?_
    refine r_iconst 0 rfl ?_
    refine Ar.fall 17 rfl ?_
    refine At.enter rfl ?_
    refine q_iretz (by decide) ?_
    refine At.enter rfl ?_
    refine r_ift (by decide) ?_
    refine At.enter rfl ?_
    refine r_iconst (-1) rfl ?_
    refine Ar.fall 33 rfl ?_
    refine At.enter rfl ?_
    refine r_ireti ?_
    have zv28 : ((-1) : Int32).toInt = (-1) := rfl
    exact ⟨_, rfl, hI0, hF0, _, rfl, trivial, ⟨fun _ => ⟨by omega, fun t => t⟩, fun z => False.elim (by have z1 := z.1.1; have z2 := z.1.2; have z3 := z.2; clear z; omega)⟩⟩
  · have c27_ : a1.toInt ≥ 0 := en_k_lt_f c27
    refine At.enter rfl ?_
    refine r_iload_n rfl ?_
    refine r_aload_n rfl ?_
    obtain ⟨v29, hv29⟩ : ∃ v, gI g0 1 0 = v := ⟨_, rfl⟩
    have rv29 := RgF.at hI0.2.1 (p := 1) (b := 0) rfl
    rw [hv29] at rv29
    dsimp only at rv29
    refine q_getI (Sh.int hI0.1 kx_1 rfl) v29 hv29 ?_
    have bv31 := q_bnd a1
    have bv32 := q_bnd v29
    refine r_ics 12 rfl (fun c30 => ?_) (fun c30 => ?_)
    · have c30_ : a1.toInt ≥ v29.toInt := en_i_ge_t c30
      refine At.enter rfl ?_
      refine r_iconst 0 rfl ?_
      refine Ar.fall 17 rfl ?_
      refine At.enter rfl ?_
      refine q_iretz (by decide) ?_
      refine At.enter rfl ?_
      refine r_ift (by decide) ?_
      refine At.enter rfl ?_
      refine r_iconst (-1) rfl ?_
      refine Ar.fall 33 rfl ?_
      refine At.enter rfl ?_
      refine r_ireti ?_
      have zv33 : ((-1) : Int32).toInt = (-1) := rfl
      exact ⟨_, rfl, hI0, hF0, _, rfl, trivial, ⟨fun _ => ⟨by omega, fun t => t⟩, fun z => False.elim (by have z1 := z.1.1; have z2 := z.1.2; have z3 := z.2; clear z; have y := congrArg Int32.toInt hv29; omega)⟩⟩
    · have c30_ : a1.toInt < v29.toInt := en_i_ge_f c30
      refine At.enter rfl ?_
      refine r_iconst 1 rfl ?_
      refine r_goto ?_
      refine At.enter rfl ?_
      refine q_iretz (by decide) ?_
      refine At.enter rfl ?_
      refine r_iff 11 rfl (by decide) ?_
      refine At.enter rfl ?_
      refine r_iload_n rfl ?_
      refine r_iconst 0 rfl ?_
      refine r_iconst 1 rfl ?_
      refine q_inlS 17 rfl [.int a2, .int 0, .int 1] [] (Nat.le_of_ble_eq_true rfl) rfl ?_
      refine Ev.mk rfl rfl ⟨Nat.le_of_ble_eq_true rfl, Or.inl rfl⟩ ?_
      show At _ none _ _ (0, [(0, .int a2), (1, .int 0), (2, .int 1)], [], (_, _)) _
      refine At.enter rfl ?_
      refine r_iload_n rfl ?_
      refine r_iload_n rfl ?_
      refine r_ics 5 rfl (fun c34 => ?_) (fun c34 => ?_)
      · have c34_ : a2.toInt < 0 := en_i_lt_t c34
        refine At.enter rfl ?_
        refine r_iconst 0 rfl ?_
        refine Ar.fall 15 rfl ?_
        refine At.enter rfl ?_
        refine q_iretz (by decide) ?_
        refine At.enter rfl ?_
        refine r_ift (by decide) ?_
        refine At.enter rfl ?_
        refine r_iconst (-1) rfl ?_
        refine Ar.fall 33 rfl ?_
        refine At.enter rfl ?_
        refine r_ireti ?_
        have zv35 : ((-1) : Int32).toInt = (-1) := rfl
        exact ⟨_, rfl, hI0, hF0, _, rfl, trivial, ⟨fun _ => ⟨by omega, fun t => t⟩, fun z => False.elim (by have z1 := z.1.1; have z2 := z.1.2; have z3 := z.2; clear z; have y := congrArg Int32.toInt hv29; omega)⟩⟩
      · have c34_ : a2.toInt ≥ 0 := en_i_lt_f c34
        refine At.enter rfl ?_
        refine r_iload_n rfl ?_
        refine r_iload_n rfl ?_
        refine r_ics 10 rfl (fun c36 => ?_) (fun c36 => ?_)
        · have c36_ : a2.toInt > 1 := en_i_gt_t c36
          refine At.enter rfl ?_
          refine r_iconst 0 rfl ?_
          refine Ar.fall 15 rfl ?_
          refine At.enter rfl ?_
          refine q_iretz (by decide) ?_
          refine At.enter rfl ?_
          refine r_ift (by decide) ?_
          refine At.enter rfl ?_
          refine r_iconst (-1) rfl ?_
          refine Ar.fall 33 rfl ?_
          refine At.enter rfl ?_
          refine r_ireti ?_
          have zv37 : ((-1) : Int32).toInt = (-1) := rfl
          exact ⟨_, rfl, hI0, hF0, _, rfl, trivial, ⟨fun _ => ⟨by omega, fun t => t⟩, fun z => False.elim (by have z1 := z.1.1; have z2 := z.1.2; have z3 := z.2; clear z; have y := congrArg Int32.toInt hv29; omega)⟩⟩
        · have c36_ : a2.toInt ≤ 1 := en_i_gt_f c36
          refine At.enter rfl ?_
          refine r_iconst 1 rfl ?_
          refine r_goto ?_
          refine At.enter rfl ?_
          refine q_iretz (by decide) ?_
          refine At.enter rfl ?_
          refine r_iff 20 rfl (by decide) ?_
          refine At.enter rfl ?_
          refine r_aload_n rfl ?_
          refine q_getR (Sh.ref hI0.1 kx_0 rfl) ?_
          refine r_iload_n rfl ?_
          refine r_iload_n rfl ?_
          refine r_callV 29 rfl [.ref 223, .int a1, .int a2] [] (Nat.le_of_ble_eq_true rfl) rfl (T_X2_answerOf_223 _ hI0 a1 (by omega) a2) ?_
          rintro _ _ ⟨g38, rfl, hI39, hF40, v41, rfl, hr42⟩
          refine At.sti ?_
          have hF43 := Fr.tr hF0 hF40 rfl rfl
          refine At.enter rfl ?_
          refine r_goto ?_
          refine At.enter rfl ?_
          refine r_ireti ?_
          exact ⟨_, rfl, hI39, hF43, _, rfl, trivial, ⟨fun z => absurd (show _ from ⟨⟨by have y := congrArg Int32.toInt hv29; omega, by have y := congrArg Int32.toInt hv29; omega⟩, by omega, by omega⟩) z, fun _ => hr42.2⟩⟩

def F_X10_restless_0 : List (Nat × Nat) := [(185, 3), (223, 5), (223, 6), (223, 7), (223, 8), (223, 9)]
def A_X10_restless_0 : List Nat := [224, 225, 226]
set_option maxRecDepth 100000 in
set_option maxHeartbeats 4000000 in
theorem T_X10_restless_0 (d : Nat) {N : Nat} {g0 : List en_E} (hI0 : HI g0) : Ev (d + 8) 131 [.ref 0] (g0, N) (fun w h' => ∃ g', h' = (g', N) ∧ HI g' ∧ Fr F_X10_restless_0 A_X10_restless_0 g0 g' ∧ ∃ r : Int32, w = some (.int r) ∧ ((-1) ≤ r.toInt ∧ r.toInt ≤ 11) ∧ FRP g0 g' r.toInt) := by
  have hF0 : Fr F_X10_restless_0 A_X10_restless_0 g0 g0 := Fr.rf
  refine Ev.mk rfl rfl ⟨Nat.le_of_ble_eq_true rfl, Or.inr (q_rc hI0.1 kx_0 rfl)⟩ ?_
  show At _ none _ _ (0, [(0, .ref 0)], [], (_, _)) _
  refine At.enter rfl ?_
  refine r_aload_n rfl ?_
  refine q_getR (Sh.ref hI0.1 kx_0 rfl) ?_
  refine r_callV 7 rfl [.ref 223] [] (Nat.le_of_ble_eq_true rfl) rfl (T_X2_firstRestless_223 _ hI0) ?_
  rintro _ _ ⟨g13, rfl, hI14, hF15, v16, rfl, hr17⟩
  refine At.sti ?_
  have hF18 := Fr.tr hF0 hF15 rfl rfl
  refine At.enter rfl ?_
  refine r_ireti ?_
  exact ⟨_, rfl, hI14, hF18, _, rfl, by omega, hr17.2⟩

def F_X10_rests_0 : List (Nat × Nat) := [(185, 3), (223, 5), (223, 6), (223, 7), (223, 8), (223, 9), (223, 10), (223, 11)]
def A_X10_rests_0 : List Nat := [224, 225, 226, 227]
theorem ma_X2_settle_223_4 : memA A_X2_settle_223 4 = false := by decide
set_option maxRecDepth 100000 in
set_option maxHeartbeats 4000000 in
theorem T_X10_rests_0 (d : Nat) {N : Nat} {g0 : List en_E} (hI0 : HI g0) (a1 : Int32) : Ev (d + 8) 132 [.ref 0, .int a1] (g0, N) (fun w h' => ∃ g', h' = (g', N) ∧ HI g' ∧ Fr F_X10_rests_0 A_X10_rests_0 g0 g' ∧ ∃ r : Int32, w = some (.int r) ∧ True ∧ RSQ g0 g' a1.toInt r.toInt) := by
  have hF0 : Fr F_X10_rests_0 A_X10_rests_0 g0 g0 := Fr.rf
  refine Ev.mk rfl rfl ⟨Nat.le_of_ble_eq_true rfl, Or.inr (q_rc hI0.1 kx_0 rfl)⟩ ?_
  show At _ none _ _ (0, [(0, .ref 0), (1, .int a1)], [], (_, _)) _
  refine At.enter rfl ?_
  refine r_iload_n rfl ?_
  refine r_iconst (-1) rfl ?_
  refine r_ics 5 rfl (fun c61 => ?_) (fun c61 => ?_)
  · have c61_ : a1.toInt = (-1) := en_i_eq_t c61
    refine At.enter rfl ?_
    refine r_aload_n rfl ?_
    refine q_getR (Sh.ref hI0.1 kx_0 rfl) ?_
    refine r_callV 25 rfl [.ref 223] [] (Nat.le_of_ble_eq_true rfl) rfl (T_X2_settle_223 _ hI0) ?_
    rintro _ _ ⟨g62, rfl, hI63, hF64, rfl, hr66⟩
    refine At.stn ?_
    have hF67 := Fr.tr hF0 hF64 rfl rfl
    refine At.enter rfl ?_
    refine r_aload_n rfl ?_
    refine q_getR (Sh.ref hI63.1 kx_0 rfl) ?_
    refine r_iload_n rfl ?_
    refine r_callV 33 rfl [.ref 223, .int a1] [] (Nat.le_of_ble_eq_true rfl) rfl (T_X2_settled_223 _ hI63 a1) ?_
    rintro _ _ ⟨g68, rfl, hI69, hF70, v71, rfl, hr72⟩
    refine At.sti ?_
    have hF73 := Fr.tr hF67 hF70 rfl rfl
    refine At.enter rfl ?_
    refine r_ireti ?_
    exact ⟨_, rfl, hI69, hF73, _, rfl, trivial, (RSQ_yes hr66 (FSX_fr hF64 rfl) (hF64.2.1 4 ma_X2_settle_223_4) hr72.2 (fun t => TOLDX_fr hF70 rfl rfl rfl rfl t) (fun t => SETX_fr hF70 rfl rfl rfl rfl rfl t) (by first | exact Or.inl (by omega) | exact Or.inr ⟨by omega, by omega⟩))⟩
  · have c61_ : a1.toInt ≠ (-1) := en_i_eq_f c61
    refine At.enter rfl ?_
    refine r_aload_n rfl ?_
    refine q_getR (Sh.ref hI0.1 kx_0 rfl) ?_
    refine r_iload_n rfl ?_
    refine q_inlV 13 rfl [.ref 1, .int a1] [] (Nat.le_of_ble_eq_true rfl) rfl ?_
    refine Ev.mk rfl rfl ⟨Nat.le_of_ble_eq_true rfl, Or.inr (q_rc hI0.1 kx_1 rfl)⟩ ?_
    show At _ none _ _ (0, [(0, .ref 1), (1, .int a1)], [], (_, _)) _
    refine At.enter rfl ?_
    refine r_iload_n rfl ?_
    refine r_ifs 4 rfl (fun c74 => ?_) (fun c74 => ?_)
    · have c74_ : a1.toInt < 0 := en_k_lt_t c74
      refine At.enter rfl ?_
      refine r_iconst 0 rfl ?_
      refine Ar.fall 17 rfl ?_
      refine At.enter rfl ?_
      refine q_iretz (by decide) ?_
      refine At.enter rfl ?_
      refine r_iff 16 rfl (by decide) ?_
      refine At.enter rfl ?_
      refine r_iconst (-1) rfl ?_
      refine r_ireti ?_
      have zv75 : ((-1) : Int32).toInt = (-1) := rfl
      exact ⟨_, rfl, hI0, hF0, _, rfl, trivial, ⟨fun _ => ⟨by omega, fun t => t, fun t => t⟩, fun z => False.elim (by rcases z with z | ⟨z1, z2⟩ <;> (omega))⟩⟩
    · have c74_ : a1.toInt ≥ 0 := en_k_lt_f c74
      refine At.enter rfl ?_
      refine r_iload_n rfl ?_
      refine r_aload_n rfl ?_
      obtain ⟨v76, hv76⟩ : ∃ v, gI g0 1 0 = v := ⟨_, rfl⟩
      have rv76 := RgF.at hI0.2.1 (p := 1) (b := 0) rfl
      rw [hv76] at rv76
      dsimp only at rv76
      refine q_getI (Sh.int hI0.1 kx_1 rfl) v76 hv76 ?_
      have bv78 := q_bnd a1
      have bv79 := q_bnd v76
      refine r_ics 12 rfl (fun c77 => ?_) (fun c77 => ?_)
      · have c77_ : a1.toInt ≥ v76.toInt := en_i_ge_t c77
        refine At.enter rfl ?_
        refine r_iconst 0 rfl ?_
        refine Ar.fall 17 rfl ?_
        refine At.enter rfl ?_
        refine q_iretz (by decide) ?_
        refine At.enter rfl ?_
        refine r_iff 16 rfl (by decide) ?_
        refine At.enter rfl ?_
        refine r_iconst (-1) rfl ?_
        refine r_ireti ?_
        have zv80 : ((-1) : Int32).toInt = (-1) := rfl
        exact ⟨_, rfl, hI0, hF0, _, rfl, trivial, ⟨fun _ => ⟨by omega, fun t => t, fun t => t⟩, fun z => False.elim (by rcases z with z | ⟨z1, z2⟩ <;> (have y := congrArg Int32.toInt hv76; omega))⟩⟩
      · have c77_ : a1.toInt < v76.toInt := en_i_ge_f c77
        refine At.enter rfl ?_
        refine r_iconst 1 rfl ?_
        refine r_goto ?_
        refine At.enter rfl ?_
        refine q_iretz (by decide) ?_
        refine At.enter rfl ?_
        refine r_ift (by decide) ?_
        refine At.enter rfl ?_
        refine r_aload_n rfl ?_
        refine q_getR (Sh.ref hI0.1 kx_0 rfl) ?_
        refine r_callV 25 rfl [.ref 223] [] (Nat.le_of_ble_eq_true rfl) rfl (T_X2_settle_223 _ hI0) ?_
        rintro _ _ ⟨g81, rfl, hI82, hF83, rfl, hr85⟩
        refine At.stn ?_
        have hF86 := Fr.tr hF0 hF83 rfl rfl
        refine At.enter rfl ?_
        refine r_aload_n rfl ?_
        refine q_getR (Sh.ref hI82.1 kx_0 rfl) ?_
        refine r_iload_n rfl ?_
        refine r_callV 33 rfl [.ref 223, .int a1] [] (Nat.le_of_ble_eq_true rfl) rfl (T_X2_settled_223 _ hI82 a1) ?_
        rintro _ _ ⟨g87, rfl, hI88, hF89, v90, rfl, hr91⟩
        refine At.sti ?_
        have hF92 := Fr.tr hF86 hF89 rfl rfl
        refine At.enter rfl ?_
        refine r_ireti ?_
        exact ⟨_, rfl, hI88, hF92, _, rfl, trivial, (RSQ_yes hr85 (FSX_fr hF83 rfl) (hF83.2.1 4 ma_X2_settle_223_4) hr91.2 (fun t => TOLDX_fr hF89 rfl rfl rfl rfl t) (fun t => SETX_fr hF89 rfl rfl rfl rfl rfl t) (by first | exact Or.inl (by omega) | exact Or.inr ⟨by omega, by have y := congrArg Int32.toInt hv76; omega⟩))⟩

def F_X10_pieces_0 : List (Nat × Nat) := []
def A_X10_pieces_0 : List Nat := []
set_option maxRecDepth 100000 in
set_option maxHeartbeats 4000000 in
theorem T_X10_pieces_0 (d : Nat) {N : Nat} {g0 : List en_E} (hI0 : HI g0) (a1 : Int32) : Ev (d + 5) 133 [.ref 0, .int a1] (g0, N) (fun w h' => ∃ g', h' = (g', N) ∧ HI g' ∧ Fr F_X10_pieces_0 A_X10_pieces_0 g0 g' ∧ ∃ r : Int32, w = some (.int r) ∧ True ∧ ((¬ (0 ≤ a1.toInt ∧ a1.toInt < (gI g0 1 4).toInt) → r.toInt = -1) ∧ ((0 ≤ a1.toInt ∧ a1.toInt < (gI g0 1 4).toInt) → (eA g0 5 (6 * a1.toInt + 2)).toInt ≠ -1 → PCE (NX g0) (SX g0) 11 (eA g0 5 (6 * a1.toInt + 1)).toInt (eA g0 5 (6 * a1.toInt + 2)).toInt (eA g0 5 (6 * a1.toInt + 0)).toInt r))) := by
  have hF0 : Fr F_X10_pieces_0 A_X10_pieces_0 g0 g0 := Fr.rf
  refine Ev.mk rfl rfl ⟨Nat.le_of_ble_eq_true rfl, Or.inr (q_rc hI0.1 kx_0 rfl)⟩ ?_
  show At _ none _ _ (0, [(0, .ref 0), (1, .int a1)], [], (_, _)) _
  refine At.enter rfl ?_
  refine r_aload_n rfl ?_
  refine q_getR (Sh.ref hI0.1 kx_0 rfl) ?_
  refine r_iload_n rfl ?_
  refine q_inlV 8 rfl [.ref 1, .int a1] [] (Nat.le_of_ble_eq_true rfl) rfl ?_
  refine Ev.mk rfl rfl ⟨Nat.le_of_ble_eq_true rfl, Or.inr (q_rc hI0.1 kx_1 rfl)⟩ ?_
  show At _ none _ _ (0, [(0, .ref 1), (1, .int a1)], [], (_, _)) _
  refine At.enter rfl ?_
  refine r_iload_n rfl ?_
  refine r_ifs 4 rfl (fun c23 => ?_) (fun c23 => ?_)
  · have c23_ : a1.toInt < 0 := en_k_lt_t c23
    refine At.enter rfl ?_
    refine r_iconst 0 rfl ?_
    refine Ar.fall 17 rfl ?_
    refine At.enter rfl ?_
    refine q_iretz (by decide) ?_
    refine At.enter rfl ?_
    refine r_ift (by decide) ?_
    refine At.enter rfl ?_
    refine r_iconst (-1) rfl ?_
    refine Ar.fall 23 rfl ?_
    refine At.enter rfl ?_
    refine r_ireti ?_
    have zv24 : ((-1) : Int32).toInt = (-1) := rfl
    obtain ⟨v25, hv25⟩ : ∃ v, gI g0 1 4 = v := ⟨_, rfl⟩
    have rv25 := RgF.at hI0.2.1 (p := 1) (b := 4) rfl
    rw [hv25] at rv25
    dsimp only at rv25
    have tv25 := congrArg Int32.toInt hv25
    exact ⟨_, rfl, hI0, hF0, _, rfl, trivial, ⟨fun _ => by omega, fun h => absurd h (by omega)⟩⟩
  · have c23_ : a1.toInt ≥ 0 := en_k_lt_f c23
    refine At.enter rfl ?_
    refine r_iload_n rfl ?_
    refine r_aload_n rfl ?_
    obtain ⟨v27, hv27⟩ : ∃ v, gI g0 1 4 = v := ⟨_, rfl⟩
    have rv27 := RgF.at hI0.2.1 (p := 1) (b := 4) rfl
    rw [hv27] at rv27
    dsimp only at rv27
    refine q_getI (Sh.int hI0.1 kx_1 rfl) v27 hv27 ?_
    have bv29 := q_bnd a1
    have bv30 := q_bnd v27
    refine r_ics 12 rfl (fun c28 => ?_) (fun c28 => ?_)
    · have c28_ : a1.toInt ≥ v27.toInt := en_i_ge_t c28
      refine At.enter rfl ?_
      refine r_iconst 0 rfl ?_
      refine Ar.fall 17 rfl ?_
      refine At.enter rfl ?_
      refine q_iretz (by decide) ?_
      refine At.enter rfl ?_
      refine r_ift (by decide) ?_
      refine At.enter rfl ?_
      refine r_iconst (-1) rfl ?_
      refine Ar.fall 23 rfl ?_
      refine At.enter rfl ?_
      refine r_ireti ?_
      have zv31 : ((-1) : Int32).toInt = (-1) := rfl
      have x32 := HI.eqI hI0 (p := 1) (b := 4) (hv27)
      exact ⟨_, rfl, hI0, hF0, _, rfl, trivial, ⟨fun _ => by omega, fun h => absurd h (by omega)⟩⟩
    · have c28_ : a1.toInt < v27.toInt := en_i_ge_f c28
      refine At.enter rfl ?_
      refine r_iconst 1 rfl ?_
      refine r_goto ?_
      refine At.enter rfl ?_
      refine q_iretz (by decide) ?_
      refine At.enter rfl ?_
      refine r_iff 11 rfl (by decide) ?_
      refine At.enter rfl ?_
      refine r_aload_n rfl ?_
      refine q_getR (Sh.ref hI0.1 kx_0 rfl) ?_
      refine r_iload_n rfl ?_
      refine r_callV 19 rfl [.ref 184, .int a1] [] (Nat.le_of_ble_eq_true rfl) rfl (T_X9_minutesInPieces_184 _ hI0 a1) ?_
      rintro _ _ ⟨g33, rfl, hI34, hF35, v36, rfl, hr37⟩
      refine At.sti ?_
      have hF38 := Fr.tr hF0 hF35 rfl rfl
      refine At.enter rfl ?_
      refine r_goto ?_
      refine At.enter rfl ?_
      refine r_ireti ?_
      have x39 := HI.eqI hI0 (p := 1) (b := 4) (hv27)
      exact ⟨_, rfl, hI34, hF38, _, rfl, trivial, ⟨fun h => absurd h (by omega), fun h hw => hr37.2 h hw⟩⟩
