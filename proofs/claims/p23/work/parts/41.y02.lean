def F_X10_restless_0 : List (Nat × Nat) := [(185, 3), (223, 5), (223, 6), (223, 7), (223, 8), (223, 9)]
def A_X10_restless_0 : List Nat := [224, 225, 226]
set_option maxRecDepth 100000 in
set_option maxHeartbeats 4000000 in
theorem T_X10_restless_0 (d : Nat) {N : Nat} {g0 : List en_E} (hI0 : HI g0) : Ev (d + 8) 131 [.ref 0] (g0, N) (fun w h' => ∃ g', h' = (g', N) ∧ HI g' ∧ Fr F_X10_restless_0 A_X10_restless_0 g0 g' ∧ ∃ r : Int32, w = some (.int r) ∧ ((-1) ≤ r.toInt ∧ r.toInt ≤ 11)) := by
  have hF0 : Fr F_X10_restless_0 A_X10_restless_0 g0 g0 := Fr.rf
  refine Ev.mk rfl rfl ⟨Nat.le_of_ble_eq_true rfl, Or.inr (q_rc hI0.1 kx_0 rfl)⟩ ?_
  show At _ none _ _ (0, [(0, .ref 0)], [], (_, _)) _
  refine At.enter rfl ?_
  refine r_aload_n rfl ?_
  refine q_getR (Sh.ref hI0.1 kx_0 rfl) ?_
  refine r_callV 7 rfl [.ref 223] [] (Nat.le_of_ble_eq_true rfl) rfl (T_X2_firstRestless_223 _ hI0) ?_
  rintro _ _ ⟨g13, rfl, hI14, hF15, v16, rfl, hr17⟩
  refine At.sti ?_
  have hF18 := Fr.tr hF0 hF15 rfl rfl
  refine At.enter rfl ?_
  refine r_ireti ?_
  exact ⟨_, rfl, hI14, hF18, _, rfl, by omega⟩

def F_X10_rests_0 : List (Nat × Nat) := [(185, 3), (223, 5), (223, 6), (223, 7), (223, 8), (223, 9), (223, 10), (223, 11)]
def A_X10_rests_0 : List Nat := [224, 225, 226, 227]
set_option maxRecDepth 100000 in
set_option maxHeartbeats 4000000 in
theorem T_X10_rests_0 (d : Nat) {N : Nat} {g0 : List en_E} (hI0 : HI g0) (a1 : Int32) : Ev (d + 8) 132 [.ref 0, .int a1] (g0, N) (fun w h' => ∃ g', h' = (g', N) ∧ HI g' ∧ Fr F_X10_rests_0 A_X10_rests_0 g0 g' ∧ ∃ r : Int32, w = some (.int r) ∧ True) := by
  have hF0 : Fr F_X10_rests_0 A_X10_rests_0 g0 g0 := Fr.rf
  refine Ev.mk rfl rfl ⟨Nat.le_of_ble_eq_true rfl, Or.inr (q_rc hI0.1 kx_0 rfl)⟩ ?_
  show At _ none _ _ (0, [(0, .ref 0), (1, .int a1)], [], (_, _)) _
  refine At.enter rfl ?_
  refine r_iload_n rfl ?_
  refine r_iconst (-1) rfl ?_
  refine r_ics 5 rfl (fun c61 => ?_) (fun c61 => ?_)
  · have c61_ : a1.toInt = (-1) := en_i_eq_t c61
    refine At.enter rfl ?_
    refine r_aload_n rfl ?_
    refine q_getR (Sh.ref hI0.1 kx_0 rfl) ?_
    refine r_callV 25 rfl [.ref 223] [] (Nat.le_of_ble_eq_true rfl) rfl (T_X2_settle_223 _ hI0) ?_
    rintro _ _ ⟨g62, rfl, hI63, hF64, rfl⟩
    refine At.stn ?_
    have hF67 := Fr.tr hF0 hF64 rfl rfl
    refine At.enter rfl ?_
    refine r_aload_n rfl ?_
    refine q_getR (Sh.ref hI63.1 kx_0 rfl) ?_
    refine r_iload_n rfl ?_
    refine r_callV 33 rfl [.ref 223, .int a1] [] (Nat.le_of_ble_eq_true rfl) rfl (T_X2_settled_223 _ hI63 a1) ?_
    rintro _ _ ⟨g68, rfl, hI69, hF70, v71, rfl, hr72⟩
    refine At.sti ?_
    have hF73 := Fr.tr hF67 hF70 rfl rfl
    refine At.enter rfl ?_
    refine r_ireti ?_
    exact ⟨_, rfl, hI69, hF73, _, rfl, trivial⟩
  · have c61_ : a1.toInt ≠ (-1) := en_i_eq_f c61
    refine At.enter rfl ?_
    refine r_aload_n rfl ?_
    refine q_getR (Sh.ref hI0.1 kx_0 rfl) ?_
    refine r_iload_n rfl ?_
    refine q_inlV 13 rfl [.ref 1, .int a1] [] (Nat.le_of_ble_eq_true rfl) rfl ?_
    refine Ev.mk rfl rfl ⟨Nat.le_of_ble_eq_true rfl, Or.inr (q_rc hI0.1 kx_1 rfl)⟩ ?_
    show At _ none _ _ (0, [(0, .ref 1), (1, .int a1)], [], (_, _)) _
    refine At.enter rfl ?_
    refine r_iload_n rfl ?_
    refine r_ifs 4 rfl (fun c74 => ?_) (fun c74 => ?_)
    · have c74_ : a1.toInt < 0 := en_k_lt_t c74
      refine At.enter rfl ?_
      refine r_iconst 0 rfl ?_
      refine Ar.fall 17 rfl ?_
      refine At.enter rfl ?_
      refine q_iretz (by decide) ?_
      refine At.enter rfl ?_
      refine r_iff 16 rfl (by decide) ?_
      refine At.enter rfl ?_
      refine r_iconst (-1) rfl ?_
      refine r_ireti ?_
      exact ⟨_, rfl, hI0, hF0, _, rfl, trivial⟩
    · have c74_ : a1.toInt ≥ 0 := en_k_lt_f c74
      refine At.enter rfl ?_
      refine r_iload_n rfl ?_
      refine r_aload_n rfl ?_
      obtain ⟨v75, hv75⟩ : ∃ v, gI g0 1 0 = v := ⟨_, rfl⟩
      have rv75 := RgF.at hI0.2.1 (p := 1) (b := 0) rfl
      rw [hv75] at rv75
      dsimp only at rv75
      refine q_getI (Sh.int hI0.1 kx_1 rfl) v75 hv75 ?_
      have bv77 := q_bnd a1
      have bv78 := q_bnd v75
      refine r_ics 12 rfl (fun c76 => ?_) (fun c76 => ?_)
      · have c76_ : a1.toInt ≥ v75.toInt := en_i_ge_t c76
        refine At.enter rfl ?_
        refine r_iconst 0 rfl ?_
        refine Ar.fall 17 rfl ?_
        refine At.enter rfl ?_
        refine q_iretz (by decide) ?_
        refine At.enter rfl ?_
        refine r_iff 16 rfl (by decide) ?_
        refine At.enter rfl ?_
        refine r_iconst (-1) rfl ?_
        refine r_ireti ?_
        exact ⟨_, rfl, hI0, hF0, _, rfl, trivial⟩
      · have c76_ : a1.toInt < v75.toInt := en_i_ge_f c76
        refine At.enter rfl ?_
        refine r_iconst 1 rfl ?_
        refine r_goto ?_
        refine At.enter rfl ?_
        refine q_iretz (by decide) ?_
        refine At.enter rfl ?_
        refine r_ift (by decide) ?_
        refine At.enter rfl ?_
        refine r_aload_n rfl ?_
        refine q_getR (Sh.ref hI0.1 kx_0 rfl) ?_
        refine r_callV 25 rfl [.ref 223] [] (Nat.le_of_ble_eq_true rfl) rfl (T_X2_settle_223 _ hI0) ?_
        rintro _ _ ⟨g79, rfl, hI80, hF81, rfl⟩
        refine At.stn ?_
        have hF84 := Fr.tr hF0 hF81 rfl rfl
        refine At.enter rfl ?_
        refine r_aload_n rfl ?_
        refine q_getR (Sh.ref hI80.1 kx_0 rfl) ?_
        refine r_iload_n rfl ?_
        refine r_callV 33 rfl [.ref 223, .int a1] [] (Nat.le_of_ble_eq_true rfl) rfl (T_X2_settled_223 _ hI80 a1) ?_
        rintro _ _ ⟨g85, rfl, hI86, hF87, v88, rfl, hr89⟩
        refine At.sti ?_
        have hF90 := Fr.tr hF84 hF87 rfl rfl
        refine At.enter rfl ?_
        refine r_ireti ?_
        exact ⟨_, rfl, hI86, hF90, _, rfl, trivial⟩

def F_X10_pieces_0 : List (Nat × Nat) := []
def A_X10_pieces_0 : List Nat := []
set_option maxRecDepth 100000 in
set_option maxHeartbeats 4000000 in
theorem T_X10_pieces_0 (d : Nat) {N : Nat} {g0 : List en_E} (hI0 : HI g0) (a1 : Int32) : Ev (d + 5) 133 [.ref 0, .int a1] (g0, N) (fun w h' => ∃ g', h' = (g', N) ∧ HI g' ∧ Fr F_X10_pieces_0 A_X10_pieces_0 g0 g' ∧ ∃ r : Int32, w = some (.int r) ∧ True) := by
  have hF0 : Fr F_X10_pieces_0 A_X10_pieces_0 g0 g0 := Fr.rf
  refine Ev.mk rfl rfl ⟨Nat.le_of_ble_eq_true rfl, Or.inr (q_rc hI0.1 kx_0 rfl)⟩ ?_
  show At _ none _ _ (0, [(0, .ref 0), (1, .int a1)], [], (_, _)) _
  refine At.enter rfl ?_
  refine r_aload_n rfl ?_
  refine q_getR (Sh.ref hI0.1 kx_0 rfl) ?_
  refine r_iload_n rfl ?_
  refine q_inlV 8 rfl [.ref 1, .int a1] [] (Nat.le_of_ble_eq_true rfl) rfl ?_
  refine Ev.mk rfl rfl ⟨Nat.le_of_ble_eq_true rfl, Or.inr (q_rc hI0.1 kx_1 rfl)⟩ ?_
  show At _ none _ _ (0, [(0, .ref 1), (1, .int a1)], [], (_, _)) _
  refine At.enter rfl ?_
  refine r_iload_n rfl ?_
  refine r_ifs 4 rfl (fun c23 => ?_) (fun c23 => ?_)
  · have c23_ : a1.toInt < 0 := en_k_lt_t c23
    refine At.enter rfl ?_
    refine r_iconst 0 rfl ?_
    refine Ar.fall 17 rfl ?_
    refine At.enter rfl ?_
    refine q_iretz (by decide) ?_
    refine At.enter rfl ?_
    refine r_ift (by decide) ?_
    refine At.enter rfl ?_
    refine r_iconst (-1) rfl ?_
    refine Ar.fall 23 rfl ?_
    refine At.enter rfl ?_
    refine r_ireti ?_
    exact ⟨_, rfl, hI0, hF0, _, rfl, trivial⟩
  · have c23_ : a1.toInt ≥ 0 := en_k_lt_f c23
    refine At.enter rfl ?_
    refine r_iload_n rfl ?_
    refine r_aload_n rfl ?_
    obtain ⟨v24, hv24⟩ : ∃ v, gI g0 1 4 = v := ⟨_, rfl⟩
    have rv24 := RgF.at hI0.2.1 (p := 1) (b := 4) rfl
    rw [hv24] at rv24
    dsimp only at rv24
    refine q_getI (Sh.int hI0.1 kx_1 rfl) v24 hv24 ?_
    have bv26 := q_bnd a1
    have bv27 := q_bnd v24
    refine r_ics 12 rfl (fun c25 => ?_) (fun c25 => ?_)
    · have c25_ : a1.toInt ≥ v24.toInt := en_i_ge_t c25
      refine At.enter rfl ?_
      refine r_iconst 0 rfl ?_
      refine Ar.fall 17 rfl ?_
      refine At.enter rfl ?_
      refine q_iretz (by decide) ?_
      refine At.enter rfl ?_
      refine r_ift (by decide) ?_
      refine At.enter rfl ?_
      refine r_iconst (-1) rfl ?_
      refine Ar.fall 23 rfl ?_
      refine At.enter rfl ?_
      refine r_ireti ?_
      exact ⟨_, rfl, hI0, hF0, _, rfl, trivial⟩
    · have c25_ : a1.toInt < v24.toInt := en_i_ge_f c25
      refine At.enter rfl ?_
      refine r_iconst 1 rfl ?_
      refine r_goto ?_
      refine At.enter rfl ?_
      refine q_iretz (by decide) ?_
      refine At.enter rfl ?_
      refine r_iff 11 rfl (by decide) ?_
      refine At.enter rfl ?_
      refine r_aload_n rfl ?_
      refine q_getR (Sh.ref hI0.1 kx_0 rfl) ?_
      refine r_iload_n rfl ?_
      refine r_callV 19 rfl [.ref 184, .int a1] [] (Nat.le_of_ble_eq_true rfl) rfl (T_X9_minutesInPieces_184 _ hI0 a1) ?_
      rintro _ _ ⟨g28, rfl, hI29, hF30, v31, rfl, hr32⟩
      refine At.sti ?_
      have hF33 := Fr.tr hF0 hF30 rfl rfl
      refine At.enter rfl ?_
      refine r_goto ?_
      refine At.enter rfl ?_
      refine r_ireti ?_
      exact ⟨_, rfl, hI29, hF33, _, rfl, trivial⟩

def F_X10_sign_0 : List (Nat × Nat) := [(0, 17), (1, 12)]
def A_X10_sign_0 : List Nat := [14, 15, 230]
set_option maxRecDepth 100000 in
set_option maxHeartbeats 4000000 in
theorem T_X10_sign_0 (d : Nat) {N : Nat} {g0 : List en_E} (hI0 : HI g0) (a1 : Int32) (a2 : Int32) : Ev (d + 3) 134 [.ref 0, .int a1, .int a2] (g0, N) (fun w h' => ∃ g', h' = (g', N) ∧ HI g' ∧ Fr F_X10_sign_0 A_X10_sign_0 g0 g' ∧ ∃ r : Int32, w = some (.int r) ∧ ((-5) ≤ r.toInt ∧ r.toInt ≤ 8) ∧ ((¬ (0 ≤ a2.toInt ∧ a2.toInt ≤ 99) → r.toInt = -1 ∧ (gI g' 1 12).toInt = (gI g0 1 12).toInt) ∧ ((0 ≤ a2.toInt ∧ a2.toInt ≤ 99) ∧ ¬ (0 ≤ a1.toInt ∧ a1.toInt < (gI g0 1 0).toInt) → r.toInt = -2 ∧ (gI g' 1 12).toInt = (gI g0 1 12).toInt) ∧ ((0 ≤ a2.toInt ∧ a2.toInt ≤ 99) ∧ (0 ≤ a1.toInt ∧ a1.toInt < (gI g0 1 0).toInt) ∧ 8 ≤ (gI g0 1 12).toInt → r.toInt = -5 ∧ (gI g' 1 12).toInt = (gI g0 1 12).toInt) ∧ ((0 ≤ a2.toInt ∧ a2.toInt ≤ 99) ∧ (0 ≤ a1.toInt ∧ a1.toInt < (gI g0 1 0).toInt) ∧ (gI g0 1 12).toInt < 8 → r.toInt = (gI g0 1 12).toInt + 1 ∧ (gI g' 1 12).toInt = (gI g0 1 12).toInt + 1))) := by
  have hF0 : Fr F_X10_sign_0 A_X10_sign_0 g0 g0 := Fr.rf
  refine Ev.mk rfl rfl ⟨Nat.le_of_ble_eq_true rfl, Or.inr (q_rc hI0.1 kx_0 rfl)⟩ ?_
  show At _ none _ _ (0, [(0, .ref 0), (1, .int a1), (2, .int a2)], [], (_, _)) _
  refine At.enter rfl ?_
  refine r_iload_n rfl ?_
  refine r_iconst 0 rfl ?_
  refine r_bipush 99 rfl ?_
  refine q_inlS 7 rfl [.int a2, .int 0, .int 99] [] (Nat.le_of_ble_eq_true rfl) rfl ?_
  refine Ev.mk rfl rfl ⟨Nat.le_of_ble_eq_true rfl, Or.inl rfl⟩ ?_
  show At _ none _ _ (0, [(0, .int a2), (1, .int 0), (2, .int 99)], [], (_, _)) _
  refine At.enter rfl ?_
  refine r_iload_n rfl ?_
  refine r_iload_n rfl ?_
  refine r_ics 5 rfl (fun c107 => ?_) (fun c107 => ?_)
  · have c107_ : a2.toInt < 0 := en_i_lt_t c107
    refine At.enter rfl ?_
    refine r_iconst 0 rfl ?_
    refine Ar.fall 15 rfl ?_
    refine At.enter rfl ?_
    refine q_iretz (by decide) ?_
    refine At.enter rfl ?_
    refine r_iff 10 rfl (by decide) ?_
    refine At.enter rfl ?_
    refine r_aload_n rfl ?_
    refine r_iconst (-1) rfl ?_
    refine r_callV 15 rfl [.ref 0, .int (-1)] [] (Nat.le_of_ble_eq_true rfl) rfl (T_X10_refused_0 _ hI0 (-1) (by decide)) ?_
    rintro _ _ ⟨g108, rfl, hI109, hF110, v111, rfl, hr112⟩
    refine At.sti ?_
    have hF113 := Fr.tr hF0 hF110 rfl rfl
    have zv114 : ((-1) : Int32).toInt = (-1) := rfl
    refine At.enter rfl ?_
    refine r_ireti ?_
    obtain ⟨v115, hv115⟩ : ∃ v, gI g0 1 12 = v := ⟨_, rfl⟩
    have rv115 := RgF.at hI0.2.1 (p := 1) (b := 12) rfl
    rw [hv115] at rv115
    dsimp only at rv115
    have tv115 := congrArg Int32.toInt hv115
    have x116 := HI.eqI hI109 (p := 1) (b := 12) (((hF110.1 1 12 (by decide)).trans hv115))
    have x117 := HI.eqI hI0 (p := 1) (b := 12) (hv115)
    obtain ⟨v118, hv118⟩ : ∃ v, gI g0 1 0 = v := ⟨_, rfl⟩
    have rv118 := RgF.at hI0.2.1 (p := 1) (b := 0) rfl
    rw [hv118] at rv118
    dsimp only at rv118
    have tv118 := congrArg Int32.toInt hv118
    have x119 := HI.eqI hI0 (p := 1) (b := 0) (hv118)
    exact ⟨_, rfl, hI109, hF113, _, rfl, by omega, (by omega)⟩
  · have c107_ : a2.toInt ≥ 0 := en_i_lt_f c107
    refine At.enter rfl ?_
    refine r_iload_n rfl ?_
    refine r_iload_n rfl ?_
    refine r_ics 10 rfl (fun c120 => ?_) (fun c120 => ?_)
    · have c120_ : a2.toInt > 99 := en_i_gt_t c120
      refine At.enter rfl ?_
      refine r_iconst 0 rfl ?_
      refine Ar.fall 15 rfl ?_
      refine At.enter rfl ?_
      refine q_iretz (by decide) ?_
      refine At.enter rfl ?_
      refine r_iff 10 rfl (by decide) ?_
      refine At.enter rfl ?_
      refine r_aload_n rfl ?_
      refine r_iconst (-1) rfl ?_
      refine r_callV 15 rfl [.ref 0, .int (-1)] [] (Nat.le_of_ble_eq_true rfl) rfl (T_X10_refused_0 _ hI0 (-1) (by decide)) ?_
      rintro _ _ ⟨g121, rfl, hI122, hF123, v124, rfl, hr125⟩
      refine At.sti ?_
      have hF126 := Fr.tr hF0 hF123 rfl rfl
      have zv127 : ((-1) : Int32).toInt = (-1) := rfl
      refine At.enter rfl ?_
      refine r_ireti ?_
      obtain ⟨v128, hv128⟩ : ∃ v, gI g0 1 12 = v := ⟨_, rfl⟩
      have rv128 := RgF.at hI0.2.1 (p := 1) (b := 12) rfl
      rw [hv128] at rv128
      dsimp only at rv128
      have tv128 := congrArg Int32.toInt hv128
      have x129 := HI.eqI hI122 (p := 1) (b := 12) (((hF123.1 1 12 (by decide)).trans hv128))
      have x130 := HI.eqI hI0 (p := 1) (b := 12) (hv128)
      obtain ⟨v131, hv131⟩ : ∃ v, gI g0 1 0 = v := ⟨_, rfl⟩
      have rv131 := RgF.at hI0.2.1 (p := 1) (b := 0) rfl
      rw [hv131] at rv131
      dsimp only at rv131
      have tv131 := congrArg Int32.toInt hv131
      have x132 := HI.eqI hI0 (p := 1) (b := 0) (hv131)
      exact ⟨_, rfl, hI122, hF126, _, rfl, by omega, (by omega)⟩
    · have c120_ : a2.toInt ≤ 99 := en_i_gt_f c120
      refine At.enter rfl ?_
      refine r_iconst 1 rfl ?_
      refine r_goto ?_
      refine At.enter rfl ?_
      refine q_iretz (by decide) ?_
      refine At.enter rfl ?_
      refine r_ift (by decide) ?_
      refine At.enter rfl ?_
      refine r_aload_n rfl ?_
      refine q_getR (Sh.ref hI0.1 kx_0 rfl) ?_
      refine r_iload_n rfl ?_
      refine q_inlV 24 rfl [.ref 1, .int a1] [] (Nat.le_of_ble_eq_true rfl) rfl ?_
      refine Ev.mk rfl rfl ⟨Nat.le_of_ble_eq_true rfl, Or.inr (q_rc hI0.1 kx_1 rfl)⟩ ?_
      show At _ none _ _ (0, [(0, .ref 1), (1, .int a1)], [], (_, _)) _
      refine At.enter rfl ?_
      refine r_iload_n rfl ?_
      refine r_ifs 4 rfl (fun c133 => ?_) (fun c133 => ?_)
      · have c133_ : a1.toInt < 0 := en_k_lt_t c133
        refine At.enter rfl ?_
        refine r_iconst 0 rfl ?_
        refine Ar.fall 17 rfl ?_
        refine At.enter rfl ?_
        refine q_iretz (by decide) ?_
        refine At.enter rfl ?_
        refine r_iff 27 rfl (by decide) ?_
        refine At.enter rfl ?_
        refine r_aload_n rfl ?_
        refine r_bipush (-2) rfl ?_
        refine r_callV 33 rfl [.ref 0, .int (-2)] [] (Nat.le_of_ble_eq_true rfl) rfl (T_X10_refused_0 _ hI0 (-2) (by decide)) ?_
        rintro _ _ ⟨g134, rfl, hI135, hF136, v137, rfl, hr138⟩
        refine At.sti ?_
        have hF139 := Fr.tr hF0 hF136 rfl rfl
        have zv140 : ((-2) : Int32).toInt = (-2) := rfl
        refine At.enter rfl ?_
        refine r_ireti ?_
        obtain ⟨v141, hv141⟩ : ∃ v, gI g0 1 12 = v := ⟨_, rfl⟩
        have rv141 := RgF.at hI0.2.1 (p := 1) (b := 12) rfl
        rw [hv141] at rv141
        dsimp only at rv141
        have tv141 := congrArg Int32.toInt hv141
        have x142 := HI.eqI hI135 (p := 1) (b := 12) (((hF136.1 1 12 (by decide)).trans hv141))
        have x143 := HI.eqI hI0 (p := 1) (b := 12) (hv141)
        obtain ⟨v144, hv144⟩ : ∃ v, gI g0 1 0 = v := ⟨_, rfl⟩
        have rv144 := RgF.at hI0.2.1 (p := 1) (b := 0) rfl
        rw [hv144] at rv144
        dsimp only at rv144
        have tv144 := congrArg Int32.toInt hv144
        have x145 := HI.eqI hI0 (p := 1) (b := 0) (hv144)
        exact ⟨_, rfl, hI135, hF139, _, rfl, by omega, (by omega)⟩
      · have c133_ : a1.toInt ≥ 0 := en_k_lt_f c133
        refine At.enter rfl ?_
        refine r_iload_n rfl ?_
        refine r_aload_n rfl ?_
        obtain ⟨v146, hv146⟩ : ∃ v, gI g0 1 0 = v := ⟨_, rfl⟩
        have rv146 := RgF.at hI0.2.1 (p := 1) (b := 0) rfl
        rw [hv146] at rv146
        dsimp only at rv146
        refine q_getI (Sh.int hI0.1 kx_1 rfl) v146 hv146 ?_
        have bv148 := q_bnd a1
        have bv149 := q_bnd v146
        refine r_ics 12 rfl (fun c147 => ?_) (fun c147 => ?_)
        · have c147_ : a1.toInt ≥ v146.toInt := en_i_ge_t c147
          refine At.enter rfl ?_
          refine r_iconst 0 rfl ?_
          refine Ar.fall 17 rfl ?_
          refine At.enter rfl ?_
          refine q_iretz (by decide) ?_
          refine At.enter rfl ?_
          refine r_iff 27 rfl (by decide) ?_
          refine At.enter rfl ?_
          refine r_aload_n rfl ?_
          refine r_bipush (-2) rfl ?_
          refine r_callV 33 rfl [.ref 0, .int (-2)] [] (Nat.le_of_ble_eq_true rfl) rfl (T_X10_refused_0 _ hI0 (-2) (by decide)) ?_
          rintro _ _ ⟨g150, rfl, hI151, hF152, v153, rfl, hr154⟩
          refine At.sti ?_
          have hF155 := Fr.tr hF0 hF152 rfl rfl
          have zv156 : ((-2) : Int32).toInt = (-2) := rfl
          refine At.enter rfl ?_
          refine r_ireti ?_
          obtain ⟨v157, hv157⟩ : ∃ v, gI g0 1 12 = v := ⟨_, rfl⟩
          have rv157 := RgF.at hI0.2.1 (p := 1) (b := 12) rfl
          rw [hv157] at rv157
          dsimp only at rv157
          have tv157 := congrArg Int32.toInt hv157
          have x158 := HI.eqI hI151 (p := 1) (b := 12) (((hF152.1 1 12 (by decide)).trans hv157))
          have x159 := HI.eqI hI0 (p := 1) (b := 12) (hv157)
          have x160 := HI.eqI hI0 (p := 1) (b := 0) (hv146)
          exact ⟨_, rfl, hI151, hF155, _, rfl, by omega, (by omega)⟩
        · have c147_ : a1.toInt < v146.toInt := en_i_ge_f c147
          refine At.enter rfl ?_
          refine r_iconst 1 rfl ?_
          refine r_goto ?_
          refine At.enter rfl ?_
          refine q_iretz (by decide) ?_
          refine At.enter rfl ?_
          refine r_ift (by decide) ?_
          refine At.enter rfl ?_
          refine r_aload_n rfl ?_
          refine q_getR (Sh.ref hI0.1 kx_0 rfl) ?_
          obtain ⟨v161, hv161⟩ : ∃ v, gI g0 1 12 = v := ⟨_, rfl⟩
          have rv161 := RgF.at hI0.2.1 (p := 1) (b := 12) rfl
          rw [hv161] at rv161
          dsimp only at rv161
          refine q_getI (Sh.int hI0.1 kx_1 rfl) v161 hv161 ?_
          refine r_bipush 8 rfl ?_
          refine r_ics 46 rfl (fun c162 => ?_) (fun c162 => ?_)
          · have c162_ : v161.toInt < 8 := en_i_lt_t c162
            refine At.enter rfl ?_
            refine r_aload_n rfl ?_
            refine q_getR (Sh.ref hI0.1 kx_0 rfl) ?_
            refine q_getR (Sh.ref hI0.1 kx_1 rfl) ?_
            refine r_aload_n rfl ?_
            refine q_getR (Sh.ref hI0.1 kx_0 rfl) ?_
            refine q_getI (Sh.int hI0.1 kx_1 rfl) v161 hv161 ?_
            refine r_iload_n rfl ?_
            refine q_iast (Sh.arr hI0.1 ka_14) (v161.toInt) rfl (by omega) ?_
            have hI163 := HI.wA0 hI0 ka_14 (p := 14) rfl rfl (v161.toInt) (a1)
            have hF164 := Fr.wA (p := 14) (j := v161.toInt) (v := a1) hF0 rfl
            refine r_aload_n rfl ?_
            refine q_getR (Sh.ref hI163.1 kx_0 rfl) ?_
            refine q_getR (Sh.ref hI163.1 kx_1 rfl) ?_
            refine r_aload_n rfl ?_
            refine q_getR (Sh.ref hI163.1 kx_0 rfl) ?_
            refine q_getI (Sh.int hI163.1 kx_1 rfl) v161 ((gI_sW).trans hv161) ?_
            refine r_iload_n rfl ?_
            refine q_iast (Sh.arr hI163.1 ka_15) (v161.toInt) rfl (by omega) ?_
            have hI165 := HI.wA0 hI163 ka_15 (p := 15) rfl rfl (v161.toInt) (a2)
            have hF166 := Fr.wA (p := 15) (j := v161.toInt) (v := a2) hF164 rfl
            refine r_aload_n rfl ?_
            refine q_getR (Sh.ref hI165.1 kx_0 rfl) ?_
            refine r_dup rfl ?_
            refine q_getI (Sh.int hI165.1 kx_1 rfl) v161 (((gI_sW).trans (gI_sW)).trans hv161) ?_
            refine r_iconst 1 rfl ?_
            refine q_iadd (v161.toInt + 1) rfl (by omega) (fun v167 hv167 => ?_)
            refine q_putI (Sh.int hI165.1 kx_1 rfl) rfl ?_
            have hI168 := HI.wI1 hI165 kx_1 rfl (p := 1) (b := 12) (v := v167) rfl (by dsimp only; omega)
            have hF169 := Fr.wI (p := 1) (b := 12) (v := v167) hF166 rfl
            refine r_aload_n rfl ?_
            refine r_aload_n rfl ?_
            refine q_getR (Sh.ref hI168.1 kx_0 rfl) ?_
            refine q_getI (Sh.int hI168.1 kx_1 rfl) v167 (gI_sI_eq hI165.1 kx_1 rfl _) ?_
            refine q_inlV 109 rfl [.ref 0, .int v167] [] (Nat.le_of_ble_eq_true rfl) rfl ?_
            refine Ev.mk rfl rfl ⟨Nat.le_of_ble_eq_true rfl, Or.inr (q_rc hI168.1 kx_0 rfl)⟩ ?_
            show At _ none _ _ (0, [(0, .ref 0), (1, .int v167)], [], (_, _)) _
            refine At.enter rfl ?_
            refine r_aload_n rfl ?_
            refine r_iconst 0 rfl ?_
            refine q_putI (Sh.int hI168.1 kx_0 rfl) rfl ?_
            have hI170 := HI.wI0 hI168 kx_0 rfl (p := 0) (b := 17) (v := 0) rfl
            have hF171 := Fr.wI (p := 0) (b := 17) (v := 0) hF169 rfl
            refine r_iload_n rfl ?_
            refine q_ireti ?_
            refine At.enter rfl ?_
            refine r_ireti ?_
            have x172 := HI.eqI hI170 (p := 1) (b := 12) (((gI_sI_ne (by decide)).trans (gI_sI_eq hI165.1 kx_1 rfl _)))
            have x173 := HI.eqI hI0 (p := 1) (b := 12) (hv161)
            have x174 := HI.eqI hI0 (p := 1) (b := 0) (hv146)
            exact ⟨_, rfl, hI170, hF171, _, rfl, by omega, (by omega)⟩
          · have c162_ : v161.toInt ≥ 8 := en_i_lt_f c162
            refine At.enter rfl ?_
            refine r_aload_n rfl ?_
            refine r_bipush (-5) rfl ?_
            refine r_callV 52 rfl [.ref 0, .int (-5)] [] (Nat.le_of_ble_eq_true rfl) rfl (T_X10_refused_0 _ hI0 (-5) (by decide)) ?_
            rintro _ _ ⟨g175, rfl, hI176, hF177, v178, rfl, hr179⟩
            refine At.sti ?_
            have hF180 := Fr.tr hF0 hF177 rfl rfl
            have zv181 : ((-5) : Int32).toInt = (-5) := rfl
            refine At.enter rfl ?_
            refine r_ireti ?_
            have x182 := HI.eqI hI176 (p := 1) (b := 12) (((hF177.1 1 12 (by decide)).trans hv161))
            have x183 := HI.eqI hI0 (p := 1) (b := 12) (hv161)
            have x184 := HI.eqI hI0 (p := 1) (b := 0) (hv146)
            exact ⟨_, rfl, hI176, hF180, _, rfl, by omega, (by omega)⟩

def F_X10_clear_0 : List (Nat × Nat) := [(1, 12)]
def A_X10_clear_0 : List Nat := []
set_option maxRecDepth 100000 in
set_option maxHeartbeats 4000000 in
theorem T_X10_clear_0 (d : Nat) {N : Nat} {g0 : List en_E} (hI0 : HI g0) : Ev (d + 1) 135 [.ref 0] (g0, N) (fun w h' => ∃ g', h' = (g', N) ∧ HI g' ∧ Fr F_X10_clear_0 A_X10_clear_0 g0 g' ∧ ∃ r : Int32, w = some (.int r) ∧ (0 ≤ r.toInt ∧ r.toInt ≤ 8) ∧ (r.toInt = (gI g0 1 12).toInt ∧ (gI g' 1 12).toInt = 0)) := by
  have hF0 : Fr F_X10_clear_0 A_X10_clear_0 g0 g0 := Fr.rf
  refine Ev.mk rfl rfl ⟨Nat.le_of_ble_eq_true rfl, Or.inr (q_rc hI0.1 kx_0 rfl)⟩ ?_
  show At _ none _ _ (0, [(0, .ref 0)], [], (_, _)) _
  refine At.enter rfl ?_
  refine r_aload_n rfl ?_
  refine q_getR (Sh.ref hI0.1 kx_0 rfl) ?_
  obtain ⟨v7, hv7⟩ : ∃ v, gI g0 1 12 = v := ⟨_, rfl⟩
  have rv7 := RgF.at hI0.2.1 (p := 1) (b := 12) rfl
  rw [hv7] at rv7
  dsimp only at rv7
  refine q_getI (Sh.int hI0.1 kx_1 rfl) v7 hv7 ?_
  refine r_istore_n ([(1, .int v7), (0, .ref 0)]) rfl ?_
  refine r_aload_n rfl ?_
  refine q_getR (Sh.ref hI0.1 kx_0 rfl) ?_
  refine r_iconst 0 rfl ?_
  refine q_putI (Sh.int hI0.1 kx_1 rfl) rfl ?_
  have hI8 := HI.wI1 hI0 kx_1 rfl (p := 1) (b := 12) (v := 0) rfl (by decide)
  have hF9 := Fr.wI (p := 1) (b := 12) (v := 0) hF0 rfl
  refine r_iload_n rfl ?_
  refine r_ireti ?_
  have x10 := HI.eqI hI8 (p := 1) (b := 12) ((gI_sI_eq hI0.1 kx_1 rfl _))
  have zv11 : (0 : Int32).toInt = 0 := rfl
  have x12 := HI.eqI hI0 (p := 1) (b := 12) (hv7)
  exact ⟨_, rfl, hI8, hF9, _, rfl, by omega, (by omega)⟩

def F_X10_thieves_0 : List (Nat × Nat) := []
def A_X10_thieves_0 : List Nat := []
set_option maxRecDepth 100000 in
set_option maxHeartbeats 4000000 in
theorem T_X10_thieves_0 (d : Nat) {N : Nat} {g0 : List en_E} (hI0 : HI g0) : Ev (d + 6) 136 [.ref 0] (g0, N) (fun w h' => ∃ g', h' = (g', N) ∧ HI g' ∧ Fr F_X10_thieves_0 A_X10_thieves_0 g0 g' ∧ ∃ r : Int32, w = some (.int r) ∧ True) := by
  have hF0 : Fr F_X10_thieves_0 A_X10_thieves_0 g0 g0 := Fr.rf
  refine Ev.mk rfl rfl ⟨Nat.le_of_ble_eq_true rfl, Or.inr (q_rc hI0.1 kx_0 rfl)⟩ ?_
  show At _ none _ _ (0, [(0, .ref 0)], [], (_, _)) _
  refine At.enter rfl ?_
  refine r_aload_n rfl ?_
  refine q_getR (Sh.ref hI0.1 kx_0 rfl) ?_
  refine r_callV 7 rfl [.ref 184] [] (Nat.le_of_ble_eq_true rfl) rfl (T_X9_suspects_184 _ hI0) ?_
  rintro _ _ ⟨g13, rfl, hI14, hF15, v16, rfl, hr17⟩
  refine At.sti ?_
  have hF18 := Fr.tr hF0 hF15 rfl rfl
  refine At.enter rfl ?_
  refine r_ireti ?_
  exact ⟨_, rfl, hI14, hF18, _, rfl, trivial⟩

def F_X10_meet_0 : List (Nat × Nat) := []
def A_X10_meet_0 : List Nat := []
set_option maxRecDepth 100000 in
set_option maxHeartbeats 4000000 in
theorem T_X10_meet_0 (d : Nat) {N : Nat} {g0 : List en_E} (hI0 : HI g0) (a1 : Int32) (a2 : Int32) (a3 : Int32) : Ev (d + 4) 137 [.ref 0, .int a1, .int a2, .int a3] (g0, N) (fun w h' => ∃ g', h' = (g', N) ∧ HI g' ∧ Fr F_X10_meet_0 A_X10_meet_0 g0 g' ∧ ∃ r : Int32, w = some (.int r) ∧ True) := by
  have hF0 : Fr F_X10_meet_0 A_X10_meet_0 g0 g0 := Fr.rf
  refine Ev.mk rfl rfl ⟨Nat.le_of_ble_eq_true rfl, Or.inr (q_rc hI0.1 kx_0 rfl)⟩ ?_
  show At _ none _ _ (0, [(0, .ref 0), (1, .int a1), (2, .int a2), (3, .int a3)], [], (_, _)) _
  refine At.enter rfl ?_
  refine r_aload_n rfl ?_
  refine q_getR (Sh.ref hI0.1 kx_0 rfl) ?_
  refine r_iload_n rfl ?_
  refine q_inlV 8 rfl [.ref 1, .int a1] [] (Nat.le_of_ble_eq_true rfl) rfl ?_
  refine Ev.mk rfl rfl ⟨Nat.le_of_ble_eq_true rfl, Or.inr (q_rc hI0.1 kx_1 rfl)⟩ ?_
  show At _ none _ _ (0, [(0, .ref 1), (1, .int a1)], [], (_, _)) _
  refine At.enter rfl ?_
  refine r_iload_n rfl ?_
  refine r_ifs 4 rfl (fun c33 => ?_) (fun c33 => ?_)
  · have c33_ : a1.toInt < 0 := en_k_lt_t c33
    refine At.enter rfl ?_
    refine r_iconst 0 rfl ?_
    refine Ar.fall 17 rfl ?_
    refine At.enter rfl ?_
    refine q_iretz (by decide) ?_
    refine At.enter rfl ?_
    refine r_ift (by decide) ?_
    refine At.enter rfl ?_
    refine r_iconst (-1) rfl ?_
    refine r_ireti ?_
    exact ⟨_, rfl, hI0, hF0, _, rfl, trivial⟩
  · have c33_ : a1.toInt ≥ 0 := en_k_lt_f c33
    refine At.enter rfl ?_
    refine r_iload_n rfl ?_
    refine r_aload_n rfl ?_
    obtain ⟨v34, hv34⟩ : ∃ v, gI g0 1 0 = v := ⟨_, rfl⟩
    have rv34 := RgF.at hI0.2.1 (p := 1) (b := 0) rfl
    rw [hv34] at rv34
    dsimp only at rv34
    refine q_getI (Sh.int hI0.1 kx_1 rfl) v34 hv34 ?_
    have bv36 := q_bnd a1
    have bv37 := q_bnd v34
    refine r_ics 12 rfl (fun c35 => ?_) (fun c35 => ?_)
    · have c35_ : a1.toInt ≥ v34.toInt := en_i_ge_t c35
      refine At.enter rfl ?_
      refine r_iconst 0 rfl ?_
      refine Ar.fall 17 rfl ?_
      refine At.enter rfl ?_
      refine q_iretz (by decide) ?_
      refine At.enter rfl ?_
      refine r_ift (by decide) ?_
      refine At.enter rfl ?_
      refine r_iconst (-1) rfl ?_
      refine r_ireti ?_
      exact ⟨_, rfl, hI0, hF0, _, rfl, trivial⟩
    · have c35_ : a1.toInt < v34.toInt := en_i_ge_f c35
      refine At.enter rfl ?_
      refine r_iconst 1 rfl ?_
      refine r_goto ?_
      refine At.enter rfl ?_
      refine q_iretz (by decide) ?_
      refine At.enter rfl ?_
      refine r_iff 11 rfl (by decide) ?_
      refine At.enter rfl ?_
      refine r_aload_n rfl ?_
      refine q_getR (Sh.ref hI0.1 kx_0 rfl) ?_
      refine r_iload_n rfl ?_
      refine q_inlV 19 rfl [.ref 1, .int a2] [] (Nat.le_of_ble_eq_true rfl) rfl ?_
      refine Ev.mk rfl rfl ⟨Nat.le_of_ble_eq_true rfl, Or.inr (q_rc hI0.1 kx_1 rfl)⟩ ?_
      show At _ none _ _ (0, [(0, .ref 1), (1, .int a2)], [], (_, _)) _
      refine At.enter rfl ?_
      refine r_iload_n rfl ?_
      refine r_ifs 4 rfl (fun c38 => ?_) (fun c38 => ?_)
      · have c38_ : a2.toInt < 0 := en_k_lt_t c38
        refine At.enter rfl ?_
        refine r_iconst 0 rfl ?_
        refine Ar.fall 17 rfl ?_
        refine At.enter rfl ?_
        refine q_iretz (by decide) ?_
        refine At.enter rfl ?_
        refine r_ift (by decide) ?_
        refine At.enter rfl ?_
        refine r_iconst (-1) rfl ?_
        refine r_ireti ?_
        exact ⟨_, rfl, hI0, hF0, _, rfl, trivial⟩
      · have c38_ : a2.toInt ≥ 0 := en_k_lt_f c38
        refine At.enter rfl ?_
        refine r_iload_n rfl ?_
        refine r_aload_n rfl ?_
        refine q_getI (Sh.int hI0.1 kx_1 rfl) v34 hv34 ?_
        have bv40 := q_bnd a2
        refine r_ics 12 rfl (fun c39 => ?_) (fun c39 => ?_)
        · have c39_ : a2.toInt ≥ v34.toInt := en_i_ge_t c39
          refine At.enter rfl ?_
          refine r_iconst 0 rfl ?_
          refine Ar.fall 17 rfl ?_
          refine At.enter rfl ?_
          refine q_iretz (by decide) ?_
          refine At.enter rfl ?_
          refine r_ift (by decide) ?_
          refine At.enter rfl ?_
          refine r_iconst (-1) rfl ?_
          refine r_ireti ?_
          exact ⟨_, rfl, hI0, hF0, _, rfl, trivial⟩
        · have c39_ : a2.toInt < v34.toInt := en_i_ge_f c39
          refine At.enter rfl ?_
          refine r_iconst 1 rfl ?_
          refine r_goto ?_
          refine At.enter rfl ?_
          refine q_iretz (by decide) ?_
          refine At.enter rfl ?_
          refine r_iff 22 rfl (by decide) ?_
          refine At.enter rfl ?_
          refine r_iload_n rfl ?_
          refine r_iconst 0 rfl ?_
          refine r_iconst 1 rfl ?_
          refine q_inlS 28 rfl [.int a3, .int 0, .int 1] [] (Nat.le_of_ble_eq_true rfl) rfl ?_
          refine Ev.mk rfl rfl ⟨Nat.le_of_ble_eq_true rfl, Or.inl rfl⟩ ?_
          show At _ none _ _ (0, [(0, .int a3), (1, .int 0), (2, .int 1)], [], (_, _)) _
          refine At.enter rfl ?_
          refine r_iload_n rfl ?_
          refine r_iload_n rfl ?_
          refine r_ics 5 rfl (fun c41 => ?_) (fun c41 => ?_)
          · have c41_ : a3.toInt < 0 := en_i_lt_t c41
            refine At.enter rfl ?_
            refine r_iconst 0 rfl ?_
            refine Ar.fall 15 rfl ?_
            refine At.enter rfl ?_
            refine q_iretz (by decide) ?_
            refine At.enter rfl ?_
            refine r_iff 31 rfl (by decide) ?_
            refine At.enter rfl ?_
            refine r_iconst (-1) rfl ?_
            refine r_ireti ?_
            exact ⟨_, rfl, hI0, hF0, _, rfl, trivial⟩
          · have c41_ : a3.toInt ≥ 0 := en_i_lt_f c41
            refine At.enter rfl ?_
            refine r_iload_n rfl ?_
            refine r_iload_n rfl ?_
            refine r_ics 10 rfl (fun c42 => ?_) (fun c42 => ?_)
            · have c42_ : a3.toInt > 1 := en_i_gt_t c42
              refine At.enter rfl ?_
              refine r_iconst 0 rfl ?_
              refine Ar.fall 15 rfl ?_
              refine At.enter rfl ?_
              refine q_iretz (by decide) ?_
              refine At.enter rfl ?_
              refine r_iff 31 rfl (by decide) ?_
              refine At.enter rfl ?_
              refine r_iconst (-1) rfl ?_
              refine r_ireti ?_
              exact ⟨_, rfl, hI0, hF0, _, rfl, trivial⟩
            · have c42_ : a3.toInt ≤ 1 := en_i_gt_f c42
              refine At.enter rfl ?_
              refine r_iconst 1 rfl ?_
              refine r_goto ?_
              refine At.enter rfl ?_
              refine q_iretz (by decide) ?_
              refine At.enter rfl ?_
              refine r_ift (by decide) ?_
              refine At.enter rfl ?_
              refine r_aload_n rfl ?_
              refine q_getR (Sh.ref hI0.1 kx_0 rfl) ?_
              refine r_iload_n rfl ?_
              refine r_iload_n rfl ?_
              refine r_iload_n rfl ?_
              refine r_callV 43 rfl [.ref 184, .int a1, .int a2, .int a3] [] (Nat.le_of_ble_eq_true rfl) rfl (T_X9_meeting_184 _ hI0 a1 a2 a3) ?_
              rintro _ _ ⟨g43, rfl, hI44, hF45, v46, rfl, hr47⟩
              refine At.sti ?_
              have hF48 := Fr.tr hF0 hF45 rfl rfl
              refine At.enter rfl ?_
              refine r_ireti ?_
              exact ⟨_, rfl, hI44, hF48, _, rfl, trivial⟩

def F_X10_draw_0 : List (Nat × Nat) := [(0, 15), (0, 17), (185, 3), (204, 16), (204, 18)]
def A_X10_draw_0 : List Nat := [205, 206, 207, 208, 209, 210, 211, 212, 213, 214, 215, 216, 218, 219, 228, 229, 230]
set_option maxRecDepth 100000 in
set_option maxHeartbeats 4000000 in
theorem T_X10_draw_0 (d : Nat) {N : Nat} {g0 : List en_E} (hI0 : HI g0) (a1 : Int32) : Ev (d + 6) 138 [.ref 0, .int a1] (g0, N) (fun w h' => ∃ g', h' = (g', N) ∧ HI g' ∧ Fr F_X10_draw_0 A_X10_draw_0 g0 g' ∧ ∃ r : Int32, w = some (.int r) ∧ True) := by
  have hF0 : Fr F_X10_draw_0 A_X10_draw_0 g0 g0 := Fr.rf
  refine Ev.mk rfl rfl ⟨Nat.le_of_ble_eq_true rfl, Or.inr (q_rc hI0.1 kx_0 rfl)⟩ ?_
  show At _ none _ _ (0, [(0, .ref 0), (1, .int a1)], [], (_, _)) _
  refine At.enter rfl ?_
  refine r_iload_n rfl ?_
  refine r_iconst 0 rfl ?_
  refine r_ldcw 1000000 rfl ?_
  refine q_inlS 8 rfl [.int a1, .int 0, .int 1000000] [] (Nat.le_of_ble_eq_true rfl) rfl ?_
  refine Ev.mk rfl rfl ⟨Nat.le_of_ble_eq_true rfl, Or.inl rfl⟩ ?_
  show At _ none _ _ (0, [(0, .int a1), (1, .int 0), (2, .int 1000000)], [], (_, _)) _
  refine At.enter rfl ?_
  refine r_iload_n rfl ?_
  refine r_iload_n rfl ?_
  refine r_ics 5 rfl (fun c7925 => ?_) (fun c7925 => ?_)
  · have c7925_ : a1.toInt < 0 := en_i_lt_t c7925
    refine At.enter rfl ?_
    refine r_iconst 0 rfl ?_
    refine Ar.fall 15 rfl ?_
    refine At.enter rfl ?_
    refine q_iretz (by decide) ?_
    refine At.enter rfl ?_
    refine r_iff 11 rfl (by decide) ?_
    refine At.enter rfl ?_
    refine r_aload_n rfl ?_
    refine r_iconst (-1) rfl ?_
    refine r_callV 16 rfl [.ref 0, .int (-1)] [] (Nat.le_of_ble_eq_true rfl) rfl (T_X10_refused_0 _ hI0 (-1) (by decide)) ?_
    rintro _ _ ⟨g7926, rfl, hI7927, hF7928, v7929, rfl, hr7930⟩
    refine At.sti ?_
    have hF7931 := Fr.tr hF0 hF7928 rfl rfl
    have zv7932 : ((-1) : Int32).toInt = (-1) := rfl
    refine At.enter rfl ?_
    refine r_ireti ?_
    exact ⟨_, rfl, hI7927, hF7931, _, rfl, trivial⟩
  · have c7925_ : a1.toInt ≥ 0 := en_i_lt_f c7925
    refine At.enter rfl ?_
    refine r_iload_n rfl ?_
    refine r_iload_n rfl ?_
    refine r_ics 10 rfl (fun c7933 => ?_) (fun c7933 => ?_)
    · have c7933_ : a1.toInt > 1000000 := en_i_gt_t c7933
      refine At.enter rfl ?_
      refine r_iconst 0 rfl ?_
      refine Ar.fall 15 rfl ?_
      refine At.enter rfl ?_
      refine q_iretz (by decide) ?_
      refine At.enter rfl ?_
      refine r_iff 11 rfl (by decide) ?_
      refine At.enter rfl ?_
      refine r_aload_n rfl ?_
      refine r_iconst (-1) rfl ?_
      refine r_callV 16 rfl [.ref 0, .int (-1)] [] (Nat.le_of_ble_eq_true rfl) rfl (T_X10_refused_0 _ hI0 (-1) (by decide)) ?_
      rintro _ _ ⟨g7934, rfl, hI7935, hF7936, v7937, rfl, hr7938⟩
      refine At.sti ?_
      have hF7939 := Fr.tr hF0 hF7936 rfl rfl
      have zv7940 : ((-1) : Int32).toInt = (-1) := rfl
      refine At.enter rfl ?_
      refine r_ireti ?_
      exact ⟨_, rfl, hI7935, hF7939, _, rfl, trivial⟩
    · have c7933_ : a1.toInt ≤ 1000000 := en_i_gt_f c7933
      refine At.enter rfl ?_
      refine r_iconst 1 rfl ?_
      refine r_goto ?_
      refine At.enter rfl ?_
      refine q_iretz (by decide) ?_
      refine At.enter rfl ?_
      refine r_ift (by decide) ?_
      refine At.enter rfl ?_
      refine r_aload_n rfl ?_
      refine q_getR (Sh.ref hI0.1 kx_0 rfl) ?_
      refine r_iconst 0 rfl ?_
      refine r_callV 25 rfl [.ref 204, .int 0] [] (Nat.le_of_ble_eq_true rfl) rfl (T_X1_layOut_204 _ hI0 0) ?_
      rintro _ _ ⟨g7941, rfl, hI7942, hF7943, rfl⟩
      refine At.stn ?_
      have hF7946 := Fr.tr hF0 hF7943 rfl rfl
      refine At.enter rfl ?_
      refine r_iload_n rfl ?_
      refine r_istore_n ([(2, .int a1), (0, .ref 0), (1, .int a1)]) rfl ?_
      refine r_iconst 0 rfl ?_
      refine r_istore_n ([(3, .int 0), (2, .int a1), (0, .ref 0), (1, .int a1)]) rfl ?_
      refine Ar.fall 29 rfl ?_
      have z_11362 : (0 : Int32).toInt = 0 := rfl
      refine w_loopI (fun n_ l_ g_ => ∃ x11349 : Int32, ∃ x11350 : Int32, n_ = 8 - x11350.toInt ∧ HI g_ ∧ Fr F_X10_draw_0 A_X10_draw_0 g0 g_ ∧ en_get 0 l_ = some (.ref 0) ∧ en_get 1 l_ = some (.int a1) ∧ en_get 2 l_ = some (.int x11349) ∧ en_get 3 l_ = some (.int x11350) ∧ (0 ≤ x11350.toInt ∧ x11350.toInt ≤ 8)) ?_ (8 - 0) ⟨a1, 0, by first | rfl | omega, hI7942, hF7946, rfl, rfl, rfl, rfl, by decide⟩
      rintro n11355 l11354 g11351 ⟨x11349, x11350, hm11363, hI11352, hF11353, e11357, e11358, e11359, e11360, r11361⟩ ih11356
      refine At.enter rfl ?_
      refine r_iload_n e11360 ?_
      refine r_aload_n e11357 ?_
      refine q_getR (Sh.ref hI11352.1 kx_0 rfl) ?_
      obtain ⟨v11364, hv11364⟩ : ∃ v, gI g0 1 4 = v := ⟨_, rfl⟩
      have rv11364 := RgF.at hI0.2.1 (p := 1) (b := 4) rfl
      rw [hv11364] at rv11364
      dsimp only at rv11364
      refine q_getI (Sh.int hI11352.1 kx_1 rfl) v11364 ((hF11353.1 1 4 (by decide)).trans hv11364) ?_
      have bv11366 := q_bnd x11350
      have bv11367 := q_bnd v11364
      refine r_ics 40 rfl (fun c11365 => ?_) (fun c11365 => ?_)
      · have c11365_ : x11350.toInt ≥ v11364.toInt := en_i_ge_t c11365
        refine At.enter rfl ?_
        refine r_iconst 0 rfl ?_
        refine r_istore_n _ rfl ?_
        refine Ar.fall 66 rfl ?_
        have z_11795 : (0 : Int32).toInt = 0 := rfl
        refine w_loopI (fun n_ l_ g_ => ∃ x11782 : Int32, ∃ x11783 : Int32, n_ = 12 - x11783.toInt ∧ HI g_ ∧ Fr F_X10_draw_0 A_X10_draw_0 g0 g_ ∧ en_get 0 l_ = some (.ref 0) ∧ en_get 1 l_ = some (.int a1) ∧ en_get 2 l_ = some (.int x11782) ∧ en_get 3 l_ = some (.int x11783) ∧ (0 ≤ x11783.toInt ∧ x11783.toInt ≤ 12)) ?_ (12 - 0) ⟨x11349, 0, by first | rfl | omega, hI11352, hF11353, (w_p1 (by decide) (Or.inr rfl) e11357), (w_p1 (by decide) (Or.inr rfl) e11358), (w_p1 (by decide) (Or.inr rfl) e11359), (w_e1 _ _ _), by decide⟩
        rintro n11788 l11787 g11784 ⟨x11782, x11783, hm11796, hI11785, hF11786, e11790, e11791, e11792, e11793, r11794⟩ ih11789
        refine At.enter rfl ?_
        refine r_iload_n e11793 ?_
        refine r_aload_n e11790 ?_
        refine q_getR (Sh.ref hI11785.1 kx_0 rfl) ?_
        obtain ⟨v11797, hv11797⟩ : ∃ v, gI g0 1 0 = v := ⟨_, rfl⟩
        have rv11797 := RgF.at hI0.2.1 (p := 1) (b := 0) rfl
        rw [hv11797] at rv11797
        dsimp only at rv11797
        refine q_getI (Sh.int hI11785.1 kx_1 rfl) v11797 ((hF11786.1 1 0 (by decide)).trans hv11797) ?_
        have bv11799 := q_bnd x11783
        have bv11800 := q_bnd v11797
        refine r_ics 77 rfl (fun c11798 => ?_) (fun c11798 => ?_)
        · have c11798_ : x11783.toInt ≥ v11797.toInt := en_i_ge_t c11798
          refine At.enter rfl ?_
          refine r_aload_n e11790 ?_
          refine q_getR (Sh.ref hI11785.1 kx_0 rfl) ?_
          refine r_callV 125 rfl [.ref 204] [] (Nat.le_of_ble_eq_true rfl) rfl (T_X1_runWhole_204 _ hI11785) ?_
          rintro _ _ ⟨g11801, rfl, hI11802, hF11803, rfl⟩
          refine At.stn ?_
          have hF11806 := Fr.tr hF11786 hF11803 rfl rfl
          refine At.enter rfl ?_
          refine r_aload_n e11790 ?_
          refine r_aload_n e11790 ?_
          refine q_getR (Sh.ref hI11802.1 kx_0 rfl) ?_
          refine q_getI (Sh.int hI11802.1 kx_1 rfl) v11364 (((hF11803.1 1 4 (by decide)).trans (hF11786.1 1 4 (by decide))).trans hv11364) ?_
          refine q_putI (Sh.int hI11802.1 kx_0 rfl) rfl ?_
          have hI11807 := HI.wI1 hI11802 kx_0 rfl (p := 0) (b := 15) (v := v11364) rfl (by dsimp only; omega)
          have hF11808 := Fr.wI (p := 0) (b := 15) (v := v11364) hF11806 rfl
          refine r_aload_n e11790 ?_
          refine q_getR (Sh.ref hI11807.1 kx_0 rfl) ?_
          refine q_getR (Sh.ref hI11807.1 kx_204 rfl) ?_
          refine r_iconst 0 rfl ?_
          refine r_aload_n e11790 ?_
          refine q_getR (Sh.ref hI11807.1 kx_0 rfl) ?_
          refine r_iconst 0 rfl ?_
          refine r_bipush 8 rfl ?_
          have zv11809 : (0 : Int32).toInt = 0 := rfl
          have zv11810 : (0 : Int32).toInt = 0 := rfl
          have zv11811 : (8 : Int32).toInt = 8 := rfl
          refine q_cpy rfl (Nat.le_of_ble_eq_true rfl) (Sh.arr hI11807.1 ka_212) (Sh.arr hI11807.1 ka_228) ⟨by omega, by omega, by omega, by omega, by omega⟩ ?_
          have hI11812 := HI.cpy0 hI11807 ka_212 ka_228 rfl rfl ((0 : Int32).toInt.toNat) ((0 : Int32).toInt.toNat) ((8 : Int32).toInt.toNat) (by omega) (by omega)
          have hF11813 := Fr.cpy (p0 := 212) (p1 := 228) hF11808 rfl ((0 : Int32).toInt.toNat) ((0 : Int32).toInt.toNat) ((8 : Int32).toInt.toNat)
          refine r_aload_n e11790 ?_
          refine q_getR (Sh.ref hI11812.1 kx_0 rfl) ?_
          refine q_getR (Sh.ref hI11812.1 kx_204 rfl) ?_
          refine r_iconst 0 rfl ?_
          refine r_aload_n e11790 ?_
          refine q_getR (Sh.ref hI11812.1 kx_0 rfl) ?_
          refine r_iconst 0 rfl ?_
          refine r_bipush 8 rfl ?_
          have zv11814 : (0 : Int32).toInt = 0 := rfl
          have zv11815 : (0 : Int32).toInt = 0 := rfl
          have zv11816 : (8 : Int32).toInt = 8 := rfl
          refine q_cpy rfl (Nat.le_of_ble_eq_true rfl) (Sh.arr hI11812.1 ka_207) (Sh.arr hI11812.1 ka_229) ⟨by omega, by omega, by omega, by omega, by omega⟩ ?_
          have hI11817 := HI.cpy0 hI11812 ka_207 ka_229 rfl rfl ((0 : Int32).toInt.toNat) ((0 : Int32).toInt.toNat) ((8 : Int32).toInt.toNat) (by omega) (by omega)
          have hF11818 := Fr.cpy (p0 := 207) (p1 := 229) hF11813 rfl ((0 : Int32).toInt.toNat) ((0 : Int32).toInt.toNat) ((8 : Int32).toInt.toNat)
          refine r_aload_n e11790 ?_
          refine r_aload_n e11790 ?_
          refine q_getR (Sh.ref hI11817.1 kx_0 rfl) ?_
          refine r_callV 180 rfl [.ref 204] [.ref 0] (Nat.le_of_ble_eq_true rfl) rfl (T_X1_comeByNoon_204 _ hI11817) ?_
          rintro _ _ ⟨g11819, rfl, hI11820, hF11821, v11822, rfl, hr11823⟩
          refine At.sti ?_
          have hF11824 := Fr.tr hF11818 hF11821 rfl rfl
          refine At.enter rfl ?_
          refine q_inlV 183 rfl [.ref 0, .int v11822] [] (Nat.le_of_ble_eq_true rfl) rfl ?_
          refine Ev.mk rfl rfl ⟨Nat.le_of_ble_eq_true rfl, Or.inr (q_rc hI11820.1 kx_0 rfl)⟩ ?_
          show At _ none _ _ (0, [(0, .ref 0), (1, .int v11822)], [], (_, _)) _
          refine At.enter rfl ?_
          refine r_aload_n rfl ?_
          refine r_iconst 0 rfl ?_
          refine q_putI (Sh.int hI11820.1 kx_0 rfl) rfl ?_
          have hI11825 := HI.wI0 hI11820 kx_0 rfl (p := 0) (b := 17) (v := 0) rfl
          have hF11826 := Fr.wI (p := 0) (b := 17) (v := 0) hF11824 rfl
          refine r_iload_n rfl ?_
          refine q_ireti ?_
          refine At.enter rfl ?_
          refine r_ireti ?_
          exact ⟨_, rfl, hI11825, hF11826, _, rfl, trivial⟩
        · have c11798_ : x11783.toInt < v11797.toInt := en_i_ge_f c11798
          refine At.enter rfl ?_
          refine r_iload_n e11792 ?_
          refine q_inlS 81 rfl [.int x11782] [] (Nat.le_of_ble_eq_true rfl) rfl ?_
          refine Ev.mk rfl rfl ⟨Nat.le_of_ble_eq_true rfl, Or.inl rfl⟩ ?_
          show At _ none _ _ (0, [(0, .int x11782)], [], (_, _)) _
          refine At.enter rfl ?_
          refine r_iload_n rfl ?_
          refine r_sipush 1103 rfl ?_
          refine q_imulO (fun v11827 _ => ?_)
          refine r_sipush 12345 rfl ?_
          refine q_iaddO (fun v11828 _ => ?_)
          refine r_ldcw 1000003 rfl ?_
          refine q_iremO (by decide) (fun v11829 _ => ?_)
          refine q_ireti ?_
          refine At.enter rfl ?_
          refine r_istore_n _ rfl ?_
          refine r_iload_n (w_e1 _ _ _) ?_
          refine r_iconst 3 rfl ?_
          refine q_iremO (by decide) (fun v11830 _ => ?_)
          refine r_ifs 88 rfl (fun c11831 => ?_) (fun c11831 => ?_)
          · have c11831_ : v11830.toInt ≠ 0 := en_k_ne_t c11831
            refine At.enter rfl ?_
            refine q_iinc (w_p1 (by decide) (Or.inr rfl) e11793) (x11783.toInt + 1) rfl (by omega) (fun v11832 hv11832 => ?_)
            refine r_goto ?_
            have bv11833 := q_bnd v11829
            exact ih11789 (12 - v11832.toInt) _ _ ⟨v11829, v11832, by first | rfl | omega, hI11785, hF11786, (w_p1 (by decide) (Or.inr rfl) (w_p1 (by decide) (Or.inr rfl) e11790)), (w_p1 (by decide) (Or.inr rfl) (w_p1 (by decide) (Or.inr rfl) e11791)), (w_p1 (by decide) (Or.inr rfl) (w_e1 _ _ _)), (w_e1 _ _ _), by omega⟩ ⟨by omega, by omega⟩
          · have c11831_ : v11830.toInt = 0 := en_k_ne_f c11831
            refine At.enter rfl ?_
            refine r_aload_n (w_p1 (by decide) (Or.inr rfl) e11790) ?_
            refine q_getR (Sh.ref hI11785.1 kx_0 rfl) ?_
            refine q_getR (Sh.ref hI11785.1 kx_204 rfl) ?_
            refine r_iload_n (w_p1 (by decide) (Or.inr rfl) e11793) ?_
            refine r_iconst 1 rfl ?_
            refine r_aload_n (w_p1 (by decide) (Or.inr rfl) e11790) ?_
            refine q_getR (Sh.ref hI11785.1 kx_0 rfl) ?_
            refine q_getR (Sh.ref hI11785.1 kx_204 rfl) ?_
            refine r_iload_n (w_p1 (by decide) (Or.inr rfl) e11793) ?_
            obtain ⟨v11834, hv11834⟩ : ∃ v, eA g11784 205 x11783.toInt = v := ⟨_, rfl⟩
            refine q_iald (Sh.arr hI11785.1 ka_205) x11783.toInt rfl (by omega) v11834 hv11834 ?_
            refine r_iconst 1 rfl ?_
            refine q_isubO (fun v11835 _ => ?_)
            refine q_mmax rfl (Nat.le_of_ble_eq_true rfl) (fun v11836 hv11836 => ?_)
            have zv11837 : (1 : Int32).toInt = 1 := rfl
            refine q_iast (Sh.arr hI11785.1 ka_205) (x11783.toInt) rfl (by omega) ?_
            have hI11838 := HI.wA0 hI11785 ka_205 (p := 205) rfl rfl (x11783.toInt) (v11836)
            have hF11839 := Fr.wA (p := 205) (j := x11783.toInt) (v := v11836) hF11786 rfl
            refine Ar.fall 112 rfl ?_
            refine At.enter rfl ?_
            refine q_iinc (w_p1 (by decide) (Or.inr rfl) e11793) (x11783.toInt + 1) rfl (by omega) (fun v11840 hv11840 => ?_)
            refine r_goto ?_
            have bv11841 := q_bnd v11829
            exact ih11789 (12 - v11840.toInt) _ _ ⟨v11829, v11840, by first | rfl | omega, hI11838, hF11839, (w_p1 (by decide) (Or.inr rfl) (w_p1 (by decide) (Or.inr rfl) e11790)), (w_p1 (by decide) (Or.inr rfl) (w_p1 (by decide) (Or.inr rfl) e11791)), (w_p1 (by decide) (Or.inr rfl) (w_e1 _ _ _)), (w_e1 _ _ _), by omega⟩ ⟨by omega, by omega⟩
      · have c11365_ : x11350.toInt < v11364.toInt := en_i_ge_f c11365
        refine At.enter rfl ?_
        refine r_iload_n e11359 ?_
        refine q_inlS 44 rfl [.int x11349] [] (Nat.le_of_ble_eq_true rfl) rfl ?_
        refine Ev.mk rfl rfl ⟨Nat.le_of_ble_eq_true rfl, Or.inl rfl⟩ ?_
        show At _ none _ _ (0, [(0, .int x11349)], [], (_, _)) _
        refine At.enter rfl ?_
        refine r_iload_n rfl ?_
        refine r_sipush 1103 rfl ?_
        refine q_imulO (fun v11842 _ => ?_)
        refine r_sipush 12345 rfl ?_
        refine q_iaddO (fun v11843 _ => ?_)
        refine r_ldcw 1000003 rfl ?_
        refine q_iremO (by decide) (fun v11844 _ => ?_)
        refine q_ireti ?_
        refine At.enter rfl ?_
        refine r_istore_n _ rfl ?_
        refine r_aload_n (w_p1 (by decide) (Or.inr rfl) e11357) ?_
        refine q_getR (Sh.ref hI11352.1 kx_0 rfl) ?_
        refine q_getR (Sh.ref hI11352.1 kx_204 rfl) ?_
        refine r_iload_n (w_p1 (by decide) (Or.inr rfl) e11360) ?_
        refine r_iload_n (w_e1 _ _ _) ?_
        refine r_bipush 30 rfl ?_
        refine q_iremO (by decide) (fun v11845 _ => ?_)
        refine q_iast (Sh.arr hI11352.1 ka_207) (x11350.toInt) rfl (by omega) ?_
        have hI11846 := HI.wA0 hI11352 ka_207 (p := 207) rfl rfl (x11350.toInt) (v11845)
        have hF11847 := Fr.wA (p := 207) (j := x11350.toInt) (v := v11845) hF11353 rfl
        refine q_iinc (w_p1 (by decide) (Or.inr rfl) e11360) (x11350.toInt + 1) rfl (by omega) (fun v11848 hv11848 => ?_)
        refine r_goto ?_
        have bv11849 := q_bnd v11844
        exact ih11356 (8 - v11848.toInt) _ _ ⟨v11844, v11848, by first | rfl | omega, hI11846, hF11847, (w_p1 (by decide) (Or.inr rfl) (w_p1 (by decide) (Or.inr rfl) e11357)), (w_p1 (by decide) (Or.inr rfl) (w_p1 (by decide) (Or.inr rfl) e11358)), (w_p1 (by decide) (Or.inr rfl) (w_e1 _ _ _)), (w_e1 _ _ _), by omega⟩ ⟨by omega, by omega⟩

def F_X10_drawn_0 : List (Nat × Nat) := []
def A_X10_drawn_0 : List Nat := []
set_option maxRecDepth 100000 in
set_option maxHeartbeats 4000000 in
theorem T_X10_drawn_0 (d : Nat) {N : Nat} {g0 : List en_E} (hI0 : HI g0) (a1 : Int32) (a2 : Int32) : Ev (d + 2) 139 [.ref 0, .int a1, .int a2] (g0, N) (fun w h' => ∃ g', h' = (g', N) ∧ HI g' ∧ Fr F_X10_drawn_0 A_X10_drawn_0 g0 g' ∧ ∃ r : Int32, w = some (.int r) ∧ True) := by
  have hF0 : Fr F_X10_drawn_0 A_X10_drawn_0 g0 g0 := Fr.rf
  refine Ev.mk rfl rfl ⟨Nat.le_of_ble_eq_true rfl, Or.inr (q_rc hI0.1 kx_0 rfl)⟩ ?_
  show At _ none _ _ (0, [(0, .ref 0), (1, .int a1), (2, .int a2)], [], (_, _)) _
  refine At.enter rfl ?_
  refine r_iload_n rfl ?_
  refine r_iconst 0 rfl ?_
  refine r_aload_n rfl ?_
  obtain ⟨v23, hv23⟩ : ∃ v, gI g0 0 15 = v := ⟨_, rfl⟩
  have rv23 := RgF.at hI0.2.1 (p := 0) (b := 15) rfl
  rw [hv23] at rv23
  dsimp only at rv23
  refine q_getI (Sh.int hI0.1 kx_0 rfl) v23 hv23 ?_
  refine r_iconst 1 rfl ?_
  refine q_isub (v23.toInt - 1) rfl (by omega) (fun v24 hv24 => ?_)
  refine q_inlS 11 rfl [.int a1, .int 0, .int v24] [] (Nat.le_of_ble_eq_true rfl) rfl ?_
  refine Ev.mk rfl rfl ⟨Nat.le_of_ble_eq_true rfl, Or.inl rfl⟩ ?_
  show At _ none _ _ (0, [(0, .int a1), (1, .int 0), (2, .int v24)], [], (_, _)) _
  refine At.enter rfl ?_
  refine r_iload_n rfl ?_
  refine r_iload_n rfl ?_
  refine r_ics 5 rfl (fun c25 => ?_) (fun c25 => ?_)
  · have c25_ : a1.toInt < 0 := en_i_lt_t c25
    refine At.enter rfl ?_
    refine r_iconst 0 rfl ?_
    refine Ar.fall 15 rfl ?_
    refine At.enter rfl ?_
    refine q_iretz (by decide) ?_
    refine At.enter rfl ?_
    refine r_ift (by decide) ?_
    refine At.enter rfl ?_
    refine r_iconst (-1) rfl ?_
    refine r_ireti ?_
    exact ⟨_, rfl, hI0, hF0, _, rfl, trivial⟩
  · have c25_ : a1.toInt ≥ 0 := en_i_lt_f c25
    refine At.enter rfl ?_
    refine r_iload_n rfl ?_
    refine r_iload_n rfl ?_
    have bv27 := q_bnd a1
    have bv28 := q_bnd v24
    refine r_ics 10 rfl (fun c26 => ?_) (fun c26 => ?_)
    · have c26_ : a1.toInt > v24.toInt := en_i_gt_t c26
      refine At.enter rfl ?_
      refine r_iconst 0 rfl ?_
      refine Ar.fall 15 rfl ?_
      refine At.enter rfl ?_
      refine q_iretz (by decide) ?_
      refine At.enter rfl ?_
      refine r_ift (by decide) ?_
      refine At.enter rfl ?_
      refine r_iconst (-1) rfl ?_
      refine r_ireti ?_
      exact ⟨_, rfl, hI0, hF0, _, rfl, trivial⟩
    · have c26_ : a1.toInt ≤ v24.toInt := en_i_gt_f c26
      refine At.enter rfl ?_
      refine r_iconst 1 rfl ?_
      refine r_goto ?_
      refine At.enter rfl ?_
      refine q_iretz (by decide) ?_
      refine At.enter rfl ?_
      refine r_iff 14 rfl (by decide) ?_
      refine At.enter rfl ?_
      refine r_iload_n rfl ?_
      refine r_iconst 0 rfl ?_
      refine r_iconst 1 rfl ?_
      refine q_inlS 20 rfl [.int a2, .int 0, .int 1] [] (Nat.le_of_ble_eq_true rfl) rfl ?_
      refine Ev.mk rfl rfl ⟨Nat.le_of_ble_eq_true rfl, Or.inl rfl⟩ ?_
      show At _ none _ _ (0, [(0, .int a2), (1, .int 0), (2, .int 1)], [], (_, _)) _
      refine At.enter rfl ?_
      refine r_iload_n rfl ?_
      refine r_iload_n rfl ?_
      refine r_ics 5 rfl (fun c29 => ?_) (fun c29 => ?_)
      · have c29_ : a2.toInt < 0 := en_i_lt_t c29
        refine At.enter rfl ?_
        refine r_iconst 0 rfl ?_
        refine Ar.fall 15 rfl ?_
        refine At.enter rfl ?_
        refine q_iretz (by decide) ?_
        refine At.enter rfl ?_
        refine r_iff 23 rfl (by decide) ?_
        refine At.enter rfl ?_
        refine r_iconst (-1) rfl ?_
        refine r_ireti ?_
        exact ⟨_, rfl, hI0, hF0, _, rfl, trivial⟩
      · have c29_ : a2.toInt ≥ 0 := en_i_lt_f c29
        refine At.enter rfl ?_
        refine r_iload_n rfl ?_
        refine r_iload_n rfl ?_
        refine r_ics 10 rfl (fun c30 => ?_) (fun c30 => ?_)
        · have c30_ : a2.toInt > 1 := en_i_gt_t c30
          refine At.enter rfl ?_
          refine r_iconst 0 rfl ?_
          refine Ar.fall 15 rfl ?_
          refine At.enter rfl ?_
          refine q_iretz (by decide) ?_
          refine At.enter rfl ?_
          refine r_iff 23 rfl (by decide) ?_
          refine At.enter rfl ?_
          refine r_iconst (-1) rfl ?_
          refine r_ireti ?_
          exact ⟨_, rfl, hI0, hF0, _, rfl, trivial⟩
        · have c30_ : a2.toInt ≤ 1 := en_i_gt_f c30
          refine At.enter rfl ?_
          refine r_iconst 1 rfl ?_
          refine r_goto ?_
          refine At.enter rfl ?_
          refine q_iretz (by decide) ?_
          refine At.enter rfl ?_
          refine r_ift (by decide) ?_
          refine At.enter rfl ?_
          refine r_iload_n rfl ?_
          refine r_ifs 29 rfl (fun c31 => ?_) (fun c31 => ?_)
          · have c31_ : a2.toInt ≠ 0 := en_k_ne_t c31
            refine At.enter rfl ?_
            refine r_aload_n rfl ?_
            refine q_getR (Sh.ref hI0.1 kx_0 rfl) ?_
            refine r_iload_n rfl ?_
            obtain ⟨v32, hv32⟩ : ∃ v, eA g0 229 a1.toInt = v := ⟨_, rfl⟩
            refine q_iald (Sh.arr hI0.1 ka_229) a1.toInt rfl (by omega) v32 hv32 ?_
            refine Ar.fall 44 rfl ?_
            refine At.enter rfl ?_
            refine r_ireti ?_
            exact ⟨_, rfl, hI0, hF0, _, rfl, trivial⟩
          · have c31_ : a2.toInt = 0 := en_k_ne_f c31
            refine At.enter rfl ?_
            refine r_aload_n rfl ?_
            refine q_getR (Sh.ref hI0.1 kx_0 rfl) ?_
            refine r_iload_n rfl ?_
            obtain ⟨v33, hv33⟩ : ∃ v, eA g0 228 a1.toInt = v := ⟨_, rfl⟩
            refine q_iald (Sh.arr hI0.1 ka_228) a1.toInt rfl (by omega) v33 hv33 ?_
            refine r_goto ?_
            refine At.enter rfl ?_
            refine r_ireti ?_
            exact ⟨_, rfl, hI0, hF0, _, rfl, trivial⟩

def F_X10_image_0 : List (Nat × Nat) := [(0, 17), (7, 0), (7, 3), (7, 4), (16, 0), (16, 3), (16, 4), (23, 0), (23, 3), (23, 4), (30, 0), (30, 3), (30, 4), (37, 0), (37, 3), (37, 4), (44, 0), (44, 3), (44, 4), (51, 0), (51, 3), (51, 4), (59, 0), (59, 4), (59, 6), (59, 9), (59, 10), (59, 11), (59, 12), (65, 0), (65, 3), (65, 4), (74, 0), (74, 3), (74, 4), (81, 0), (81, 3), (81, 4), (88, 0), (88, 3), (88, 4), (95, 0), (95, 3), (95, 4), (102, 0), (102, 3), (102, 4), (109, 0), (109, 3), (109, 4), (116, 0), (116, 4), (116, 6), (116, 9), (116, 10), (116, 11), (116, 12), (122, 0), (122, 3), (122, 4), (131, 0), (131, 3), (131, 4), (138, 0), (138, 3), (138, 4), (145, 0), (145, 3), (145, 4), (152, 0), (152, 3), (152, 4), (159, 0), (159, 3), (159, 4), (166, 0), (166, 3), (166, 4), (177, 0), (177, 3), (177, 4)]
def A_X10_image_0 : List Nat := [8, 9, 10, 11, 12, 13, 17, 18, 19, 20, 21, 22, 24, 25, 26, 27, 28, 29, 31, 32, 33, 34, 35, 36, 38, 39, 40, 41, 42, 43, 45, 46, 47, 48, 49, 50, 52, 53, 54, 55, 56, 57, 60, 61, 62, 63, 66, 67, 68, 69, 70, 71, 72, 73, 75, 76, 77, 78, 79, 80, 82, 83, 84, 85, 86, 87, 89, 90, 91, 92, 93, 94, 96, 97, 98, 99, 100, 101, 103, 104, 105, 106, 107, 108, 110, 111, 112, 113, 114, 115, 117, 118, 119, 120, 123, 124, 125, 126, 127, 128, 129, 130, 132, 133, 134, 135, 136, 137, 139, 140, 141, 142, 143, 144, 146, 147, 148, 149, 150, 151, 153, 154, 155, 156, 157, 158, 160, 161, 162, 163, 164, 165, 167, 168, 169, 170, 171, 172, 173, 178, 179, 180, 181, 182, 183, 230]
set_option maxRecDepth 100000 in
set_option maxHeartbeats 4000000 in
theorem T_X10_image_0 (d : Nat) {N : Nat} {g0 : List en_E} (hI0 : HI g0) (a1 : Int32) : Ev (d + 3) 140 [.ref 0, .int a1] (g0, N) (fun w h' => ∃ g', h' = (g', N) ∧ HI g' ∧ Fr F_X10_image_0 A_X10_image_0 g0 g' ∧ ∃ r : Int32, w = some (.int r) ∧ ((-1) ≤ r.toInt ∧ r.toInt ≤ 0) ∧ ((a1.toInt = 0 → (eA g' 173 0).toInt = 1 ∧ r.toInt = 0 ∧ (gI g' 59 0).toInt = (gI g0 1 0).toInt ∧ (gI g' 59 12).toInt = (gI g0 1 12).toInt ∧ (gI g' 59 10).toInt = (gI g0 1 10).toInt ∧ (gI g' 59 11).toInt = (gI g0 1 11).toInt) ∧ (a1.toInt ≠ 0 → (eA g' 173 0).toInt = (eA g0 173 0).toInt ∧ (gI g' 59 0).toInt = (gI g0 59 0).toInt ∧ (gI g' 59 12).toInt = (gI g0 59 12).toInt ∧ (gI g' 59 10).toInt = (gI g0 59 10).toInt ∧ (gI g' 59 11).toInt = (gI g0 59 11).toInt) ∧ (a1.toInt = 1 → (eA g' 173 1).toInt = 1 ∧ r.toInt = 0 ∧ (gI g' 116 0).toInt = (gI g0 1 0).toInt ∧ (gI g' 116 12).toInt = (gI g0 1 12).toInt ∧ (gI g' 116 10).toInt = (gI g0 1 10).toInt ∧ (gI g' 116 11).toInt = (gI g0 1 11).toInt) ∧ (a1.toInt ≠ 1 → (eA g' 173 1).toInt = (eA g0 173 1).toInt ∧ (gI g' 116 0).toInt = (gI g0 116 0).toInt ∧ (gI g' 116 12).toInt = (gI g0 116 12).toInt ∧ (gI g' 116 10).toInt = (gI g0 116 10).toInt ∧ (gI g' 116 11).toInt = (gI g0 116 11).toInt) ∧ (a1.toInt < 0 ∨ 1 < a1.toInt → r.toInt = -1))) := by
  have hF0 : Fr F_X10_image_0 A_X10_image_0 g0 g0 := Fr.rf
  refine Ev.mk rfl rfl ⟨Nat.le_of_ble_eq_true rfl, Or.inr (q_rc hI0.1 kx_0 rfl)⟩ ?_
  show At _ none _ _ (0, [(0, .ref 0), (1, .int a1)], [], (_, _)) _
  refine At.enter rfl ?_
  refine r_aload_n rfl ?_
  refine r_iload_n rfl ?_
  refine q_inlV 5 rfl [.ref 0, .int a1] [] (Nat.le_of_ble_eq_true rfl) rfl ?_
  refine Ev.mk rfl rfl ⟨Nat.le_of_ble_eq_true rfl, Or.inr (q_rc hI0.1 kx_0 rfl)⟩ ?_
  show At _ none _ _ (0, [(0, .ref 0), (1, .int a1)], [], (_, _)) _
  refine At.enter rfl ?_
  refine r_iload_n rfl ?_
  refine r_iconst 0 rfl ?_
  refine r_iconst 1 rfl ?_
  refine q_inlS 6 rfl [.int a1, .int 0, .int 1] [] (Nat.le_of_ble_eq_true rfl) rfl ?_
  refine Ev.mk rfl rfl ⟨Nat.le_of_ble_eq_true rfl, Or.inl rfl⟩ ?_
  show At _ none _ _ (0, [(0, .int a1), (1, .int 0), (2, .int 1)], [], (_, _)) _
  refine At.enter rfl ?_
  refine r_iload_n rfl ?_
  refine r_iload_n rfl ?_
  refine r_ics 5 rfl (fun c1327 => ?_) (fun c1327 => ?_)
  · have c1327_ : a1.toInt < 0 := en_i_lt_t c1327
    refine At.enter rfl ?_
    refine r_iconst 0 rfl ?_
    refine Ar.fall 15 rfl ?_
    refine At.enter rfl ?_
    refine q_iretz (by decide) ?_
    refine At.enter rfl ?_
    refine r_ift (by decide) ?_
    refine At.enter rfl ?_
    refine r_null ?_
    refine Ar.fall 19 rfl ?_
    refine At.enter rfl ?_
    refine q_zret ?_
    refine At.enter rfl ?_
    refine r_zstore_n ([(2, .null), (0, .ref 0), (1, .int a1)]) rfl ?_
    refine r_zload_n rfl ?_
    refine r_nnz 10 rfl ?_
    refine At.enter rfl ?_
    refine r_aload_n rfl ?_
    refine r_iconst (-1) rfl ?_
    refine r_callV 15 rfl [.ref 0, .int (-1)] [] (Nat.le_of_ble_eq_true rfl) rfl (T_X10_refused_0 _ hI0 (-1) (by decide)) ?_
    rintro _ _ ⟨g1328, rfl, hI1329, hF1330, v1331, rfl, hr1332⟩
    refine At.sti ?_
    have hF1333 := Fr.tr hF0 hF1330 rfl rfl
    have zv1334 : ((-1) : Int32).toInt = (-1) := rfl
    refine At.enter rfl ?_
    refine r_ireti ?_
    obtain ⟨v1335, hv1335⟩ : ∃ v, gI g0 1 0 = v := ⟨_, rfl⟩
    have rv1335 := RgF.at hI0.2.1 (p := 1) (b := 0) rfl
    rw [hv1335] at rv1335
    dsimp only at rv1335
    have tv1335 := congrArg Int32.toInt hv1335
    have x1336 := HI.eqI hI0 (p := 1) (b := 0) (hv1335)
    obtain ⟨v1337, hv1337⟩ : ∃ v, gI g0 1 12 = v := ⟨_, rfl⟩
    have rv1337 := RgF.at hI0.2.1 (p := 1) (b := 12) rfl
    rw [hv1337] at rv1337
    dsimp only at rv1337
    have tv1337 := congrArg Int32.toInt hv1337
    have x1338 := HI.eqI hI0 (p := 1) (b := 12) (hv1337)
    obtain ⟨v1339, hv1339⟩ : ∃ v, gI g0 1 10 = v := ⟨_, rfl⟩
    have tv1339 := congrArg Int32.toInt hv1339
    have x1340 := HI.eqI hI0 (p := 1) (b := 10) (hv1339)
    obtain ⟨v1341, hv1341⟩ : ∃ v, gI g0 1 11 = v := ⟨_, rfl⟩
    have tv1341 := congrArg Int32.toInt hv1341
    have x1342 := HI.eqI hI0 (p := 1) (b := 11) (hv1341)
    obtain ⟨v1343, hv1343⟩ : ∃ v, gI g0 59 0 = v := ⟨_, rfl⟩
    have rv1343 := RgF.at hI0.2.1 (p := 59) (b := 0) rfl
    rw [hv1343] at rv1343
    dsimp only at rv1343
    have tv1343 := congrArg Int32.toInt hv1343
    have x1344 := HI.eqI hI0 (p := 59) (b := 0) (hv1343)
    obtain ⟨v1345, hv1345⟩ : ∃ v, gI g0 59 12 = v := ⟨_, rfl⟩
    have rv1345 := RgF.at hI0.2.1 (p := 59) (b := 12) rfl
    rw [hv1345] at rv1345
    dsimp only at rv1345
    have tv1345 := congrArg Int32.toInt hv1345
    have x1346 := HI.eqI hI0 (p := 59) (b := 12) (hv1345)
    obtain ⟨v1347, hv1347⟩ : ∃ v, gI g0 59 10 = v := ⟨_, rfl⟩
    have tv1347 := congrArg Int32.toInt hv1347
    have x1348 := HI.eqI hI0 (p := 59) (b := 10) (hv1347)
    obtain ⟨v1349, hv1349⟩ : ∃ v, gI g0 59 11 = v := ⟨_, rfl⟩
    have tv1349 := congrArg Int32.toInt hv1349
    have x1350 := HI.eqI hI0 (p := 59) (b := 11) (hv1349)
    obtain ⟨v1351, hv1351⟩ : ∃ v, gI g0 116 0 = v := ⟨_, rfl⟩
    have rv1351 := RgF.at hI0.2.1 (p := 116) (b := 0) rfl
    rw [hv1351] at rv1351
    dsimp only at rv1351
    have tv1351 := congrArg Int32.toInt hv1351
    have x1352 := HI.eqI hI0 (p := 116) (b := 0) (hv1351)
    obtain ⟨v1353, hv1353⟩ : ∃ v, gI g0 116 12 = v := ⟨_, rfl⟩
    have rv1353 := RgF.at hI0.2.1 (p := 116) (b := 12) rfl
    rw [hv1353] at rv1353
    dsimp only at rv1353
    have tv1353 := congrArg Int32.toInt hv1353
    have x1354 := HI.eqI hI0 (p := 116) (b := 12) (hv1353)
    obtain ⟨v1355, hv1355⟩ : ∃ v, gI g0 116 10 = v := ⟨_, rfl⟩
    have tv1355 := congrArg Int32.toInt hv1355
    have x1356 := HI.eqI hI0 (p := 116) (b := 10) (hv1355)
    obtain ⟨v1357, hv1357⟩ : ∃ v, gI g0 116 11 = v := ⟨_, rfl⟩
    have tv1357 := congrArg Int32.toInt hv1357
    have x1358 := HI.eqI hI0 (p := 116) (b := 11) (hv1357)
    obtain ⟨v1359, hv1359⟩ : ∃ v, eA g0 173 0 = v := ⟨_, rfl⟩
    have tv1359 := congrArg Int32.toInt hv1359
    have x1360 := HI.eqA hI0 (p := 173) (j := 0) (hv1359)
    obtain ⟨v1361, hv1361⟩ : ∃ v, eA g0 173 1 = v := ⟨_, rfl⟩
    have tv1361 := congrArg Int32.toInt hv1361
    have x1362 := HI.eqA hI0 (p := 173) (j := 1) (hv1361)
    have x1363 := HI.eqI hI1329 (p := 59) (b := 0) (((hF1330.1 59 0 (by decide)).trans hv1343))
    have x1364 := HI.eqI hI1329 (p := 59) (b := 12) (((hF1330.1 59 12 (by decide)).trans hv1345))
    have x1365 := HI.eqI hI1329 (p := 59) (b := 10) (((hF1330.1 59 10 (by decide)).trans hv1347))
    have x1366 := HI.eqI hI1329 (p := 59) (b := 11) (((hF1330.1 59 11 (by decide)).trans hv1349))
    have x1367 := HI.eqI hI1329 (p := 116) (b := 0) (((hF1330.1 116 0 (by decide)).trans hv1351))
    have x1368 := HI.eqI hI1329 (p := 116) (b := 12) (((hF1330.1 116 12 (by decide)).trans hv1353))
    have x1369 := HI.eqI hI1329 (p := 116) (b := 10) (((hF1330.1 116 10 (by decide)).trans hv1355))
    have x1370 := HI.eqI hI1329 (p := 116) (b := 11) (((hF1330.1 116 11 (by decide)).trans hv1357))
    have x1371 := HI.eqA hI1329 (p := 173) (j := 0) (((eA_c (hF1330.2.1 173 (by decide))).trans hv1359))
    have x1372 := HI.eqA hI1329 (p := 173) (j := 1) (((eA_c (hF1330.2.1 173 (by decide))).trans hv1361))
    exact ⟨_, rfl, hI1329, hF1333, _, rfl, by omega, ⟨by omega, by omega, by omega, by omega, by omega⟩⟩
  · have c1327_ : a1.toInt ≥ 0 := en_i_lt_f c1327
    refine At.enter rfl ?_
    refine r_iload_n rfl ?_
    refine r_iload_n rfl ?_
    refine r_ics 10 rfl (fun c1373 => ?_) (fun c1373 => ?_)
    · have c1373_ : a1.toInt > 1 := en_i_gt_t c1373
      refine At.enter rfl ?_
      refine r_iconst 0 rfl ?_
      refine Ar.fall 15 rfl ?_
      refine At.enter rfl ?_
      refine q_iretz (by decide) ?_
      refine At.enter rfl ?_
      refine r_ift (by decide) ?_
      refine At.enter rfl ?_
      refine r_null ?_
      refine Ar.fall 19 rfl ?_
      refine At.enter rfl ?_
      refine q_zret ?_
      refine At.enter rfl ?_
      refine r_zstore_n ([(2, .null), (0, .ref 0), (1, .int a1)]) rfl ?_
      refine r_zload_n rfl ?_
      refine r_nnz 10 rfl ?_
      refine At.enter rfl ?_
      refine r_aload_n rfl ?_
      refine r_iconst (-1) rfl ?_
      refine r_callV 15 rfl [.ref 0, .int (-1)] [] (Nat.le_of_ble_eq_true rfl) rfl (T_X10_refused_0 _ hI0 (-1) (by decide)) ?_
      rintro _ _ ⟨g1374, rfl, hI1375, hF1376, v1377, rfl, hr1378⟩
      refine At.sti ?_
      have hF1379 := Fr.tr hF0 hF1376 rfl rfl
      have zv1380 : ((-1) : Int32).toInt = (-1) := rfl
      refine At.enter rfl ?_
      refine r_ireti ?_
      obtain ⟨v1381, hv1381⟩ : ∃ v, gI g0 1 0 = v := ⟨_, rfl⟩
      have rv1381 := RgF.at hI0.2.1 (p := 1) (b := 0) rfl
      rw [hv1381] at rv1381
      dsimp only at rv1381
      have tv1381 := congrArg Int32.toInt hv1381
      have x1382 := HI.eqI hI0 (p := 1) (b := 0) (hv1381)
      obtain ⟨v1383, hv1383⟩ : ∃ v, gI g0 1 12 = v := ⟨_, rfl⟩
      have rv1383 := RgF.at hI0.2.1 (p := 1) (b := 12) rfl
      rw [hv1383] at rv1383
      dsimp only at rv1383
      have tv1383 := congrArg Int32.toInt hv1383
      have x1384 := HI.eqI hI0 (p := 1) (b := 12) (hv1383)
      obtain ⟨v1385, hv1385⟩ : ∃ v, gI g0 1 10 = v := ⟨_, rfl⟩
      have tv1385 := congrArg Int32.toInt hv1385
      have x1386 := HI.eqI hI0 (p := 1) (b := 10) (hv1385)
      obtain ⟨v1387, hv1387⟩ : ∃ v, gI g0 1 11 = v := ⟨_, rfl⟩
      have tv1387 := congrArg Int32.toInt hv1387
      have x1388 := HI.eqI hI0 (p := 1) (b := 11) (hv1387)
      obtain ⟨v1389, hv1389⟩ : ∃ v, gI g0 59 0 = v := ⟨_, rfl⟩
      have rv1389 := RgF.at hI0.2.1 (p := 59) (b := 0) rfl
      rw [hv1389] at rv1389
      dsimp only at rv1389
      have tv1389 := congrArg Int32.toInt hv1389
      have x1390 := HI.eqI hI0 (p := 59) (b := 0) (hv1389)
      obtain ⟨v1391, hv1391⟩ : ∃ v, gI g0 59 12 = v := ⟨_, rfl⟩
      have rv1391 := RgF.at hI0.2.1 (p := 59) (b := 12) rfl
      rw [hv1391] at rv1391
      dsimp only at rv1391
      have tv1391 := congrArg Int32.toInt hv1391
      have x1392 := HI.eqI hI0 (p := 59) (b := 12) (hv1391)
      obtain ⟨v1393, hv1393⟩ : ∃ v, gI g0 59 10 = v := ⟨_, rfl⟩
      have tv1393 := congrArg Int32.toInt hv1393
      have x1394 := HI.eqI hI0 (p := 59) (b := 10) (hv1393)
      obtain ⟨v1395, hv1395⟩ : ∃ v, gI g0 59 11 = v := ⟨_, rfl⟩
      have tv1395 := congrArg Int32.toInt hv1395
      have x1396 := HI.eqI hI0 (p := 59) (b := 11) (hv1395)
      obtain ⟨v1397, hv1397⟩ : ∃ v, gI g0 116 0 = v := ⟨_, rfl⟩
      have rv1397 := RgF.at hI0.2.1 (p := 116) (b := 0) rfl
      rw [hv1397] at rv1397
      dsimp only at rv1397
      have tv1397 := congrArg Int32.toInt hv1397
      have x1398 := HI.eqI hI0 (p := 116) (b := 0) (hv1397)
      obtain ⟨v1399, hv1399⟩ : ∃ v, gI g0 116 12 = v := ⟨_, rfl⟩
      have rv1399 := RgF.at hI0.2.1 (p := 116) (b := 12) rfl
      rw [hv1399] at rv1399
      dsimp only at rv1399
      have tv1399 := congrArg Int32.toInt hv1399
      have x1400 := HI.eqI hI0 (p := 116) (b := 12) (hv1399)
      obtain ⟨v1401, hv1401⟩ : ∃ v, gI g0 116 10 = v := ⟨_, rfl⟩
      have tv1401 := congrArg Int32.toInt hv1401
      have x1402 := HI.eqI hI0 (p := 116) (b := 10) (hv1401)
      obtain ⟨v1403, hv1403⟩ : ∃ v, gI g0 116 11 = v := ⟨_, rfl⟩
      have tv1403 := congrArg Int32.toInt hv1403
      have x1404 := HI.eqI hI0 (p := 116) (b := 11) (hv1403)
      obtain ⟨v1405, hv1405⟩ : ∃ v, eA g0 173 0 = v := ⟨_, rfl⟩
      have tv1405 := congrArg Int32.toInt hv1405
      have x1406 := HI.eqA hI0 (p := 173) (j := 0) (hv1405)
      obtain ⟨v1407, hv1407⟩ : ∃ v, eA g0 173 1 = v := ⟨_, rfl⟩
      have tv1407 := congrArg Int32.toInt hv1407
      have x1408 := HI.eqA hI0 (p := 173) (j := 1) (hv1407)
      have x1409 := HI.eqI hI1375 (p := 59) (b := 0) (((hF1376.1 59 0 (by decide)).trans hv1389))
      have x1410 := HI.eqI hI1375 (p := 59) (b := 12) (((hF1376.1 59 12 (by decide)).trans hv1391))
      have x1411 := HI.eqI hI1375 (p := 59) (b := 10) (((hF1376.1 59 10 (by decide)).trans hv1393))
      have x1412 := HI.eqI hI1375 (p := 59) (b := 11) (((hF1376.1 59 11 (by decide)).trans hv1395))
      have x1413 := HI.eqI hI1375 (p := 116) (b := 0) (((hF1376.1 116 0 (by decide)).trans hv1397))
      have x1414 := HI.eqI hI1375 (p := 116) (b := 12) (((hF1376.1 116 12 (by decide)).trans hv1399))
      have x1415 := HI.eqI hI1375 (p := 116) (b := 10) (((hF1376.1 116 10 (by decide)).trans hv1401))
      have x1416 := HI.eqI hI1375 (p := 116) (b := 11) (((hF1376.1 116 11 (by decide)).trans hv1403))
      have x1417 := HI.eqA hI1375 (p := 173) (j := 0) (((eA_c (hF1376.2.1 173 (by decide))).trans hv1405))
      have x1418 := HI.eqA hI1375 (p := 173) (j := 1) (((eA_c (hF1376.2.1 173 (by decide))).trans hv1407))
      exact ⟨_, rfl, hI1375, hF1379, _, rfl, by omega, ⟨by omega, by omega, by omega, by omega, by omega⟩⟩
    · have c1373_ : a1.toInt ≤ 1 := en_i_gt_f c1373
      refine At.enter rfl ?_
      refine r_iconst 1 rfl ?_
      refine r_goto ?_
      refine At.enter rfl ?_
      refine q_iretz (by decide) ?_
      refine At.enter rfl ?_
      refine r_iff 9 rfl (by decide) ?_
      refine At.enter rfl ?_
      refine r_aload_n rfl ?_
      refine q_getR (Sh.ref hI0.1 kx_0 rfl) ?_
      refine r_iload_n rfl ?_
      by_cases c1419_0 : a1.toInt = 0
      · refine q_aald (Sh.rar hI0.1 ka_58) (by decide) 0 (by omega) (by decide) (some 59) rfl ?_
        refine r_goto ?_
        refine At.enter rfl ?_
        refine q_aret ?_
        refine At.enter rfl ?_
        refine r_astore_n ([(2, .ref 59), (0, .ref 0), (1, .int a1)]) rfl ?_
        refine r_aload_n rfl ?_
        refine r_nnr ?_
        refine At.enter rfl ?_
        refine r_aload_n rfl ?_
        refine r_aload_n rfl ?_
        refine q_getR (Sh.ref hI0.1 kx_0 rfl) ?_
        refine q_inlV 24 rfl [.ref 59, .ref 1] [] (Nat.le_of_ble_eq_true rfl) rfl ?_
        refine Ev.mk rfl rfl ⟨Nat.le_of_ble_eq_true rfl, Or.inr (q_rc hI0.1 kx_59 rfl)⟩ ?_
        show At _ none _ _ (0, [(0, .ref 59), (1, .ref 1)], [], (_, _)) _
        refine At.enter rfl ?_
        refine r_aload_n rfl ?_
        refine r_aload_n rfl ?_
        obtain ⟨v1420, hv1420⟩ : ∃ v, gI g0 1 0 = v := ⟨_, rfl⟩
        have rv1420 := RgF.at hI0.2.1 (p := 1) (b := 0) rfl
        rw [hv1420] at rv1420
        dsimp only at rv1420
        refine q_getI (Sh.int hI0.1 kx_1 rfl) v1420 hv1420 ?_
        refine q_putI (Sh.int hI0.1 kx_59 rfl) rfl ?_
        have hI1421 := HI.wI1 hI0 kx_59 rfl (p := 59) (b := 0) (v := v1420) rfl (by dsimp only; omega)
        have hF1422 := Fr.wI (p := 59) (b := 0) (v := v1420) hF0 rfl
        refine r_aload_n rfl ?_
        refine q_getR (Sh.ref hI1421.1 kx_1 rfl) ?_
        refine r_iconst 0 rfl ?_
        refine r_aload_n rfl ?_
        refine q_getR (Sh.ref hI1421.1 kx_59 rfl) ?_
        refine r_iconst 0 rfl ?_
        refine r_bipush 12 rfl ?_
        have zv1423 : (0 : Int32).toInt = 0 := rfl
        have zv1424 : (0 : Int32).toInt = 0 := rfl
        have zv1425 : (12 : Int32).toInt = 12 := rfl
        refine q_cpy rfl (Nat.le_of_ble_eq_true rfl) (Sh.arr hI1421.1 ka_2) (Sh.arr hI1421.1 ka_60) ⟨by omega, by omega, by omega, by omega, by omega⟩ ?_
        have hI1426 := HI.cpy0 hI1421 ka_2 ka_60 rfl rfl ((0 : Int32).toInt.toNat) ((0 : Int32).toInt.toNat) ((12 : Int32).toInt.toNat) (by omega) (by omega)
        have hF1427 := Fr.cpy (p0 := 2) (p1 := 60) hF1422 rfl ((0 : Int32).toInt.toNat) ((0 : Int32).toInt.toNat) ((12 : Int32).toInt.toNat)
        refine r_aload_n rfl ?_
        refine q_getR (Sh.ref hI1426.1 kx_1 rfl) ?_
        refine r_iconst 0 rfl ?_
        refine r_aload_n rfl ?_
        refine q_getR (Sh.ref hI1426.1 kx_59 rfl) ?_
        refine r_iconst 0 rfl ?_
        refine r_bipush 12 rfl ?_
        have zv1428 : (0 : Int32).toInt = 0 := rfl
        have zv1429 : (0 : Int32).toInt = 0 := rfl
        have zv1430 : (12 : Int32).toInt = 12 := rfl
        refine q_cpy rfl (Nat.le_of_ble_eq_true rfl) (Sh.arr hI1426.1 ka_3) (Sh.arr hI1426.1 ka_61) ⟨by omega, by omega, by omega, by omega, by omega⟩ ?_
        have hI1431 := HI.cpy0 hI1426 ka_3 ka_61 rfl rfl ((0 : Int32).toInt.toNat) ((0 : Int32).toInt.toNat) ((12 : Int32).toInt.toNat) (by omega) (by omega)
        have hF1432 := Fr.cpy (p0 := 3) (p1 := 61) hF1427 rfl ((0 : Int32).toInt.toNat) ((0 : Int32).toInt.toNat) ((12 : Int32).toInt.toNat)
        refine r_aload_n rfl ?_
        refine q_getR (Sh.ref hI1431.1 kx_1 rfl) ?_
        refine r_iconst 0 rfl ?_
        refine r_aload_n rfl ?_
        refine q_getR (Sh.ref hI1431.1 kx_59 rfl) ?_
        refine r_iconst 0 rfl ?_
        refine r_bipush 12 rfl ?_
        have zv1433 : (0 : Int32).toInt = 0 := rfl
        have zv1434 : (0 : Int32).toInt = 0 := rfl
        have zv1435 : (12 : Int32).toInt = 12 := rfl
        refine q_cpy rfl (Nat.le_of_ble_eq_true rfl) (Sh.arr hI1431.1 ka_4) (Sh.arr hI1431.1 ka_62) ⟨by omega, by omega, by omega, by omega, by omega⟩ ?_
        have hI1436 := HI.cpy0 hI1431 ka_4 ka_62 rfl rfl ((0 : Int32).toInt.toNat) ((0 : Int32).toInt.toNat) ((12 : Int32).toInt.toNat) (by omega) (by omega)
        have hF1437 := Fr.cpy (p0 := 4) (p1 := 62) hF1432 rfl ((0 : Int32).toInt.toNat) ((0 : Int32).toInt.toNat) ((12 : Int32).toInt.toNat)
        refine r_aload_n rfl ?_
        refine r_aload_n rfl ?_
        obtain ⟨v1438, hv1438⟩ : ∃ v, gI g0 1 4 = v := ⟨_, rfl⟩
        have rv1438 := RgF.at hI0.2.1 (p := 1) (b := 4) rfl
        rw [hv1438] at rv1438
        dsimp only at rv1438
        refine q_getI (Sh.int hI1436.1 kx_1 rfl) v1438 (((gI_sW).trans ((gI_sW).trans ((gI_sW).trans (gI_sI_ne (by decide))))).trans hv1438) ?_
        refine q_putI (Sh.int hI1436.1 kx_59 rfl) rfl ?_
        have hI1439 := HI.wI1 hI1436 kx_59 rfl (p := 59) (b := 4) (v := v1438) rfl (by dsimp only; omega)
        have hF1440 := Fr.wI (p := 59) (b := 4) (v := v1438) hF1437 rfl
        refine r_aload_n rfl ?_
        refine q_getR (Sh.ref hI1439.1 kx_1 rfl) ?_
        refine r_iconst 0 rfl ?_
        refine r_aload_n rfl ?_
        refine q_getR (Sh.ref hI1439.1 kx_59 rfl) ?_
        refine r_iconst 0 rfl ?_
        refine r_bipush 48 rfl ?_
        have zv1441 : (0 : Int32).toInt = 0 := rfl
        have zv1442 : (0 : Int32).toInt = 0 := rfl
        have zv1443 : (48 : Int32).toInt = 48 := rfl
        refine q_cpy rfl (Nat.le_of_ble_eq_true rfl) (Sh.arr hI1439.1 ka_5) (Sh.arr hI1439.1 ka_63) ⟨by omega, by omega, by omega, by omega, by omega⟩ ?_
        have hI1444 := HI.cpy0 hI1439 ka_5 ka_63 rfl rfl ((0 : Int32).toInt.toNat) ((0 : Int32).toInt.toNat) ((48 : Int32).toInt.toNat) (by omega) (by omega)
        have hF1445 := Fr.cpy (p0 := 5) (p1 := 63) hF1440 rfl ((0 : Int32).toInt.toNat) ((0 : Int32).toInt.toNat) ((48 : Int32).toInt.toNat)
        refine r_aload_n rfl ?_
        refine r_aload_n rfl ?_
        obtain ⟨v1446, hv1446⟩ : ∃ v, gI g0 1 6 = v := ⟨_, rfl⟩
        have rv1446 := RgF.at hI0.2.1 (p := 1) (b := 6) rfl
        rw [hv1446] at rv1446
        dsimp only at rv1446
        refine q_getI (Sh.int hI1444.1 kx_1 rfl) v1446 (((gI_sW).trans ((gI_sI_ne (by decide)).trans ((gI_sW).trans ((gI_sW).trans ((gI_sW).trans (gI_sI_ne (by decide))))))).trans hv1446) ?_
        refine q_putI (Sh.int hI1444.1 kx_59 rfl) rfl ?_
        have hI1447 := HI.wI1 hI1444 kx_59 rfl (p := 59) (b := 6) (v := v1446) rfl (by dsimp only; omega)
        have hF1448 := Fr.wI (p := 59) (b := 6) (v := v1446) hF1445 rfl
        refine r_iconst 0 rfl ?_
        refine r_istore_n ([(2, .int 0), (0, .ref 59), (1, .ref 1)]) rfl ?_
        refine Ar.fall 86 rfl ?_
        obtain ⟨v1449, hv1449⟩ : ∃ v, gI g0 59 10 = v := ⟨_, rfl⟩
        have tv1449 := congrArg Int32.toInt hv1449
        obtain ⟨v1450, hv1450⟩ : ∃ v, gI g0 59 11 = v := ⟨_, rfl⟩
        have tv1450 := congrArg Int32.toInt hv1450
        obtain ⟨v1451, hv1451⟩ : ∃ v, gI g0 59 12 = v := ⟨_, rfl⟩
        have rv1451 := RgF.at hI0.2.1 (p := 59) (b := 12) rfl
        rw [hv1451] at rv1451
        dsimp only at rv1451
        have tv1451 := congrArg Int32.toInt hv1451
        obtain ⟨v1452, hv1452⟩ : ∃ v, gI g0 116 0 = v := ⟨_, rfl⟩
        have rv1452 := RgF.at hI0.2.1 (p := 116) (b := 0) rfl
        rw [hv1452] at rv1452
        dsimp only at rv1452
        have tv1452 := congrArg Int32.toInt hv1452
        obtain ⟨v1453, hv1453⟩ : ∃ v, gI g0 116 10 = v := ⟨_, rfl⟩
        have tv1453 := congrArg Int32.toInt hv1453
        obtain ⟨v1454, hv1454⟩ : ∃ v, gI g0 116 11 = v := ⟨_, rfl⟩
        have tv1454 := congrArg Int32.toInt hv1454
        obtain ⟨v1455, hv1455⟩ : ∃ v, gI g0 116 12 = v := ⟨_, rfl⟩
        have rv1455 := RgF.at hI0.2.1 (p := 116) (b := 12) rfl
        rw [hv1455] at rv1455
        dsimp only at rv1455
        have tv1455 := congrArg Int32.toInt hv1455
        obtain ⟨v1456, hv1456⟩ : ∃ v, eA g0 173 0 = v := ⟨_, rfl⟩
        have tv1456 := congrArg Int32.toInt hv1456
        obtain ⟨v1457, hv1457⟩ : ∃ v, eA g0 173 1 = v := ⟨_, rfl⟩
        have tv1457 := congrArg Int32.toInt hv1457
        have z_1685 : (0 : Int32).toInt = 0 := rfl
        refine w_loopI (fun n_ l_ g_ => ∃ x1664 : Int32, n_ = 6 - x1664.toInt ∧ HI g_ ∧ Fr F_X10_image_0 A_X10_image_0 g0 g_ ∧ gI g_ 59 0 = v1420 ∧ gI g_ 59 10 = v1449 ∧ gI g_ 59 11 = v1450 ∧ gI g_ 59 12 = v1451 ∧ gI g_ 116 0 = v1452 ∧ gI g_ 116 10 = v1453 ∧ gI g_ 116 11 = v1454 ∧ gI g_ 116 12 = v1455 ∧ eA g_ 173 0 = v1456 ∧ eA g_ 173 1 = v1457 ∧ en_get 0 l_ = some (.ref 59) ∧ en_get 1 l_ = some (.ref 1) ∧ en_get 2 l_ = some (.int x1664) ∧ (0 ≤ x1664.toInt ∧ x1664.toInt ≤ 6)) ?_ (6 - 0) ⟨0, by first | rfl | omega, hI1447, hF1448, ((gI_sI_ne (by decide)).trans ((gI_sW).trans ((gI_sI_ne (by decide)).trans ((gI_sW).trans ((gI_sW).trans ((gI_sW).trans (gI_sI_eq hI0.1 kx_59 rfl _))))))), (((gI_sI_ne (by decide)).trans ((gI_sW).trans ((gI_sI_ne (by decide)).trans ((gI_sW).trans ((gI_sW).trans ((gI_sW).trans (gI_sI_ne (by decide)))))))).trans hv1449), (((gI_sI_ne (by decide)).trans ((gI_sW).trans ((gI_sI_ne (by decide)).trans ((gI_sW).trans ((gI_sW).trans ((gI_sW).trans (gI_sI_ne (by decide)))))))).trans hv1450), (((gI_sI_ne (by decide)).trans ((gI_sW).trans ((gI_sI_ne (by decide)).trans ((gI_sW).trans ((gI_sW).trans ((gI_sW).trans (gI_sI_ne (by decide)))))))).trans hv1451), (((gI_sI_ne (by decide)).trans ((gI_sW).trans ((gI_sI_ne (by decide)).trans ((gI_sW).trans ((gI_sW).trans ((gI_sW).trans (gI_sI_ne (by decide)))))))).trans hv1452), (((gI_sI_ne (by decide)).trans ((gI_sW).trans ((gI_sI_ne (by decide)).trans ((gI_sW).trans ((gI_sW).trans ((gI_sW).trans (gI_sI_ne (by decide)))))))).trans hv1453), (((gI_sI_ne (by decide)).trans ((gI_sW).trans ((gI_sI_ne (by decide)).trans ((gI_sW).trans ((gI_sW).trans ((gI_sW).trans (gI_sI_ne (by decide)))))))).trans hv1454), (((gI_sI_ne (by decide)).trans ((gI_sW).trans ((gI_sI_ne (by decide)).trans ((gI_sW).trans ((gI_sW).trans ((gI_sW).trans (gI_sI_ne (by decide)))))))).trans hv1455), (((eA_c gA_sI).trans ((eA_c (gA_sW_ne (by decide))).trans ((eA_c gA_sI).trans ((eA_c (gA_sW_ne (by decide))).trans ((eA_c (gA_sW_ne (by decide))).trans ((eA_c (gA_sW_ne (by decide))).trans (eA_c gA_sI))))))).trans hv1456), (((eA_c gA_sI).trans ((eA_c (gA_sW_ne (by decide))).trans ((eA_c gA_sI).trans ((eA_c (gA_sW_ne (by decide))).trans ((eA_c (gA_sW_ne (by decide))).trans ((eA_c (gA_sW_ne (by decide))).trans (eA_c gA_sI))))))).trans hv1457), rfl, rfl, rfl, by decide⟩
        rintro n1669 l1668 g1665 ⟨x1664, hm1686, hI1666, hF1667, e1671, e1672, e1673, e1674, e1675, e1676, e1677, e1678, e1679, e1680, e1681, e1682, e1683, r1684⟩ ih1670
        have tv1687 := congrArg Int32.toInt e1679
        have tv1688 := congrArg Int32.toInt e1680
        have tv1689 := congrArg Int32.toInt e1671
        have tv1690 := congrArg Int32.toInt e1672
        have tv1691 := congrArg Int32.toInt e1673
        have tv1692 := congrArg Int32.toInt e1674
        have tv1693 := congrArg Int32.toInt e1675
        have tv1694 := congrArg Int32.toInt e1676
        have tv1695 := congrArg Int32.toInt e1677
        have tv1696 := congrArg Int32.toInt e1678
        refine At.enter rfl ?_
        refine r_iload_n e1683 ?_
        refine r_bipush 6 rfl ?_
        refine r_ics 92 rfl (fun c1697 => ?_) (fun c1697 => ?_)
        · have c1697_ : x1664.toInt ≥ 6 := en_i_ge_t c1697
          refine At.enter rfl ?_
          refine r_aload_n e1681 ?_
          refine r_aload_n e1682 ?_
          obtain ⟨v1698, hv1698⟩ : ∃ v, gI g0 1 9 = v := ⟨_, rfl⟩
          refine q_getI (Sh.int hI1666.1 kx_1 rfl) v1698 ((hF1667.1 1 9 (by decide)).trans hv1698) ?_
          refine q_putI (Sh.int hI1666.1 kx_59 rfl) rfl ?_
          have hI1699 := HI.wI0 hI1666 kx_59 rfl (p := 59) (b := 9) (v := v1698) rfl
          have hF1700 := Fr.wI (p := 59) (b := 9) (v := v1698) hF1667 rfl
          refine r_aload_n e1681 ?_
          refine r_aload_n e1682 ?_
          obtain ⟨v1701, hv1701⟩ : ∃ v, gI g0 1 10 = v := ⟨_, rfl⟩
          refine q_getI (Sh.int hI1699.1 kx_1 rfl) v1701 (((gI_sI_ne (by decide)).trans (hF1667.1 1 10 (by decide))).trans hv1701) ?_
          refine q_putI (Sh.int hI1699.1 kx_59 rfl) rfl ?_
          have hI1702 := HI.wI0 hI1699 kx_59 rfl (p := 59) (b := 10) (v := v1701) rfl
          have hF1703 := Fr.wI (p := 59) (b := 10) (v := v1701) hF1700 rfl
          refine r_aload_n e1681 ?_
          refine r_aload_n e1682 ?_
          obtain ⟨v1704, hv1704⟩ : ∃ v, gI g0 1 11 = v := ⟨_, rfl⟩
          refine q_getI (Sh.int hI1702.1 kx_1 rfl) v1704 (((gI_sI_ne (by decide)).trans ((gI_sI_ne (by decide)).trans (hF1667.1 1 11 (by decide)))).trans hv1704) ?_
          refine q_putI (Sh.int hI1702.1 kx_59 rfl) rfl ?_
          have hI1705 := HI.wI0 hI1702 kx_59 rfl (p := 59) (b := 11) (v := v1704) rfl
          have hF1706 := Fr.wI (p := 59) (b := 11) (v := v1704) hF1703 rfl
          refine r_aload_n e1681 ?_
          refine r_aload_n e1682 ?_
          obtain ⟨v1707, hv1707⟩ : ∃ v, gI g0 1 12 = v := ⟨_, rfl⟩
          have rv1707 := RgF.at hI0.2.1 (p := 1) (b := 12) rfl
          rw [hv1707] at rv1707
          dsimp only at rv1707
          refine q_getI (Sh.int hI1705.1 kx_1 rfl) v1707 (((gI_sI_ne (by decide)).trans ((gI_sI_ne (by decide)).trans ((gI_sI_ne (by decide)).trans (hF1667.1 1 12 (by decide))))).trans hv1707) ?_
          refine q_putI (Sh.int hI1705.1 kx_59 rfl) rfl ?_
          have hI1708 := HI.wI1 hI1705 kx_59 rfl (p := 59) (b := 12) (v := v1707) rfl (by dsimp only; omega)
          have hF1709 := Fr.wI (p := 59) (b := 12) (v := v1707) hF1706 rfl
          refine r_aload_n e1682 ?_
          refine q_getR (Sh.ref hI1708.1 kx_1 rfl) ?_
          refine r_iconst 0 rfl ?_
          refine r_aload_n e1681 ?_
          refine q_getR (Sh.ref hI1708.1 kx_59 rfl) ?_
          refine r_iconst 0 rfl ?_
          refine r_bipush 8 rfl ?_
          have zv1710 : (0 : Int32).toInt = 0 := rfl
          have zv1711 : (0 : Int32).toInt = 0 := rfl
          have zv1712 : (8 : Int32).toInt = 8 := rfl
          refine q_cpy rfl (Nat.le_of_ble_eq_true rfl) (Sh.arr hI1708.1 ka_14) (Sh.arr hI1708.1 ka_72) ⟨by omega, by omega, by omega, by omega, by omega⟩ ?_
          have hI1713 := HI.cpy0 hI1708 ka_14 ka_72 rfl rfl ((0 : Int32).toInt.toNat) ((0 : Int32).toInt.toNat) ((8 : Int32).toInt.toNat) (by omega) (by omega)
          have hF1714 := Fr.cpy (p0 := 14) (p1 := 72) hF1709 rfl ((0 : Int32).toInt.toNat) ((0 : Int32).toInt.toNat) ((8 : Int32).toInt.toNat)
          refine r_aload_n e1682 ?_
          refine q_getR (Sh.ref hI1713.1 kx_1 rfl) ?_
          refine r_iconst 0 rfl ?_
          refine r_aload_n e1681 ?_
          refine q_getR (Sh.ref hI1713.1 kx_59 rfl) ?_
          refine r_iconst 0 rfl ?_
          refine r_bipush 8 rfl ?_
          have zv1715 : (0 : Int32).toInt = 0 := rfl
          have zv1716 : (0 : Int32).toInt = 0 := rfl
          have zv1717 : (8 : Int32).toInt = 8 := rfl
          refine q_cpy rfl (Nat.le_of_ble_eq_true rfl) (Sh.arr hI1713.1 ka_15) (Sh.arr hI1713.1 ka_73) ⟨by omega, by omega, by omega, by omega, by omega⟩ ?_
          have hI1718 := HI.cpy0 hI1713 ka_15 ka_73 rfl rfl ((0 : Int32).toInt.toNat) ((0 : Int32).toInt.toNat) ((8 : Int32).toInt.toNat) (by omega) (by omega)
          have hF1719 := Fr.cpy (p0 := 15) (p1 := 73) hF1714 rfl ((0 : Int32).toInt.toNat) ((0 : Int32).toInt.toNat) ((8 : Int32).toInt.toNat)
          refine q_vret ?_
          refine At.enter rfl ?_
          refine r_aload_n rfl ?_
          refine q_getR (Sh.ref hI1718.1 kx_0 rfl) ?_
          refine r_iload_n rfl ?_
          refine r_iconst 1 rfl ?_
          refine q_bast (Sh.arr hI1718.1 ka_173) (a1.toInt) rfl (by omega) rfl ?_
          have hI1720 := HI.wA0 hI1718 ka_173 (p := 173) rfl rfl (a1.toInt) (1)
          have hF1721 := Fr.wA (p := 173) (j := a1.toInt) (v := 1) hF1719 rfl
          refine r_aload_n rfl ?_
          refine r_iconst 0 rfl ?_
          refine q_inlV 36 rfl [.ref 0, .int 0] [] (Nat.le_of_ble_eq_true rfl) rfl ?_
          refine Ev.mk rfl rfl ⟨Nat.le_of_ble_eq_true rfl, Or.inr (q_rc hI1720.1 kx_0 rfl)⟩ ?_
          show At _ none _ _ (0, [(0, .ref 0), (1, .int 0)], [], (_, _)) _
          refine At.enter rfl ?_
          refine r_aload_n rfl ?_
          refine r_iconst 0 rfl ?_
          refine q_putI (Sh.int hI1720.1 kx_0 rfl) rfl ?_
          have hI1722 := HI.wI0 hI1720 kx_0 rfl (p := 0) (b := 17) (v := 0) rfl
          have hF1723 := Fr.wI (p := 0) (b := 17) (v := 0) hF1721 rfl
          refine r_iload_n rfl ?_
          refine q_ireti ?_
          refine At.enter rfl ?_
          refine r_ireti ?_
          have zv1724 : (0 : Int32).toInt = 0 := rfl
          have e : a1.toInt = 0 := by omega
          exact ⟨_, rfl, hI1722, hF1723, _, rfl, by decide, ⟨(fun _ => ⟨(HI.eqA hI1722 (p := 173) (j := 0) (((eA_c gA_sI).trans (eA_sA_eq hI1718.1 ka_173 (by omega) (by first | decide | omega) (by first | decide | omega))))).trans rfl, (by first | rfl | decide), (HI.eqI hI1722 (p := 59) (b := 0) ((((gI_sI_ne (by decide)).trans ((gI_sW).trans ((gI_sW).trans ((gI_sW).trans ((gI_sI_ne (by decide)).trans ((gI_sI_ne (by decide)).trans ((gI_sI_ne (by decide)).trans (gI_sI_ne (by decide))))))))).trans e1671))).trans (HI.eqI hI0 (p := 1) (b := 0) (hv1420)).symm, (HI.eqI hI1722 (p := 59) (b := 12) (((gI_sI_ne (by decide)).trans ((gI_sW).trans ((gI_sW).trans ((gI_sW).trans (gI_sI_eq hI1705.1 kx_59 rfl _))))))).trans (HI.eqI hI0 (p := 1) (b := 12) (hv1707)).symm, (HI.eqI hI1722 (p := 59) (b := 10) (((gI_sI_ne (by decide)).trans ((gI_sW).trans ((gI_sW).trans ((gI_sW).trans ((gI_sI_ne (by decide)).trans ((gI_sI_ne (by decide)).trans (gI_sI_eq hI1699.1 kx_59 rfl _))))))))).trans (HI.eqI hI0 (p := 1) (b := 10) (hv1701)).symm, (HI.eqI hI1722 (p := 59) (b := 11) (((gI_sI_ne (by decide)).trans ((gI_sW).trans ((gI_sW).trans ((gI_sW).trans ((gI_sI_ne (by decide)).trans (gI_sI_eq hI1702.1 kx_59 rfl _)))))))).trans (HI.eqI hI0 (p := 1) (b := 11) (hv1704)).symm⟩), (fun h => absurd e h), (fun h => absurd (e.symm.trans h) (by decide)), (fun _ => ⟨(HI.eqA hI1722 (p := 173) (j := 1) ((((eA_c gA_sI).trans ((eA_sA_ne hI1718.1 ka_173 (by first | decide | omega) (by first | decide | omega) (by first | decide | omega)).trans ((eA_c (gA_sW_ne (by decide))).trans ((eA_c (gA_sW_ne (by decide))).trans ((eA_c gA_sI).trans ((eA_c gA_sI).trans ((eA_c gA_sI).trans (eA_c gA_sI)))))))).trans e1680))).trans (HI.eqA hI0 (p := 173) (j := 1) (hv1457)).symm, (HI.eqI hI1722 (p := 116) (b := 0) ((((gI_sI_ne (by decide)).trans ((gI_sW).trans ((gI_sW).trans ((gI_sW).trans ((gI_sI_ne (by decide)).trans ((gI_sI_ne (by decide)).trans ((gI_sI_ne (by decide)).trans (gI_sI_ne (by decide))))))))).trans e1675))).trans (HI.eqI hI0 (p := 116) (b := 0) (hv1452)).symm, (HI.eqI hI1722 (p := 116) (b := 12) ((((gI_sI_ne (by decide)).trans ((gI_sW).trans ((gI_sW).trans ((gI_sW).trans ((gI_sI_ne (by decide)).trans ((gI_sI_ne (by decide)).trans ((gI_sI_ne (by decide)).trans (gI_sI_ne (by decide))))))))).trans e1678))).trans (HI.eqI hI0 (p := 116) (b := 12) (hv1455)).symm, (HI.eqI hI1722 (p := 116) (b := 10) ((((gI_sI_ne (by decide)).trans ((gI_sW).trans ((gI_sW).trans ((gI_sW).trans ((gI_sI_ne (by decide)).trans ((gI_sI_ne (by decide)).trans ((gI_sI_ne (by decide)).trans (gI_sI_ne (by decide))))))))).trans e1676))).trans (HI.eqI hI0 (p := 116) (b := 10) (hv1453)).symm, (HI.eqI hI1722 (p := 116) (b := 11) ((((gI_sI_ne (by decide)).trans ((gI_sW).trans ((gI_sW).trans ((gI_sW).trans ((gI_sI_ne (by decide)).trans ((gI_sI_ne (by decide)).trans ((gI_sI_ne (by decide)).trans (gI_sI_ne (by decide))))))))).trans e1677))).trans (HI.eqI hI0 (p := 116) (b := 11) (hv1454)).symm⟩), (fun h => False.elim (by omega))⟩⟩
        · have c1697_ : x1664.toInt < 6 := en_i_ge_f c1697
          refine At.enter rfl ?_
          refine r_aload_n e1681 ?_
          refine r_iload_n e1683 ?_
          refine r_callV 97 rfl [.ref 59, .int x1664] [] (Nat.le_of_ble_eq_true rfl) rfl (T_X0_lawAt_59 _ hI1666 x1664) ?_
          rintro _ _ ⟨g1725, rfl, hI1726, hF1727, v1728, rfl, hr1729⟩
          refine At.str ?_
          have hF1730 := Fr.tr hF1667 hF1727 rfl rfl
          refine At.enter rfl ?_
          refine r_aload_n e1682 ?_
          refine r_iload_n e1683 ?_
          refine r_callV 102 rfl [.ref 1, .int x1664] [.ref (v1728)] (Nat.le_of_ble_eq_true rfl) rfl (T_X0_lawAt_1 _ hI1726 x1664) ?_
          rintro _ _ ⟨g1731, rfl, hI1732, hF1733, v1734, rfl, hr1735⟩
          refine At.str ?_
          have hF1736 := Fr.tr hF1730 hF1733 rfl rfl
          refine At.enter rfl ?_
          refine r_callV 105 rfl [.ref (v1728), .ref (v1734)] [] (Nat.le_of_ble_eq_true rfl) rfl (T_X4_become_law _ hI1732 (v1728) hr1729 (v1734) hr1735) ?_
          rintro _ _ ⟨g1737, rfl, hI1738, hF1739, rfl⟩
          refine At.stn ?_
          have hF1742 := Fr.tr hF1736 hF1739 rfl rfl
          refine At.enter rfl ?_
          refine q_iinc e1683 (x1664.toInt + 1) rfl (by omega) (fun v1743 hv1743 => ?_)
          refine r_goto ?_
          exact ih1670 (6 - v1743.toInt) _ _ ⟨v1743, by first | rfl | omega, hI1738, hF1742, (((hF1739.1 59 0 (by decide)).trans ((hF1733.1 59 0 (by decide)).trans (hF1727.1 59 0 (by decide)))).trans e1671), (((hF1739.1 59 10 (by decide)).trans ((hF1733.1 59 10 (by decide)).trans (hF1727.1 59 10 (by decide)))).trans e1672), (((hF1739.1 59 11 (by decide)).trans ((hF1733.1 59 11 (by decide)).trans (hF1727.1 59 11 (by decide)))).trans e1673), (((hF1739.1 59 12 (by decide)).trans ((hF1733.1 59 12 (by decide)).trans (hF1727.1 59 12 (by decide)))).trans e1674), (((hF1739.1 116 0 (by decide)).trans ((hF1733.1 116 0 (by decide)).trans (hF1727.1 116 0 (by decide)))).trans e1675), (((hF1739.1 116 10 (by decide)).trans ((hF1733.1 116 10 (by decide)).trans (hF1727.1 116 10 (by decide)))).trans e1676), (((hF1739.1 116 11 (by decide)).trans ((hF1733.1 116 11 (by decide)).trans (hF1727.1 116 11 (by decide)))).trans e1677), (((hF1739.1 116 12 (by decide)).trans ((hF1733.1 116 12 (by decide)).trans (hF1727.1 116 12 (by decide)))).trans e1678), (((eA_c (hF1739.2.1 173 (by decide))).trans ((eA_c (hF1733.2.1 173 (by decide))).trans (eA_c (hF1727.2.1 173 (by decide))))).trans e1679), (((eA_c (hF1739.2.1 173 (by decide))).trans ((eA_c (hF1733.2.1 173 (by decide))).trans (eA_c (hF1727.2.1 173 (by decide))))).trans e1680), (w_p1 (by decide) (Or.inr rfl) e1681), (w_p1 (by decide) (Or.inr rfl) e1682), (w_e1 _ _ _), by omega⟩ ⟨by omega, by omega⟩
      have c1419_1 : a1.toInt = 1 := by omega
      refine q_aald (Sh.rar hI0.1 ka_58) (by decide) 1 (by omega) (by decide) (some 116) rfl ?_
      refine r_goto ?_
      refine At.enter rfl ?_
      refine q_aret ?_
      refine At.enter rfl ?_
      refine r_astore_n ([(2, .ref 116), (0, .ref 0), (1, .int a1)]) rfl ?_
      refine r_aload_n rfl ?_
      refine r_nnr ?_
      refine At.enter rfl ?_
      refine r_aload_n rfl ?_
      refine r_aload_n rfl ?_
      refine q_getR (Sh.ref hI0.1 kx_0 rfl) ?_
      refine q_inlV 24 rfl [.ref 116, .ref 1] [] (Nat.le_of_ble_eq_true rfl) rfl ?_
      refine Ev.mk rfl rfl ⟨Nat.le_of_ble_eq_true rfl, Or.inr (q_rc hI0.1 kx_116 rfl)⟩ ?_
      show At _ none _ _ (0, [(0, .ref 116), (1, .ref 1)], [], (_, _)) _
      refine At.enter rfl ?_
      refine r_aload_n rfl ?_
      refine r_aload_n rfl ?_
      obtain ⟨v1744, hv1744⟩ : ∃ v, gI g0 1 0 = v := ⟨_, rfl⟩
      have rv1744 := RgF.at hI0.2.1 (p := 1) (b := 0) rfl
      rw [hv1744] at rv1744
      dsimp only at rv1744
      refine q_getI (Sh.int hI0.1 kx_1 rfl) v1744 hv1744 ?_
      refine q_putI (Sh.int hI0.1 kx_116 rfl) rfl ?_
      have hI1745 := HI.wI1 hI0 kx_116 rfl (p := 116) (b := 0) (v := v1744) rfl (by dsimp only; omega)
      have hF1746 := Fr.wI (p := 116) (b := 0) (v := v1744) hF0 rfl
      refine r_aload_n rfl ?_
      refine q_getR (Sh.ref hI1745.1 kx_1 rfl) ?_
      refine r_iconst 0 rfl ?_
      refine r_aload_n rfl ?_
      refine q_getR (Sh.ref hI1745.1 kx_116 rfl) ?_
      refine r_iconst 0 rfl ?_
      refine r_bipush 12 rfl ?_
      have zv1747 : (0 : Int32).toInt = 0 := rfl
      have zv1748 : (0 : Int32).toInt = 0 := rfl
      have zv1749 : (12 : Int32).toInt = 12 := rfl
      refine q_cpy rfl (Nat.le_of_ble_eq_true rfl) (Sh.arr hI1745.1 ka_2) (Sh.arr hI1745.1 ka_117) ⟨by omega, by omega, by omega, by omega, by omega⟩ ?_
      have hI1750 := HI.cpy0 hI1745 ka_2 ka_117 rfl rfl ((0 : Int32).toInt.toNat) ((0 : Int32).toInt.toNat) ((12 : Int32).toInt.toNat) (by omega) (by omega)
      have hF1751 := Fr.cpy (p0 := 2) (p1 := 117) hF1746 rfl ((0 : Int32).toInt.toNat) ((0 : Int32).toInt.toNat) ((12 : Int32).toInt.toNat)
      refine r_aload_n rfl ?_
      refine q_getR (Sh.ref hI1750.1 kx_1 rfl) ?_
      refine r_iconst 0 rfl ?_
      refine r_aload_n rfl ?_
      refine q_getR (Sh.ref hI1750.1 kx_116 rfl) ?_
      refine r_iconst 0 rfl ?_
      refine r_bipush 12 rfl ?_
      have zv1752 : (0 : Int32).toInt = 0 := rfl
      have zv1753 : (0 : Int32).toInt = 0 := rfl
      have zv1754 : (12 : Int32).toInt = 12 := rfl
      refine q_cpy rfl (Nat.le_of_ble_eq_true rfl) (Sh.arr hI1750.1 ka_3) (Sh.arr hI1750.1 ka_118) ⟨by omega, by omega, by omega, by omega, by omega⟩ ?_
      have hI1755 := HI.cpy0 hI1750 ka_3 ka_118 rfl rfl ((0 : Int32).toInt.toNat) ((0 : Int32).toInt.toNat) ((12 : Int32).toInt.toNat) (by omega) (by omega)
      have hF1756 := Fr.cpy (p0 := 3) (p1 := 118) hF1751 rfl ((0 : Int32).toInt.toNat) ((0 : Int32).toInt.toNat) ((12 : Int32).toInt.toNat)
      refine r_aload_n rfl ?_
      refine q_getR (Sh.ref hI1755.1 kx_1 rfl) ?_
      refine r_iconst 0 rfl ?_
      refine r_aload_n rfl ?_
      refine q_getR (Sh.ref hI1755.1 kx_116 rfl) ?_
      refine r_iconst 0 rfl ?_
      refine r_bipush 12 rfl ?_
      have zv1757 : (0 : Int32).toInt = 0 := rfl
      have zv1758 : (0 : Int32).toInt = 0 := rfl
      have zv1759 : (12 : Int32).toInt = 12 := rfl
      refine q_cpy rfl (Nat.le_of_ble_eq_true rfl) (Sh.arr hI1755.1 ka_4) (Sh.arr hI1755.1 ka_119) ⟨by omega, by omega, by omega, by omega, by omega⟩ ?_
      have hI1760 := HI.cpy0 hI1755 ka_4 ka_119 rfl rfl ((0 : Int32).toInt.toNat) ((0 : Int32).toInt.toNat) ((12 : Int32).toInt.toNat) (by omega) (by omega)
      have hF1761 := Fr.cpy (p0 := 4) (p1 := 119) hF1756 rfl ((0 : Int32).toInt.toNat) ((0 : Int32).toInt.toNat) ((12 : Int32).toInt.toNat)
      refine r_aload_n rfl ?_
      refine r_aload_n rfl ?_
      obtain ⟨v1762, hv1762⟩ : ∃ v, gI g0 1 4 = v := ⟨_, rfl⟩
      have rv1762 := RgF.at hI0.2.1 (p := 1) (b := 4) rfl
      rw [hv1762] at rv1762
      dsimp only at rv1762
      refine q_getI (Sh.int hI1760.1 kx_1 rfl) v1762 (((gI_sW).trans ((gI_sW).trans ((gI_sW).trans (gI_sI_ne (by decide))))).trans hv1762) ?_
      refine q_putI (Sh.int hI1760.1 kx_116 rfl) rfl ?_
      have hI1763 := HI.wI1 hI1760 kx_116 rfl (p := 116) (b := 4) (v := v1762) rfl (by dsimp only; omega)
      have hF1764 := Fr.wI (p := 116) (b := 4) (v := v1762) hF1761 rfl
      refine r_aload_n rfl ?_
      refine q_getR (Sh.ref hI1763.1 kx_1 rfl) ?_
      refine r_iconst 0 rfl ?_
      refine r_aload_n rfl ?_
      refine q_getR (Sh.ref hI1763.1 kx_116 rfl) ?_
      refine r_iconst 0 rfl ?_
      refine r_bipush 48 rfl ?_
      have zv1765 : (0 : Int32).toInt = 0 := rfl
      have zv1766 : (0 : Int32).toInt = 0 := rfl
      have zv1767 : (48 : Int32).toInt = 48 := rfl
      refine q_cpy rfl (Nat.le_of_ble_eq_true rfl) (Sh.arr hI1763.1 ka_5) (Sh.arr hI1763.1 ka_120) ⟨by omega, by omega, by omega, by omega, by omega⟩ ?_
      have hI1768 := HI.cpy0 hI1763 ka_5 ka_120 rfl rfl ((0 : Int32).toInt.toNat) ((0 : Int32).toInt.toNat) ((48 : Int32).toInt.toNat) (by omega) (by omega)
      have hF1769 := Fr.cpy (p0 := 5) (p1 := 120) hF1764 rfl ((0 : Int32).toInt.toNat) ((0 : Int32).toInt.toNat) ((48 : Int32).toInt.toNat)
      refine r_aload_n rfl ?_
      refine r_aload_n rfl ?_
      obtain ⟨v1770, hv1770⟩ : ∃ v, gI g0 1 6 = v := ⟨_, rfl⟩
      have rv1770 := RgF.at hI0.2.1 (p := 1) (b := 6) rfl
      rw [hv1770] at rv1770
      dsimp only at rv1770
      refine q_getI (Sh.int hI1768.1 kx_1 rfl) v1770 (((gI_sW).trans ((gI_sI_ne (by decide)).trans ((gI_sW).trans ((gI_sW).trans ((gI_sW).trans (gI_sI_ne (by decide))))))).trans hv1770) ?_
      refine q_putI (Sh.int hI1768.1 kx_116 rfl) rfl ?_
      have hI1771 := HI.wI1 hI1768 kx_116 rfl (p := 116) (b := 6) (v := v1770) rfl (by dsimp only; omega)
      have hF1772 := Fr.wI (p := 116) (b := 6) (v := v1770) hF1769 rfl
      refine r_iconst 0 rfl ?_
      refine r_istore_n ([(2, .int 0), (0, .ref 116), (1, .ref 1)]) rfl ?_
      refine Ar.fall 86 rfl ?_
      obtain ⟨v1773, hv1773⟩ : ∃ v, gI g0 59 0 = v := ⟨_, rfl⟩
      have rv1773 := RgF.at hI0.2.1 (p := 59) (b := 0) rfl
      rw [hv1773] at rv1773
      dsimp only at rv1773
      have tv1773 := congrArg Int32.toInt hv1773
      obtain ⟨v1774, hv1774⟩ : ∃ v, gI g0 59 10 = v := ⟨_, rfl⟩
      have tv1774 := congrArg Int32.toInt hv1774
      obtain ⟨v1775, hv1775⟩ : ∃ v, gI g0 59 11 = v := ⟨_, rfl⟩
      have tv1775 := congrArg Int32.toInt hv1775
      obtain ⟨v1776, hv1776⟩ : ∃ v, gI g0 59 12 = v := ⟨_, rfl⟩
      have rv1776 := RgF.at hI0.2.1 (p := 59) (b := 12) rfl
      rw [hv1776] at rv1776
      dsimp only at rv1776
      have tv1776 := congrArg Int32.toInt hv1776
      obtain ⟨v1777, hv1777⟩ : ∃ v, gI g0 116 10 = v := ⟨_, rfl⟩
      have tv1777 := congrArg Int32.toInt hv1777
      obtain ⟨v1778, hv1778⟩ : ∃ v, gI g0 116 11 = v := ⟨_, rfl⟩
      have tv1778 := congrArg Int32.toInt hv1778
      obtain ⟨v1779, hv1779⟩ : ∃ v, gI g0 116 12 = v := ⟨_, rfl⟩
      have rv1779 := RgF.at hI0.2.1 (p := 116) (b := 12) rfl
      rw [hv1779] at rv1779
      dsimp only at rv1779
      have tv1779 := congrArg Int32.toInt hv1779
      obtain ⟨v1780, hv1780⟩ : ∃ v, eA g0 173 0 = v := ⟨_, rfl⟩
      have tv1780 := congrArg Int32.toInt hv1780
      obtain ⟨v1781, hv1781⟩ : ∃ v, eA g0 173 1 = v := ⟨_, rfl⟩
      have tv1781 := congrArg Int32.toInt hv1781
      have z_2009 : (0 : Int32).toInt = 0 := rfl
      refine w_loopI (fun n_ l_ g_ => ∃ x1988 : Int32, n_ = 6 - x1988.toInt ∧ HI g_ ∧ Fr F_X10_image_0 A_X10_image_0 g0 g_ ∧ gI g_ 59 0 = v1773 ∧ gI g_ 59 10 = v1774 ∧ gI g_ 59 11 = v1775 ∧ gI g_ 59 12 = v1776 ∧ gI g_ 116 0 = v1744 ∧ gI g_ 116 10 = v1777 ∧ gI g_ 116 11 = v1778 ∧ gI g_ 116 12 = v1779 ∧ eA g_ 173 0 = v1780 ∧ eA g_ 173 1 = v1781 ∧ en_get 0 l_ = some (.ref 116) ∧ en_get 1 l_ = some (.ref 1) ∧ en_get 2 l_ = some (.int x1988) ∧ (0 ≤ x1988.toInt ∧ x1988.toInt ≤ 6)) ?_ (6 - 0) ⟨0, by first | rfl | omega, hI1771, hF1772, (((gI_sI_ne (by decide)).trans ((gI_sW).trans ((gI_sI_ne (by decide)).trans ((gI_sW).trans ((gI_sW).trans ((gI_sW).trans (gI_sI_ne (by decide)))))))).trans hv1773), (((gI_sI_ne (by decide)).trans ((gI_sW).trans ((gI_sI_ne (by decide)).trans ((gI_sW).trans ((gI_sW).trans ((gI_sW).trans (gI_sI_ne (by decide)))))))).trans hv1774), (((gI_sI_ne (by decide)).trans ((gI_sW).trans ((gI_sI_ne (by decide)).trans ((gI_sW).trans ((gI_sW).trans ((gI_sW).trans (gI_sI_ne (by decide)))))))).trans hv1775), (((gI_sI_ne (by decide)).trans ((gI_sW).trans ((gI_sI_ne (by decide)).trans ((gI_sW).trans ((gI_sW).trans ((gI_sW).trans (gI_sI_ne (by decide)))))))).trans hv1776), ((gI_sI_ne (by decide)).trans ((gI_sW).trans ((gI_sI_ne (by decide)).trans ((gI_sW).trans ((gI_sW).trans ((gI_sW).trans (gI_sI_eq hI0.1 kx_116 rfl _))))))), (((gI_sI_ne (by decide)).trans ((gI_sW).trans ((gI_sI_ne (by decide)).trans ((gI_sW).trans ((gI_sW).trans ((gI_sW).trans (gI_sI_ne (by decide)))))))).trans hv1777), (((gI_sI_ne (by decide)).trans ((gI_sW).trans ((gI_sI_ne (by decide)).trans ((gI_sW).trans ((gI_sW).trans ((gI_sW).trans (gI_sI_ne (by decide)))))))).trans hv1778), (((gI_sI_ne (by decide)).trans ((gI_sW).trans ((gI_sI_ne (by decide)).trans ((gI_sW).trans ((gI_sW).trans ((gI_sW).trans (gI_sI_ne (by decide)))))))).trans hv1779), (((eA_c gA_sI).trans ((eA_c (gA_sW_ne (by decide))).trans ((eA_c gA_sI).trans ((eA_c (gA_sW_ne (by decide))).trans ((eA_c (gA_sW_ne (by decide))).trans ((eA_c (gA_sW_ne (by decide))).trans (eA_c gA_sI))))))).trans hv1780), (((eA_c gA_sI).trans ((eA_c (gA_sW_ne (by decide))).trans ((eA_c gA_sI).trans ((eA_c (gA_sW_ne (by decide))).trans ((eA_c (gA_sW_ne (by decide))).trans ((eA_c (gA_sW_ne (by decide))).trans (eA_c gA_sI))))))).trans hv1781), rfl, rfl, rfl, by decide⟩
      rintro n1993 l1992 g1989 ⟨x1988, hm2010, hI1990, hF1991, e1995, e1996, e1997, e1998, e1999, e2000, e2001, e2002, e2003, e2004, e2005, e2006, e2007, r2008⟩ ih1994
      have tv2011 := congrArg Int32.toInt e2003
      have tv2012 := congrArg Int32.toInt e2004
      have tv2013 := congrArg Int32.toInt e1995
      have tv2014 := congrArg Int32.toInt e1996
      have tv2015 := congrArg Int32.toInt e1997
      have tv2016 := congrArg Int32.toInt e1998
      have tv2017 := congrArg Int32.toInt e1999
      have tv2018 := congrArg Int32.toInt e2000
      have tv2019 := congrArg Int32.toInt e2001
      have tv2020 := congrArg Int32.toInt e2002
      refine At.enter rfl ?_
      refine r_iload_n e2007 ?_
      refine r_bipush 6 rfl ?_
      refine r_ics 92 rfl (fun c2021 => ?_) (fun c2021 => ?_)
      · have c2021_ : x1988.toInt ≥ 6 := en_i_ge_t c2021
        refine At.enter rfl ?_
        refine r_aload_n e2005 ?_
        refine r_aload_n e2006 ?_
        obtain ⟨v2022, hv2022⟩ : ∃ v, gI g0 1 9 = v := ⟨_, rfl⟩
        refine q_getI (Sh.int hI1990.1 kx_1 rfl) v2022 ((hF1991.1 1 9 (by decide)).trans hv2022) ?_
        refine q_putI (Sh.int hI1990.1 kx_116 rfl) rfl ?_
        have hI2023 := HI.wI0 hI1990 kx_116 rfl (p := 116) (b := 9) (v := v2022) rfl
        have hF2024 := Fr.wI (p := 116) (b := 9) (v := v2022) hF1991 rfl
        refine r_aload_n e2005 ?_
        refine r_aload_n e2006 ?_
        obtain ⟨v2025, hv2025⟩ : ∃ v, gI g0 1 10 = v := ⟨_, rfl⟩
        refine q_getI (Sh.int hI2023.1 kx_1 rfl) v2025 (((gI_sI_ne (by decide)).trans (hF1991.1 1 10 (by decide))).trans hv2025) ?_
        refine q_putI (Sh.int hI2023.1 kx_116 rfl) rfl ?_
        have hI2026 := HI.wI0 hI2023 kx_116 rfl (p := 116) (b := 10) (v := v2025) rfl
        have hF2027 := Fr.wI (p := 116) (b := 10) (v := v2025) hF2024 rfl
        refine r_aload_n e2005 ?_
        refine r_aload_n e2006 ?_
        obtain ⟨v2028, hv2028⟩ : ∃ v, gI g0 1 11 = v := ⟨_, rfl⟩
        refine q_getI (Sh.int hI2026.1 kx_1 rfl) v2028 (((gI_sI_ne (by decide)).trans ((gI_sI_ne (by decide)).trans (hF1991.1 1 11 (by decide)))).trans hv2028) ?_
        refine q_putI (Sh.int hI2026.1 kx_116 rfl) rfl ?_
        have hI2029 := HI.wI0 hI2026 kx_116 rfl (p := 116) (b := 11) (v := v2028) rfl
        have hF2030 := Fr.wI (p := 116) (b := 11) (v := v2028) hF2027 rfl
        refine r_aload_n e2005 ?_
        refine r_aload_n e2006 ?_
        obtain ⟨v2031, hv2031⟩ : ∃ v, gI g0 1 12 = v := ⟨_, rfl⟩
        have rv2031 := RgF.at hI0.2.1 (p := 1) (b := 12) rfl
        rw [hv2031] at rv2031
        dsimp only at rv2031
        refine q_getI (Sh.int hI2029.1 kx_1 rfl) v2031 (((gI_sI_ne (by decide)).trans ((gI_sI_ne (by decide)).trans ((gI_sI_ne (by decide)).trans (hF1991.1 1 12 (by decide))))).trans hv2031) ?_
        refine q_putI (Sh.int hI2029.1 kx_116 rfl) rfl ?_
        have hI2032 := HI.wI1 hI2029 kx_116 rfl (p := 116) (b := 12) (v := v2031) rfl (by dsimp only; omega)
        have hF2033 := Fr.wI (p := 116) (b := 12) (v := v2031) hF2030 rfl
        refine r_aload_n e2006 ?_
        refine q_getR (Sh.ref hI2032.1 kx_1 rfl) ?_
        refine r_iconst 0 rfl ?_
        refine r_aload_n e2005 ?_
        refine q_getR (Sh.ref hI2032.1 kx_116 rfl) ?_
        refine r_iconst 0 rfl ?_
        refine r_bipush 8 rfl ?_
        have zv2034 : (0 : Int32).toInt = 0 := rfl
        have zv2035 : (0 : Int32).toInt = 0 := rfl
        have zv2036 : (8 : Int32).toInt = 8 := rfl
        refine q_cpy rfl (Nat.le_of_ble_eq_true rfl) (Sh.arr hI2032.1 ka_14) (Sh.arr hI2032.1 ka_129) ⟨by omega, by omega, by omega, by omega, by omega⟩ ?_
        have hI2037 := HI.cpy0 hI2032 ka_14 ka_129 rfl rfl ((0 : Int32).toInt.toNat) ((0 : Int32).toInt.toNat) ((8 : Int32).toInt.toNat) (by omega) (by omega)
        have hF2038 := Fr.cpy (p0 := 14) (p1 := 129) hF2033 rfl ((0 : Int32).toInt.toNat) ((0 : Int32).toInt.toNat) ((8 : Int32).toInt.toNat)
        refine r_aload_n e2006 ?_
        refine q_getR (Sh.ref hI2037.1 kx_1 rfl) ?_
        refine r_iconst 0 rfl ?_
        refine r_aload_n e2005 ?_
        refine q_getR (Sh.ref hI2037.1 kx_116 rfl) ?_
        refine r_iconst 0 rfl ?_
        refine r_bipush 8 rfl ?_
        have zv2039 : (0 : Int32).toInt = 0 := rfl
        have zv2040 : (0 : Int32).toInt = 0 := rfl
        have zv2041 : (8 : Int32).toInt = 8 := rfl
        refine q_cpy rfl (Nat.le_of_ble_eq_true rfl) (Sh.arr hI2037.1 ka_15) (Sh.arr hI2037.1 ka_130) ⟨by omega, by omega, by omega, by omega, by omega⟩ ?_
        have hI2042 := HI.cpy0 hI2037 ka_15 ka_130 rfl rfl ((0 : Int32).toInt.toNat) ((0 : Int32).toInt.toNat) ((8 : Int32).toInt.toNat) (by omega) (by omega)
        have hF2043 := Fr.cpy (p0 := 15) (p1 := 130) hF2038 rfl ((0 : Int32).toInt.toNat) ((0 : Int32).toInt.toNat) ((8 : Int32).toInt.toNat)
        refine q_vret ?_
        refine At.enter rfl ?_
        refine r_aload_n rfl ?_
        refine q_getR (Sh.ref hI2042.1 kx_0 rfl) ?_
        refine r_iload_n rfl ?_
        refine r_iconst 1 rfl ?_
        refine q_bast (Sh.arr hI2042.1 ka_173) (a1.toInt) rfl (by omega) rfl ?_
        have hI2044 := HI.wA0 hI2042 ka_173 (p := 173) rfl rfl (a1.toInt) (1)
        have hF2045 := Fr.wA (p := 173) (j := a1.toInt) (v := 1) hF2043 rfl
        refine r_aload_n rfl ?_
        refine r_iconst 0 rfl ?_
        refine q_inlV 36 rfl [.ref 0, .int 0] [] (Nat.le_of_ble_eq_true rfl) rfl ?_
        refine Ev.mk rfl rfl ⟨Nat.le_of_ble_eq_true rfl, Or.inr (q_rc hI2044.1 kx_0 rfl)⟩ ?_
        show At _ none _ _ (0, [(0, .ref 0), (1, .int 0)], [], (_, _)) _
        refine At.enter rfl ?_
        refine r_aload_n rfl ?_
        refine r_iconst 0 rfl ?_
        refine q_putI (Sh.int hI2044.1 kx_0 rfl) rfl ?_
        have hI2046 := HI.wI0 hI2044 kx_0 rfl (p := 0) (b := 17) (v := 0) rfl
        have hF2047 := Fr.wI (p := 0) (b := 17) (v := 0) hF2045 rfl
        refine r_iload_n rfl ?_
        refine q_ireti ?_
        refine At.enter rfl ?_
        refine r_ireti ?_
        have zv2048 : (0 : Int32).toInt = 0 := rfl
        have e : a1.toInt = 1 := by omega
        exact ⟨_, rfl, hI2046, hF2047, _, rfl, by decide, ⟨(fun h => absurd (e.symm.trans h) (by decide)), (fun _ => ⟨(HI.eqA hI2046 (p := 173) (j := 0) ((((eA_c gA_sI).trans ((eA_sA_ne hI2042.1 ka_173 (by first | decide | omega) (by first | decide | omega) (by first | decide | omega)).trans ((eA_c (gA_sW_ne (by decide))).trans ((eA_c (gA_sW_ne (by decide))).trans ((eA_c gA_sI).trans ((eA_c gA_sI).trans ((eA_c gA_sI).trans (eA_c gA_sI)))))))).trans e2003))).trans (HI.eqA hI0 (p := 173) (j := 0) (hv1780)).symm, (HI.eqI hI2046 (p := 59) (b := 0) ((((gI_sI_ne (by decide)).trans ((gI_sW).trans ((gI_sW).trans ((gI_sW).trans ((gI_sI_ne (by decide)).trans ((gI_sI_ne (by decide)).trans ((gI_sI_ne (by decide)).trans (gI_sI_ne (by decide))))))))).trans e1995))).trans (HI.eqI hI0 (p := 59) (b := 0) (hv1773)).symm, (HI.eqI hI2046 (p := 59) (b := 12) ((((gI_sI_ne (by decide)).trans ((gI_sW).trans ((gI_sW).trans ((gI_sW).trans ((gI_sI_ne (by decide)).trans ((gI_sI_ne (by decide)).trans ((gI_sI_ne (by decide)).trans (gI_sI_ne (by decide))))))))).trans e1998))).trans (HI.eqI hI0 (p := 59) (b := 12) (hv1776)).symm, (HI.eqI hI2046 (p := 59) (b := 10) ((((gI_sI_ne (by decide)).trans ((gI_sW).trans ((gI_sW).trans ((gI_sW).trans ((gI_sI_ne (by decide)).trans ((gI_sI_ne (by decide)).trans ((gI_sI_ne (by decide)).trans (gI_sI_ne (by decide))))))))).trans e1996))).trans (HI.eqI hI0 (p := 59) (b := 10) (hv1774)).symm, (HI.eqI hI2046 (p := 59) (b := 11) ((((gI_sI_ne (by decide)).trans ((gI_sW).trans ((gI_sW).trans ((gI_sW).trans ((gI_sI_ne (by decide)).trans ((gI_sI_ne (by decide)).trans ((gI_sI_ne (by decide)).trans (gI_sI_ne (by decide))))))))).trans e1997))).trans (HI.eqI hI0 (p := 59) (b := 11) (hv1775)).symm⟩), (fun _ => ⟨(HI.eqA hI2046 (p := 173) (j := 1) (((eA_c gA_sI).trans (eA_sA_eq hI2042.1 ka_173 (by omega) (by first | decide | omega) (by first | decide | omega))))).trans rfl, (by first | rfl | decide), (HI.eqI hI2046 (p := 116) (b := 0) ((((gI_sI_ne (by decide)).trans ((gI_sW).trans ((gI_sW).trans ((gI_sW).trans ((gI_sI_ne (by decide)).trans ((gI_sI_ne (by decide)).trans ((gI_sI_ne (by decide)).trans (gI_sI_ne (by decide))))))))).trans e1999))).trans (HI.eqI hI0 (p := 1) (b := 0) (hv1744)).symm, (HI.eqI hI2046 (p := 116) (b := 12) (((gI_sI_ne (by decide)).trans ((gI_sW).trans ((gI_sW).trans ((gI_sW).trans (gI_sI_eq hI2029.1 kx_116 rfl _))))))).trans (HI.eqI hI0 (p := 1) (b := 12) (hv2031)).symm, (HI.eqI hI2046 (p := 116) (b := 10) (((gI_sI_ne (by decide)).trans ((gI_sW).trans ((gI_sW).trans ((gI_sW).trans ((gI_sI_ne (by decide)).trans ((gI_sI_ne (by decide)).trans (gI_sI_eq hI2023.1 kx_116 rfl _))))))))).trans (HI.eqI hI0 (p := 1) (b := 10) (hv2025)).symm, (HI.eqI hI2046 (p := 116) (b := 11) (((gI_sI_ne (by decide)).trans ((gI_sW).trans ((gI_sW).trans ((gI_sW).trans ((gI_sI_ne (by decide)).trans (gI_sI_eq hI2026.1 kx_116 rfl _)))))))).trans (HI.eqI hI0 (p := 1) (b := 11) (hv2028)).symm⟩), (fun h => absurd e h), (fun h => False.elim (by omega))⟩⟩
      · have c2021_ : x1988.toInt < 6 := en_i_ge_f c2021
        refine At.enter rfl ?_
        refine r_aload_n e2005 ?_
        refine r_iload_n e2007 ?_
        refine r_callV 97 rfl [.ref 116, .int x1988] [] (Nat.le_of_ble_eq_true rfl) rfl (T_X0_lawAt_116 _ hI1990 x1988) ?_
        rintro _ _ ⟨g2049, rfl, hI2050, hF2051, v2052, rfl, hr2053⟩
        refine At.str ?_
        have hF2054 := Fr.tr hF1991 hF2051 rfl rfl
        refine At.enter rfl ?_
        refine r_aload_n e2006 ?_
        refine r_iload_n e2007 ?_
        refine r_callV 102 rfl [.ref 1, .int x1988] [.ref (v2052)] (Nat.le_of_ble_eq_true rfl) rfl (T_X0_lawAt_1 _ hI2050 x1988) ?_
        rintro _ _ ⟨g2055, rfl, hI2056, hF2057, v2058, rfl, hr2059⟩
        refine At.str ?_
        have hF2060 := Fr.tr hF2054 hF2057 rfl rfl
        refine At.enter rfl ?_
        refine r_callV 105 rfl [.ref (v2052), .ref (v2058)] [] (Nat.le_of_ble_eq_true rfl) rfl (T_X4_become_law _ hI2056 (v2052) hr2053 (v2058) hr2059) ?_
        rintro _ _ ⟨g2061, rfl, hI2062, hF2063, rfl⟩
        refine At.stn ?_
        have hF2066 := Fr.tr hF2060 hF2063 rfl rfl
        refine At.enter rfl ?_
        refine q_iinc e2007 (x1988.toInt + 1) rfl (by omega) (fun v2067 hv2067 => ?_)
        refine r_goto ?_
        exact ih1994 (6 - v2067.toInt) _ _ ⟨v2067, by first | rfl | omega, hI2062, hF2066, (((hF2063.1 59 0 (by decide)).trans ((hF2057.1 59 0 (by decide)).trans (hF2051.1 59 0 (by decide)))).trans e1995), (((hF2063.1 59 10 (by decide)).trans ((hF2057.1 59 10 (by decide)).trans (hF2051.1 59 10 (by decide)))).trans e1996), (((hF2063.1 59 11 (by decide)).trans ((hF2057.1 59 11 (by decide)).trans (hF2051.1 59 11 (by decide)))).trans e1997), (((hF2063.1 59 12 (by decide)).trans ((hF2057.1 59 12 (by decide)).trans (hF2051.1 59 12 (by decide)))).trans e1998), (((hF2063.1 116 0 (by decide)).trans ((hF2057.1 116 0 (by decide)).trans (hF2051.1 116 0 (by decide)))).trans e1999), (((hF2063.1 116 10 (by decide)).trans ((hF2057.1 116 10 (by decide)).trans (hF2051.1 116 10 (by decide)))).trans e2000), (((hF2063.1 116 11 (by decide)).trans ((hF2057.1 116 11 (by decide)).trans (hF2051.1 116 11 (by decide)))).trans e2001), (((hF2063.1 116 12 (by decide)).trans ((hF2057.1 116 12 (by decide)).trans (hF2051.1 116 12 (by decide)))).trans e2002), (((eA_c (hF2063.2.1 173 (by decide))).trans ((eA_c (hF2057.2.1 173 (by decide))).trans (eA_c (hF2051.2.1 173 (by decide))))).trans e2003), (((eA_c (hF2063.2.1 173 (by decide))).trans ((eA_c (hF2057.2.1 173 (by decide))).trans (eA_c (hF2051.2.1 173 (by decide))))).trans e2004), (w_p1 (by decide) (Or.inr rfl) e2005), (w_p1 (by decide) (Or.inr rfl) e2006), (w_e1 _ _ _), by omega⟩ ⟨by omega, by omega⟩

def F_X10_back_0 : List (Nat × Nat) := [(0, 14), (0, 17), (1, 0), (1, 4), (1, 6), (1, 9), (1, 10), (1, 11), (1, 12), (7, 0), (7, 3), (7, 4), (16, 0), (16, 3), (16, 4), (23, 0), (23, 3), (23, 4), (30, 0), (30, 3), (30, 4), (37, 0), (37, 3), (37, 4), (44, 0), (44, 3), (44, 4), (51, 0), (51, 3), (51, 4), (65, 0), (65, 3), (65, 4), (74, 0), (74, 3), (74, 4), (81, 0), (81, 3), (81, 4), (88, 0), (88, 3), (88, 4), (95, 0), (95, 3), (95, 4), (102, 0), (102, 3), (102, 4), (109, 0), (109, 3), (109, 4), (122, 0), (122, 3), (122, 4), (131, 0), (131, 3), (131, 4), (138, 0), (138, 3), (138, 4), (145, 0), (145, 3), (145, 4), (152, 0), (152, 3), (152, 4), (159, 0), (159, 3), (159, 4), (166, 0), (166, 3), (166, 4), (177, 0), (177, 3), (177, 4), (220, 2), (222, 2), (223, 5), (223, 10)]
def A_X10_back_0 : List Nat := [2, 3, 4, 5, 8, 9, 10, 11, 12, 13, 14, 15, 17, 18, 19, 20, 21, 22, 24, 25, 26, 27, 28, 29, 31, 32, 33, 34, 35, 36, 38, 39, 40, 41, 42, 43, 45, 46, 47, 48, 49, 50, 52, 53, 54, 55, 56, 57, 66, 67, 68, 69, 70, 71, 75, 76, 77, 78, 79, 80, 82, 83, 84, 85, 86, 87, 89, 90, 91, 92, 93, 94, 96, 97, 98, 99, 100, 101, 103, 104, 105, 106, 107, 108, 110, 111, 112, 113, 114, 115, 123, 124, 125, 126, 127, 128, 132, 133, 134, 135, 136, 137, 139, 140, 141, 142, 143, 144, 146, 147, 148, 149, 150, 151, 153, 154, 155, 156, 157, 158, 160, 161, 162, 163, 164, 165, 167, 168, 169, 170, 171, 172, 178, 179, 180, 181, 182, 183, 230]
set_option maxRecDepth 100000 in
set_option maxHeartbeats 4000000 in
theorem T_X10_back_0 (d : Nat) {N : Nat} {g0 : List en_E} (hI0 : HI g0) (a1 : Int32) : Ev (d + 3) 141 [.ref 0, .int a1] (g0, N) (fun w h' => ∃ g', h' = (g', N) ∧ HI g' ∧ Fr F_X10_back_0 A_X10_back_0 g0 g' ∧ ∃ r : Int32, w = some (.int r) ∧ ((-2) ≤ r.toInt ∧ r.toInt ≤ 0) ∧ ((a1.toInt = 0 ∧ (eA g0 173 0).toInt ≠ 0 → r.toInt = 0 ∧ (gI g' 1 0).toInt = (gI g0 59 0).toInt ∧ (gI g' 1 12).toInt = (gI g0 59 12).toInt ∧ (gI g' 1 10).toInt = (gI g0 59 10).toInt ∧ (gI g' 1 11).toInt = (gI g0 59 11).toInt) ∧ (a1.toInt = 1 ∧ (eA g0 173 1).toInt ≠ 0 → r.toInt = 0 ∧ (gI g' 1 0).toInt = (gI g0 116 0).toInt ∧ (gI g' 1 12).toInt = (gI g0 116 12).toInt ∧ (gI g' 1 10).toInt = (gI g0 116 10).toInt ∧ (gI g' 1 11).toInt = (gI g0 116 11).toInt) ∧ (¬ (a1.toInt = 0 ∧ (eA g0 173 0).toInt ≠ 0) ∧ ¬ (a1.toInt = 1 ∧ (eA g0 173 1).toInt ≠ 0) → (gI g' 1 0).toInt = (gI g0 1 0).toInt ∧ (gI g' 1 12).toInt = (gI g0 1 12).toInt ∧ (gI g' 1 10).toInt = (gI g0 1 10).toInt ∧ (gI g' 1 11).toInt = (gI g0 1 11).toInt) ∧ (a1.toInt < 0 ∨ 1 < a1.toInt → r.toInt = -1) ∧ (0 ≤ a1.toInt ∧ a1.toInt ≤ 1 ∧ ¬ (a1.toInt = 0 ∧ (eA g0 173 0).toInt ≠ 0) ∧ ¬ (a1.toInt = 1 ∧ (eA g0 173 1).toInt ≠ 0) → r.toInt = -2))) := by
  have hF0 : Fr F_X10_back_0 A_X10_back_0 g0 g0 := Fr.rf
  refine Ev.mk rfl rfl ⟨Nat.le_of_ble_eq_true rfl, Or.inr (q_rc hI0.1 kx_0 rfl)⟩ ?_
  show At _ none _ _ (0, [(0, .ref 0), (1, .int a1)], [], (_, _)) _
  refine At.enter rfl ?_
  refine r_aload_n rfl ?_
  refine r_iload_n rfl ?_
  refine q_inlV 5 rfl [.ref 0, .int a1] [] (Nat.le_of_ble_eq_true rfl) rfl ?_
  refine Ev.mk rfl rfl ⟨Nat.le_of_ble_eq_true rfl, Or.inr (q_rc hI0.1 kx_0 rfl)⟩ ?_
  show At _ none _ _ (0, [(0, .ref 0), (1, .int a1)], [], (_, _)) _
  refine At.enter rfl ?_
  refine r_iload_n rfl ?_
  refine r_iconst 0 rfl ?_
  refine r_iconst 1 rfl ?_
  refine q_inlS 6 rfl [.int a1, .int 0, .int 1] [] (Nat.le_of_ble_eq_true rfl) rfl ?_
  refine Ev.mk rfl rfl ⟨Nat.le_of_ble_eq_true rfl, Or.inl rfl⟩ ?_
  show At _ none _ _ (0, [(0, .int a1), (1, .int 0), (2, .int 1)], [], (_, _)) _
  refine At.enter rfl ?_
  refine r_iload_n rfl ?_
  refine r_iload_n rfl ?_
  refine r_ics 5 rfl (fun c1303 => ?_) (fun c1303 => ?_)
  · have c1303_ : a1.toInt < 0 := en_i_lt_t c1303
    refine At.enter rfl ?_
    refine r_iconst 0 rfl ?_
    refine Ar.fall 15 rfl ?_
    refine At.enter rfl ?_
    refine q_iretz (by decide) ?_
    refine At.enter rfl ?_
    refine r_ift (by decide) ?_
    refine At.enter rfl ?_
    refine r_null ?_
    refine Ar.fall 19 rfl ?_
    refine At.enter rfl ?_
    refine q_zret ?_
    refine At.enter rfl ?_
    refine r_zstore_n ([(2, .null), (0, .ref 0), (1, .int a1)]) rfl ?_
    refine r_zload_n rfl ?_
    refine r_nnz 10 rfl ?_
    refine At.enter rfl ?_
    refine r_aload_n rfl ?_
    refine r_iconst (-1) rfl ?_
    refine r_callV 15 rfl [.ref 0, .int (-1)] [] (Nat.le_of_ble_eq_true rfl) rfl (T_X10_refused_0 _ hI0 (-1) (by decide)) ?_
    rintro _ _ ⟨g1304, rfl, hI1305, hF1306, v1307, rfl, hr1308⟩
    refine At.sti ?_
    have hF1309 := Fr.tr hF0 hF1306 rfl rfl
    have zv1310 : ((-1) : Int32).toInt = (-1) := rfl
    refine At.enter rfl ?_
    refine r_ireti ?_
    obtain ⟨v1311, hv1311⟩ : ∃ v, gI g0 1 0 = v := ⟨_, rfl⟩
    have rv1311 := RgF.at hI0.2.1 (p := 1) (b := 0) rfl
    rw [hv1311] at rv1311
    dsimp only at rv1311
    have tv1311 := congrArg Int32.toInt hv1311
    have x1312 := HI.eqI hI0 (p := 1) (b := 0) (hv1311)
    obtain ⟨v1313, hv1313⟩ : ∃ v, gI g0 1 12 = v := ⟨_, rfl⟩
    have rv1313 := RgF.at hI0.2.1 (p := 1) (b := 12) rfl
    rw [hv1313] at rv1313
    dsimp only at rv1313
    have tv1313 := congrArg Int32.toInt hv1313
    have x1314 := HI.eqI hI0 (p := 1) (b := 12) (hv1313)
    obtain ⟨v1315, hv1315⟩ : ∃ v, gI g0 1 10 = v := ⟨_, rfl⟩
    have tv1315 := congrArg Int32.toInt hv1315
    have x1316 := HI.eqI hI0 (p := 1) (b := 10) (hv1315)
    obtain ⟨v1317, hv1317⟩ : ∃ v, gI g0 1 11 = v := ⟨_, rfl⟩
    have tv1317 := congrArg Int32.toInt hv1317
    have x1318 := HI.eqI hI0 (p := 1) (b := 11) (hv1317)
    obtain ⟨v1319, hv1319⟩ : ∃ v, gI g0 59 0 = v := ⟨_, rfl⟩
    have rv1319 := RgF.at hI0.2.1 (p := 59) (b := 0) rfl
    rw [hv1319] at rv1319
    dsimp only at rv1319
    have tv1319 := congrArg Int32.toInt hv1319
    have x1320 := HI.eqI hI0 (p := 59) (b := 0) (hv1319)
    obtain ⟨v1321, hv1321⟩ : ∃ v, gI g0 59 12 = v := ⟨_, rfl⟩
    have rv1321 := RgF.at hI0.2.1 (p := 59) (b := 12) rfl
    rw [hv1321] at rv1321
    dsimp only at rv1321
    have tv1321 := congrArg Int32.toInt hv1321
    have x1322 := HI.eqI hI0 (p := 59) (b := 12) (hv1321)
    obtain ⟨v1323, hv1323⟩ : ∃ v, gI g0 59 10 = v := ⟨_, rfl⟩
    have tv1323 := congrArg Int32.toInt hv1323
    have x1324 := HI.eqI hI0 (p := 59) (b := 10) (hv1323)
    obtain ⟨v1325, hv1325⟩ : ∃ v, gI g0 59 11 = v := ⟨_, rfl⟩
    have tv1325 := congrArg Int32.toInt hv1325
    have x1326 := HI.eqI hI0 (p := 59) (b := 11) (hv1325)
    obtain ⟨v1327, hv1327⟩ : ∃ v, gI g0 116 0 = v := ⟨_, rfl⟩
    have rv1327 := RgF.at hI0.2.1 (p := 116) (b := 0) rfl
    rw [hv1327] at rv1327
    dsimp only at rv1327
    have tv1327 := congrArg Int32.toInt hv1327
    have x1328 := HI.eqI hI0 (p := 116) (b := 0) (hv1327)
    obtain ⟨v1329, hv1329⟩ : ∃ v, gI g0 116 12 = v := ⟨_, rfl⟩
    have rv1329 := RgF.at hI0.2.1 (p := 116) (b := 12) rfl
    rw [hv1329] at rv1329
    dsimp only at rv1329
    have tv1329 := congrArg Int32.toInt hv1329
    have x1330 := HI.eqI hI0 (p := 116) (b := 12) (hv1329)
    obtain ⟨v1331, hv1331⟩ : ∃ v, gI g0 116 10 = v := ⟨_, rfl⟩
    have tv1331 := congrArg Int32.toInt hv1331
    have x1332 := HI.eqI hI0 (p := 116) (b := 10) (hv1331)
    obtain ⟨v1333, hv1333⟩ : ∃ v, gI g0 116 11 = v := ⟨_, rfl⟩
    have tv1333 := congrArg Int32.toInt hv1333
    have x1334 := HI.eqI hI0 (p := 116) (b := 11) (hv1333)
    obtain ⟨v1335, hv1335⟩ : ∃ v, eA g0 173 0 = v := ⟨_, rfl⟩
    have tv1335 := congrArg Int32.toInt hv1335
    have x1336 := HI.eqA hI0 (p := 173) (j := 0) (hv1335)
    obtain ⟨v1337, hv1337⟩ : ∃ v, eA g0 173 1 = v := ⟨_, rfl⟩
    have tv1337 := congrArg Int32.toInt hv1337
    have x1338 := HI.eqA hI0 (p := 173) (j := 1) (hv1337)
    have x1339 := HI.eqI hI1305 (p := 1) (b := 0) (((hF1306.1 1 0 (by decide)).trans hv1311))
    have x1340 := HI.eqI hI1305 (p := 1) (b := 12) (((hF1306.1 1 12 (by decide)).trans hv1313))
    have x1341 := HI.eqI hI1305 (p := 1) (b := 10) (((hF1306.1 1 10 (by decide)).trans hv1315))
    have x1342 := HI.eqI hI1305 (p := 1) (b := 11) (((hF1306.1 1 11 (by decide)).trans hv1317))
    exact ⟨_, rfl, hI1305, hF1309, _, rfl, by omega, ⟨by omega, by omega, by omega, by omega, by omega⟩⟩
  · have c1303_ : a1.toInt ≥ 0 := en_i_lt_f c1303
    refine At.enter rfl ?_
    refine r_iload_n rfl ?_
    refine r_iload_n rfl ?_
    refine r_ics 10 rfl (fun c1343 => ?_) (fun c1343 => ?_)
    · have c1343_ : a1.toInt > 1 := en_i_gt_t c1343
      refine At.enter rfl ?_
      refine r_iconst 0 rfl ?_
      refine Ar.fall 15 rfl ?_
      refine At.enter rfl ?_
      refine q_iretz (by decide) ?_
      refine At.enter rfl ?_
      refine r_ift (by decide) ?_
      refine At.enter rfl ?_
      refine r_null ?_
      refine Ar.fall 19 rfl ?_
      refine At.enter rfl ?_
      refine q_zret ?_
      refine At.enter rfl ?_
      refine r_zstore_n ([(2, .null), (0, .ref 0), (1, .int a1)]) rfl ?_
      refine r_zload_n rfl ?_
      refine r_nnz 10 rfl ?_
      refine At.enter rfl ?_
      refine r_aload_n rfl ?_
      refine r_iconst (-1) rfl ?_
      refine r_callV 15 rfl [.ref 0, .int (-1)] [] (Nat.le_of_ble_eq_true rfl) rfl (T_X10_refused_0 _ hI0 (-1) (by decide)) ?_
      rintro _ _ ⟨g1344, rfl, hI1345, hF1346, v1347, rfl, hr1348⟩
      refine At.sti ?_
      have hF1349 := Fr.tr hF0 hF1346 rfl rfl
      have zv1350 : ((-1) : Int32).toInt = (-1) := rfl
      refine At.enter rfl ?_
      refine r_ireti ?_
      obtain ⟨v1351, hv1351⟩ : ∃ v, gI g0 1 0 = v := ⟨_, rfl⟩
      have rv1351 := RgF.at hI0.2.1 (p := 1) (b := 0) rfl
      rw [hv1351] at rv1351
      dsimp only at rv1351
      have tv1351 := congrArg Int32.toInt hv1351
      have x1352 := HI.eqI hI0 (p := 1) (b := 0) (hv1351)
      obtain ⟨v1353, hv1353⟩ : ∃ v, gI g0 1 12 = v := ⟨_, rfl⟩
      have rv1353 := RgF.at hI0.2.1 (p := 1) (b := 12) rfl
      rw [hv1353] at rv1353
      dsimp only at rv1353
      have tv1353 := congrArg Int32.toInt hv1353
      have x1354 := HI.eqI hI0 (p := 1) (b := 12) (hv1353)
      obtain ⟨v1355, hv1355⟩ : ∃ v, gI g0 1 10 = v := ⟨_, rfl⟩
      have tv1355 := congrArg Int32.toInt hv1355
      have x1356 := HI.eqI hI0 (p := 1) (b := 10) (hv1355)
      obtain ⟨v1357, hv1357⟩ : ∃ v, gI g0 1 11 = v := ⟨_, rfl⟩
      have tv1357 := congrArg Int32.toInt hv1357
      have x1358 := HI.eqI hI0 (p := 1) (b := 11) (hv1357)
      obtain ⟨v1359, hv1359⟩ : ∃ v, gI g0 59 0 = v := ⟨_, rfl⟩
      have rv1359 := RgF.at hI0.2.1 (p := 59) (b := 0) rfl
      rw [hv1359] at rv1359
      dsimp only at rv1359
      have tv1359 := congrArg Int32.toInt hv1359
      have x1360 := HI.eqI hI0 (p := 59) (b := 0) (hv1359)
      obtain ⟨v1361, hv1361⟩ : ∃ v, gI g0 59 12 = v := ⟨_, rfl⟩
      have rv1361 := RgF.at hI0.2.1 (p := 59) (b := 12) rfl
      rw [hv1361] at rv1361
      dsimp only at rv1361
      have tv1361 := congrArg Int32.toInt hv1361
      have x1362 := HI.eqI hI0 (p := 59) (b := 12) (hv1361)
      obtain ⟨v1363, hv1363⟩ : ∃ v, gI g0 59 10 = v := ⟨_, rfl⟩
      have tv1363 := congrArg Int32.toInt hv1363
      have x1364 := HI.eqI hI0 (p := 59) (b := 10) (hv1363)
      obtain ⟨v1365, hv1365⟩ : ∃ v, gI g0 59 11 = v := ⟨_, rfl⟩
      have tv1365 := congrArg Int32.toInt hv1365
      have x1366 := HI.eqI hI0 (p := 59) (b := 11) (hv1365)
      obtain ⟨v1367, hv1367⟩ : ∃ v, gI g0 116 0 = v := ⟨_, rfl⟩
      have rv1367 := RgF.at hI0.2.1 (p := 116) (b := 0) rfl
      rw [hv1367] at rv1367
      dsimp only at rv1367
      have tv1367 := congrArg Int32.toInt hv1367
      have x1368 := HI.eqI hI0 (p := 116) (b := 0) (hv1367)
      obtain ⟨v1369, hv1369⟩ : ∃ v, gI g0 116 12 = v := ⟨_, rfl⟩
      have rv1369 := RgF.at hI0.2.1 (p := 116) (b := 12) rfl
      rw [hv1369] at rv1369
      dsimp only at rv1369
      have tv1369 := congrArg Int32.toInt hv1369
      have x1370 := HI.eqI hI0 (p := 116) (b := 12) (hv1369)
      obtain ⟨v1371, hv1371⟩ : ∃ v, gI g0 116 10 = v := ⟨_, rfl⟩
      have tv1371 := congrArg Int32.toInt hv1371
      have x1372 := HI.eqI hI0 (p := 116) (b := 10) (hv1371)
      obtain ⟨v1373, hv1373⟩ : ∃ v, gI g0 116 11 = v := ⟨_, rfl⟩
      have tv1373 := congrArg Int32.toInt hv1373
      have x1374 := HI.eqI hI0 (p := 116) (b := 11) (hv1373)
      obtain ⟨v1375, hv1375⟩ : ∃ v, eA g0 173 0 = v := ⟨_, rfl⟩
      have tv1375 := congrArg Int32.toInt hv1375
      have x1376 := HI.eqA hI0 (p := 173) (j := 0) (hv1375)
      obtain ⟨v1377, hv1377⟩ : ∃ v, eA g0 173 1 = v := ⟨_, rfl⟩
      have tv1377 := congrArg Int32.toInt hv1377
      have x1378 := HI.eqA hI0 (p := 173) (j := 1) (hv1377)
      have x1379 := HI.eqI hI1345 (p := 1) (b := 0) (((hF1346.1 1 0 (by decide)).trans hv1351))
      have x1380 := HI.eqI hI1345 (p := 1) (b := 12) (((hF1346.1 1 12 (by decide)).trans hv1353))
      have x1381 := HI.eqI hI1345 (p := 1) (b := 10) (((hF1346.1 1 10 (by decide)).trans hv1355))
      have x1382 := HI.eqI hI1345 (p := 1) (b := 11) (((hF1346.1 1 11 (by decide)).trans hv1357))
      exact ⟨_, rfl, hI1345, hF1349, _, rfl, by omega, ⟨by omega, by omega, by omega, by omega, by omega⟩⟩
    · have c1343_ : a1.toInt ≤ 1 := en_i_gt_f c1343
      refine At.enter rfl ?_
      refine r_iconst 1 rfl ?_
      refine r_goto ?_
      refine At.enter rfl ?_
      refine q_iretz (by decide) ?_
      refine At.enter rfl ?_
      refine r_iff 9 rfl (by decide) ?_
      refine At.enter rfl ?_
      refine r_aload_n rfl ?_
      refine q_getR (Sh.ref hI0.1 kx_0 rfl) ?_
      refine r_iload_n rfl ?_
      by_cases c1383_0 : a1.toInt = 0
      · refine q_aald (Sh.rar hI0.1 ka_58) (by decide) 0 (by omega) (by decide) (some 59) rfl ?_
        refine r_goto ?_
        refine At.enter rfl ?_
        refine q_aret ?_
        refine At.enter rfl ?_
        refine r_astore_n ([(2, .ref 59), (0, .ref 0), (1, .int a1)]) rfl ?_
        refine r_aload_n rfl ?_
        refine r_nnr ?_
        refine At.enter rfl ?_
        refine r_aload_n rfl ?_
        refine q_getR (Sh.ref hI0.1 kx_0 rfl) ?_
        refine r_iload_n rfl ?_
        obtain ⟨v1384, hv1384⟩ : ∃ v, eA g0 173 a1.toInt = v := ⟨_, rfl⟩
        refine q_bald (Sh.arr hI0.1 ka_173) a1.toInt rfl (by omega) v1384 hv1384 ?_
        refine r_ifs 25 rfl (fun c1385 => ?_) (fun c1385 => ?_)
        · have c1385_ : v1384.toInt ≠ 0 := en_k_ne_t c1385
          refine At.enter rfl ?_
          refine r_aload_n rfl ?_
          refine q_getR (Sh.ref hI0.1 kx_0 rfl) ?_
          refine r_aload_n rfl ?_
          refine q_inlV 40 rfl [.ref 1, .ref 59] [] (Nat.le_of_ble_eq_true rfl) rfl ?_
          refine Ev.mk rfl rfl ⟨Nat.le_of_ble_eq_true rfl, Or.inr (q_rc hI0.1 kx_1 rfl)⟩ ?_
          show At _ none _ _ (0, [(0, .ref 1), (1, .ref 59)], [], (_, _)) _
          refine At.enter rfl ?_
          refine r_aload_n rfl ?_
          refine r_aload_n rfl ?_
          obtain ⟨v1386, hv1386⟩ : ∃ v, gI g0 59 0 = v := ⟨_, rfl⟩
          have rv1386 := RgF.at hI0.2.1 (p := 59) (b := 0) rfl
          rw [hv1386] at rv1386
          dsimp only at rv1386
          refine q_getI (Sh.int hI0.1 kx_59 rfl) v1386 hv1386 ?_
          refine q_putI (Sh.int hI0.1 kx_1 rfl) rfl ?_
          have hI1387 := HI.wI1 hI0 kx_1 rfl (p := 1) (b := 0) (v := v1386) rfl (by dsimp only; omega)
          have hF1388 := Fr.wI (p := 1) (b := 0) (v := v1386) hF0 rfl
          refine r_aload_n rfl ?_
          refine q_getR (Sh.ref hI1387.1 kx_59 rfl) ?_
          refine r_iconst 0 rfl ?_
          refine r_aload_n rfl ?_
          refine q_getR (Sh.ref hI1387.1 kx_1 rfl) ?_
          refine r_iconst 0 rfl ?_
          refine r_bipush 12 rfl ?_
          have zv1389 : (0 : Int32).toInt = 0 := rfl
          have zv1390 : (0 : Int32).toInt = 0 := rfl
          have zv1391 : (12 : Int32).toInt = 12 := rfl
          refine q_cpy rfl (Nat.le_of_ble_eq_true rfl) (Sh.arr hI1387.1 ka_60) (Sh.arr hI1387.1 ka_2) ⟨by omega, by omega, by omega, by omega, by omega⟩ ?_
          have hI1392 := HI.cpy0 hI1387 ka_60 ka_2 rfl rfl ((0 : Int32).toInt.toNat) ((0 : Int32).toInt.toNat) ((12 : Int32).toInt.toNat) (by omega) (by omega)
          have hF1393 := Fr.cpy (p0 := 60) (p1 := 2) hF1388 rfl ((0 : Int32).toInt.toNat) ((0 : Int32).toInt.toNat) ((12 : Int32).toInt.toNat)
          refine r_aload_n rfl ?_
          refine q_getR (Sh.ref hI1392.1 kx_59 rfl) ?_
          refine r_iconst 0 rfl ?_
          refine r_aload_n rfl ?_
          refine q_getR (Sh.ref hI1392.1 kx_1 rfl) ?_
          refine r_iconst 0 rfl ?_
          refine r_bipush 12 rfl ?_
          have zv1394 : (0 : Int32).toInt = 0 := rfl
          have zv1395 : (0 : Int32).toInt = 0 := rfl
          have zv1396 : (12 : Int32).toInt = 12 := rfl
          refine q_cpy rfl (Nat.le_of_ble_eq_true rfl) (Sh.arr hI1392.1 ka_61) (Sh.arr hI1392.1 ka_3) ⟨by omega, by omega, by omega, by omega, by omega⟩ ?_
          have hI1397 := HI.cpy0 hI1392 ka_61 ka_3 rfl rfl ((0 : Int32).toInt.toNat) ((0 : Int32).toInt.toNat) ((12 : Int32).toInt.toNat) (by omega) (by omega)
          have hF1398 := Fr.cpy (p0 := 61) (p1 := 3) hF1393 rfl ((0 : Int32).toInt.toNat) ((0 : Int32).toInt.toNat) ((12 : Int32).toInt.toNat)
          refine r_aload_n rfl ?_
          refine q_getR (Sh.ref hI1397.1 kx_59 rfl) ?_
          refine r_iconst 0 rfl ?_
          refine r_aload_n rfl ?_
          refine q_getR (Sh.ref hI1397.1 kx_1 rfl) ?_
          refine r_iconst 0 rfl ?_
          refine r_bipush 12 rfl ?_
          have zv1399 : (0 : Int32).toInt = 0 := rfl
          have zv1400 : (0 : Int32).toInt = 0 := rfl
          have zv1401 : (12 : Int32).toInt = 12 := rfl
          refine q_cpy rfl (Nat.le_of_ble_eq_true rfl) (Sh.arr hI1397.1 ka_62) (Sh.arr hI1397.1 ka_4) ⟨by omega, by omega, by omega, by omega, by omega⟩ ?_
          have hI1402 := HI.cpy0 hI1397 ka_62 ka_4 rfl rfl ((0 : Int32).toInt.toNat) ((0 : Int32).toInt.toNat) ((12 : Int32).toInt.toNat) (by omega) (by omega)
          have hF1403 := Fr.cpy (p0 := 62) (p1 := 4) hF1398 rfl ((0 : Int32).toInt.toNat) ((0 : Int32).toInt.toNat) ((12 : Int32).toInt.toNat)
          refine r_aload_n rfl ?_
          refine r_aload_n rfl ?_
          obtain ⟨v1404, hv1404⟩ : ∃ v, gI g0 59 4 = v := ⟨_, rfl⟩
          have rv1404 := RgF.at hI0.2.1 (p := 59) (b := 4) rfl
          rw [hv1404] at rv1404
          dsimp only at rv1404
          refine q_getI (Sh.int hI1402.1 kx_59 rfl) v1404 (((gI_sW).trans ((gI_sW).trans ((gI_sW).trans (gI_sI_ne (by decide))))).trans hv1404) ?_
          refine q_putI (Sh.int hI1402.1 kx_1 rfl) rfl ?_
          have hI1405 := HI.wI1 hI1402 kx_1 rfl (p := 1) (b := 4) (v := v1404) rfl (by dsimp only; omega)
          have hF1406 := Fr.wI (p := 1) (b := 4) (v := v1404) hF1403 rfl
          refine r_aload_n rfl ?_
          refine q_getR (Sh.ref hI1405.1 kx_59 rfl) ?_
          refine r_iconst 0 rfl ?_
          refine r_aload_n rfl ?_
          refine q_getR (Sh.ref hI1405.1 kx_1 rfl) ?_
          refine r_iconst 0 rfl ?_
          refine r_bipush 48 rfl ?_
          have zv1407 : (0 : Int32).toInt = 0 := rfl
          have zv1408 : (0 : Int32).toInt = 0 := rfl
          have zv1409 : (48 : Int32).toInt = 48 := rfl
          refine q_cpy rfl (Nat.le_of_ble_eq_true rfl) (Sh.arr hI1405.1 ka_63) (Sh.arr hI1405.1 ka_5) ⟨by omega, by omega, by omega, by omega, by omega⟩ ?_
          have hI1410 := HI.cpy0 hI1405 ka_63 ka_5 rfl rfl ((0 : Int32).toInt.toNat) ((0 : Int32).toInt.toNat) ((48 : Int32).toInt.toNat) (by omega) (by omega)
          have hF1411 := Fr.cpy (p0 := 63) (p1 := 5) hF1406 rfl ((0 : Int32).toInt.toNat) ((0 : Int32).toInt.toNat) ((48 : Int32).toInt.toNat)
          refine r_aload_n rfl ?_
          refine r_aload_n rfl ?_
          obtain ⟨v1412, hv1412⟩ : ∃ v, gI g0 59 6 = v := ⟨_, rfl⟩
          have rv1412 := RgF.at hI0.2.1 (p := 59) (b := 6) rfl
          rw [hv1412] at rv1412
          dsimp only at rv1412
          refine q_getI (Sh.int hI1410.1 kx_59 rfl) v1412 (((gI_sW).trans ((gI_sI_ne (by decide)).trans ((gI_sW).trans ((gI_sW).trans ((gI_sW).trans (gI_sI_ne (by decide))))))).trans hv1412) ?_
          refine q_putI (Sh.int hI1410.1 kx_1 rfl) rfl ?_
          have hI1413 := HI.wI1 hI1410 kx_1 rfl (p := 1) (b := 6) (v := v1412) rfl (by dsimp only; omega)
          have hF1414 := Fr.wI (p := 1) (b := 6) (v := v1412) hF1411 rfl
          refine r_iconst 0 rfl ?_
          refine r_istore_n ([(2, .int 0), (0, .ref 1), (1, .ref 59)]) rfl ?_
          refine Ar.fall 86 rfl ?_
          have z_1641 : (0 : Int32).toInt = 0 := rfl
          refine w_loopI (fun n_ l_ g_ => ∃ x1629 : Int32, n_ = 6 - x1629.toInt ∧ HI g_ ∧ Fr F_X10_back_0 A_X10_back_0 g0 g_ ∧ gI g_ 1 0 = v1386 ∧ en_get 0 l_ = some (.ref 1) ∧ en_get 1 l_ = some (.ref 59) ∧ en_get 2 l_ = some (.int x1629) ∧ (0 ≤ x1629.toInt ∧ x1629.toInt ≤ 6)) ?_ (6 - 0) ⟨0, by first | rfl | omega, hI1413, hF1414, ((gI_sI_ne (by decide)).trans ((gI_sW).trans ((gI_sI_ne (by decide)).trans ((gI_sW).trans ((gI_sW).trans ((gI_sW).trans (gI_sI_eq hI0.1 kx_1 rfl _))))))), rfl, rfl, rfl, by decide⟩
          rintro n1634 l1633 g1630 ⟨x1629, hm1642, hI1631, hF1632, e1636, e1637, e1638, e1639, r1640⟩ ih1635
          have tv1643 := congrArg Int32.toInt e1636
          refine At.enter rfl ?_
          refine r_iload_n e1639 ?_
          refine r_bipush 6 rfl ?_
          refine r_ics 92 rfl (fun c1644 => ?_) (fun c1644 => ?_)
          · have c1644_ : x1629.toInt ≥ 6 := en_i_ge_t c1644
            refine At.enter rfl ?_
            refine r_aload_n e1637 ?_
            refine r_aload_n e1638 ?_
            obtain ⟨v1645, hv1645⟩ : ∃ v, gI g0 59 9 = v := ⟨_, rfl⟩
            refine q_getI (Sh.int hI1631.1 kx_59 rfl) v1645 ((hF1632.1 59 9 (by decide)).trans hv1645) ?_
            refine q_putI (Sh.int hI1631.1 kx_1 rfl) rfl ?_
            have hI1646 := HI.wI0 hI1631 kx_1 rfl (p := 1) (b := 9) (v := v1645) rfl
            have hF1647 := Fr.wI (p := 1) (b := 9) (v := v1645) hF1632 rfl
            refine r_aload_n e1637 ?_
            refine r_aload_n e1638 ?_
            obtain ⟨v1648, hv1648⟩ : ∃ v, gI g0 59 10 = v := ⟨_, rfl⟩
            refine q_getI (Sh.int hI1646.1 kx_59 rfl) v1648 (((gI_sI_ne (by decide)).trans (hF1632.1 59 10 (by decide))).trans hv1648) ?_
            refine q_putI (Sh.int hI1646.1 kx_1 rfl) rfl ?_
            have hI1649 := HI.wI0 hI1646 kx_1 rfl (p := 1) (b := 10) (v := v1648) rfl
            have hF1650 := Fr.wI (p := 1) (b := 10) (v := v1648) hF1647 rfl
            refine r_aload_n e1637 ?_
            refine r_aload_n e1638 ?_
            obtain ⟨v1651, hv1651⟩ : ∃ v, gI g0 59 11 = v := ⟨_, rfl⟩
            refine q_getI (Sh.int hI1649.1 kx_59 rfl) v1651 (((gI_sI_ne (by decide)).trans ((gI_sI_ne (by decide)).trans (hF1632.1 59 11 (by decide)))).trans hv1651) ?_
            refine q_putI (Sh.int hI1649.1 kx_1 rfl) rfl ?_
            have hI1652 := HI.wI0 hI1649 kx_1 rfl (p := 1) (b := 11) (v := v1651) rfl
            have hF1653 := Fr.wI (p := 1) (b := 11) (v := v1651) hF1650 rfl
            refine r_aload_n e1637 ?_
            refine r_aload_n e1638 ?_
            obtain ⟨v1654, hv1654⟩ : ∃ v, gI g0 59 12 = v := ⟨_, rfl⟩
            have rv1654 := RgF.at hI0.2.1 (p := 59) (b := 12) rfl
            rw [hv1654] at rv1654
            dsimp only at rv1654
            refine q_getI (Sh.int hI1652.1 kx_59 rfl) v1654 (((gI_sI_ne (by decide)).trans ((gI_sI_ne (by decide)).trans ((gI_sI_ne (by decide)).trans (hF1632.1 59 12 (by decide))))).trans hv1654) ?_
            refine q_putI (Sh.int hI1652.1 kx_1 rfl) rfl ?_
            have hI1655 := HI.wI1 hI1652 kx_1 rfl (p := 1) (b := 12) (v := v1654) rfl (by dsimp only; omega)
            have hF1656 := Fr.wI (p := 1) (b := 12) (v := v1654) hF1653 rfl
            refine r_aload_n e1638 ?_
            refine q_getR (Sh.ref hI1655.1 kx_59 rfl) ?_
            refine r_iconst 0 rfl ?_
            refine r_aload_n e1637 ?_
            refine q_getR (Sh.ref hI1655.1 kx_1 rfl) ?_
            refine r_iconst 0 rfl ?_
            refine r_bipush 8 rfl ?_
            have zv1657 : (0 : Int32).toInt = 0 := rfl
            have zv1658 : (0 : Int32).toInt = 0 := rfl
            have zv1659 : (8 : Int32).toInt = 8 := rfl
            refine q_cpy rfl (Nat.le_of_ble_eq_true rfl) (Sh.arr hI1655.1 ka_72) (Sh.arr hI1655.1 ka_14) ⟨by omega, by omega, by omega, by omega, by omega⟩ ?_
            have hI1660 := HI.cpy0 hI1655 ka_72 ka_14 rfl rfl ((0 : Int32).toInt.toNat) ((0 : Int32).toInt.toNat) ((8 : Int32).toInt.toNat) (by omega) (by omega)
            have hF1661 := Fr.cpy (p0 := 72) (p1 := 14) hF1656 rfl ((0 : Int32).toInt.toNat) ((0 : Int32).toInt.toNat) ((8 : Int32).toInt.toNat)
            refine r_aload_n e1638 ?_
            refine q_getR (Sh.ref hI1660.1 kx_59 rfl) ?_
            refine r_iconst 0 rfl ?_
            refine r_aload_n e1637 ?_
            refine q_getR (Sh.ref hI1660.1 kx_1 rfl) ?_
            refine r_iconst 0 rfl ?_
            refine r_bipush 8 rfl ?_
            have zv1662 : (0 : Int32).toInt = 0 := rfl
            have zv1663 : (0 : Int32).toInt = 0 := rfl
            have zv1664 : (8 : Int32).toInt = 8 := rfl
            refine q_cpy rfl (Nat.le_of_ble_eq_true rfl) (Sh.arr hI1660.1 ka_73) (Sh.arr hI1660.1 ka_15) ⟨by omega, by omega, by omega, by omega, by omega⟩ ?_
            have hI1665 := HI.cpy0 hI1660 ka_73 ka_15 rfl rfl ((0 : Int32).toInt.toNat) ((0 : Int32).toInt.toNat) ((8 : Int32).toInt.toNat) (by omega) (by omega)
            have hF1666 := Fr.cpy (p0 := 73) (p1 := 15) hF1661 rfl ((0 : Int32).toInt.toNat) ((0 : Int32).toInt.toNat) ((8 : Int32).toInt.toNat)
            refine q_vret ?_
            refine At.enter rfl ?_
            refine r_aload_n rfl ?_
            refine r_callV 44 rfl [.ref 0] [] (Nat.le_of_ble_eq_true rfl) rfl (T_X10_changed_0 _ hI1665) ?_
            rintro _ _ ⟨g1667, rfl, hI1668, hF1669, rfl⟩
            refine At.stn ?_
            have hF1672 := Fr.tr hF1666 hF1669 rfl rfl
            refine At.enter rfl ?_
            refine r_aload_n rfl ?_
            refine r_iconst 0 rfl ?_
            refine q_inlV 49 rfl [.ref 0, .int 0] [] (Nat.le_of_ble_eq_true rfl) rfl ?_
            refine Ev.mk rfl rfl ⟨Nat.le_of_ble_eq_true rfl, Or.inr (q_rc hI1668.1 kx_0 rfl)⟩ ?_
            show At _ none _ _ (0, [(0, .ref 0), (1, .int 0)], [], (_, _)) _
            refine At.enter rfl ?_
            refine r_aload_n rfl ?_
            refine r_iconst 0 rfl ?_
            refine q_putI (Sh.int hI1668.1 kx_0 rfl) rfl ?_
            have hI1673 := HI.wI0 hI1668 kx_0 rfl (p := 0) (b := 17) (v := 0) rfl
            have hF1674 := Fr.wI (p := 0) (b := 17) (v := 0) hF1672 rfl
            refine r_iload_n rfl ?_
            refine q_ireti ?_
            refine At.enter rfl ?_
            refine r_ireti ?_
            have zv1675 : (0 : Int32).toInt = 0 := rfl
            have e : a1.toInt = 0 := by omega
            have k1676_ : (eA g0 173 0).toInt = v1384.toInt := by rw [← hv1384, e]
            have k1676 : (eA g0 173 0).toInt ≠ 0 := by omega
            exact ⟨_, rfl, hI1673, hF1674, _, rfl, by decide, ⟨(fun _ => ⟨(by first | rfl | decide), (HI.eqI hI1673 (p := 1) (b := 0) ((((gI_sI_ne (by decide)).trans ((hF1669.1 1 0 (by decide)).trans ((gI_sW).trans ((gI_sW).trans ((gI_sI_ne (by decide)).trans ((gI_sI_ne (by decide)).trans ((gI_sI_ne (by decide)).trans (gI_sI_ne (by decide))))))))).trans e1636))).trans (HI.eqI hI0 (p := 59) (b := 0) (hv1386)).symm, (HI.eqI hI1673 (p := 1) (b := 12) (((gI_sI_ne (by decide)).trans ((hF1669.1 1 12 (by decide)).trans ((gI_sW).trans ((gI_sW).trans (gI_sI_eq hI1652.1 kx_1 rfl _))))))).trans (HI.eqI hI0 (p := 59) (b := 12) (hv1654)).symm, (HI.eqI hI1673 (p := 1) (b := 10) (((gI_sI_ne (by decide)).trans ((hF1669.1 1 10 (by decide)).trans ((gI_sW).trans ((gI_sW).trans ((gI_sI_ne (by decide)).trans ((gI_sI_ne (by decide)).trans (gI_sI_eq hI1646.1 kx_1 rfl _))))))))).trans (HI.eqI hI0 (p := 59) (b := 10) (hv1648)).symm, (HI.eqI hI1673 (p := 1) (b := 11) (((gI_sI_ne (by decide)).trans ((hF1669.1 1 11 (by decide)).trans ((gI_sW).trans ((gI_sW).trans ((gI_sI_ne (by decide)).trans (gI_sI_eq hI1649.1 kx_1 rfl _)))))))).trans (HI.eqI hI0 (p := 59) (b := 11) (hv1651)).symm⟩), (fun h => absurd (e.symm.trans h.1) (by decide)), (fun h => absurd ⟨e, k1676⟩ h.1), (fun h => False.elim (by omega)), (fun h => absurd ⟨e, k1676⟩ h.2.2.1)⟩⟩
          · have c1644_ : x1629.toInt < 6 := en_i_ge_f c1644
            refine At.enter rfl ?_
            refine r_aload_n e1637 ?_
            refine r_iload_n e1639 ?_
            refine r_callV 97 rfl [.ref 1, .int x1629] [] (Nat.le_of_ble_eq_true rfl) rfl (T_X0_lawAt_1 _ hI1631 x1629) ?_
            rintro _ _ ⟨g1677, rfl, hI1678, hF1679, v1680, rfl, hr1681⟩
            refine At.str ?_
            have hF1682 := Fr.tr hF1632 hF1679 rfl rfl
            refine At.enter rfl ?_
            refine r_aload_n e1638 ?_
            refine r_iload_n e1639 ?_
            refine r_callV 102 rfl [.ref 59, .int x1629] [.ref (v1680)] (Nat.le_of_ble_eq_true rfl) rfl (T_X0_lawAt_59 _ hI1678 x1629) ?_
            rintro _ _ ⟨g1683, rfl, hI1684, hF1685, v1686, rfl, hr1687⟩
            refine At.str ?_
            have hF1688 := Fr.tr hF1682 hF1685 rfl rfl
            refine At.enter rfl ?_
            refine r_callV 105 rfl [.ref (v1680), .ref (v1686)] [] (Nat.le_of_ble_eq_true rfl) rfl (T_X4_become_law _ hI1684 (v1680) hr1681 (v1686) hr1687) ?_
            rintro _ _ ⟨g1689, rfl, hI1690, hF1691, rfl⟩
            refine At.stn ?_
            have hF1694 := Fr.tr hF1688 hF1691 rfl rfl
            refine At.enter rfl ?_
            refine q_iinc e1639 (x1629.toInt + 1) rfl (by omega) (fun v1695 hv1695 => ?_)
            refine r_goto ?_
            exact ih1635 (6 - v1695.toInt) _ _ ⟨v1695, by first | rfl | omega, hI1690, hF1694, (((hF1691.1 1 0 (by decide)).trans ((hF1685.1 1 0 (by decide)).trans (hF1679.1 1 0 (by decide)))).trans e1636), (w_p1 (by decide) (Or.inr rfl) e1637), (w_p1 (by decide) (Or.inr rfl) e1638), (w_e1 _ _ _), by omega⟩ ⟨by omega, by omega⟩
        · have c1385_ : v1384.toInt = 0 := en_k_ne_f c1385
          refine At.enter rfl ?_
          refine r_aload_n rfl ?_
          refine r_bipush (-2) rfl ?_
          refine r_callV 31 rfl [.ref 0, .int (-2)] [] (Nat.le_of_ble_eq_true rfl) rfl (T_X10_refused_0 _ hI0 (-2) (by decide)) ?_
          rintro _ _ ⟨g1696, rfl, hI1697, hF1698, v1699, rfl, hr1700⟩
          refine At.sti ?_
          have hF1701 := Fr.tr hF0 hF1698 rfl rfl
          have zv1702 : ((-2) : Int32).toInt = (-2) := rfl
          refine At.enter rfl ?_
          refine r_ireti ?_
          obtain ⟨v1703, hv1703⟩ : ∃ v, gI g0 1 0 = v := ⟨_, rfl⟩
          have rv1703 := RgF.at hI0.2.1 (p := 1) (b := 0) rfl
          rw [hv1703] at rv1703
          dsimp only at rv1703
          have tv1703 := congrArg Int32.toInt hv1703
          have x1704 := HI.eqI hI0 (p := 1) (b := 0) (hv1703)
          obtain ⟨v1705, hv1705⟩ : ∃ v, gI g0 1 12 = v := ⟨_, rfl⟩
          have rv1705 := RgF.at hI0.2.1 (p := 1) (b := 12) rfl
          rw [hv1705] at rv1705
          dsimp only at rv1705
          have tv1705 := congrArg Int32.toInt hv1705
          have x1706 := HI.eqI hI0 (p := 1) (b := 12) (hv1705)
          obtain ⟨v1707, hv1707⟩ : ∃ v, gI g0 1 10 = v := ⟨_, rfl⟩
          have tv1707 := congrArg Int32.toInt hv1707
          have x1708 := HI.eqI hI0 (p := 1) (b := 10) (hv1707)
          obtain ⟨v1709, hv1709⟩ : ∃ v, gI g0 1 11 = v := ⟨_, rfl⟩
          have tv1709 := congrArg Int32.toInt hv1709
          have x1710 := HI.eqI hI0 (p := 1) (b := 11) (hv1709)
          obtain ⟨v1711, hv1711⟩ : ∃ v, gI g0 59 0 = v := ⟨_, rfl⟩
          have rv1711 := RgF.at hI0.2.1 (p := 59) (b := 0) rfl
          rw [hv1711] at rv1711
          dsimp only at rv1711
          have tv1711 := congrArg Int32.toInt hv1711
          have x1712 := HI.eqI hI0 (p := 59) (b := 0) (hv1711)
          obtain ⟨v1713, hv1713⟩ : ∃ v, gI g0 59 12 = v := ⟨_, rfl⟩
          have rv1713 := RgF.at hI0.2.1 (p := 59) (b := 12) rfl
          rw [hv1713] at rv1713
          dsimp only at rv1713
          have tv1713 := congrArg Int32.toInt hv1713
          have x1714 := HI.eqI hI0 (p := 59) (b := 12) (hv1713)
          obtain ⟨v1715, hv1715⟩ : ∃ v, gI g0 59 10 = v := ⟨_, rfl⟩
          have tv1715 := congrArg Int32.toInt hv1715
          have x1716 := HI.eqI hI0 (p := 59) (b := 10) (hv1715)
          obtain ⟨v1717, hv1717⟩ : ∃ v, gI g0 59 11 = v := ⟨_, rfl⟩
          have tv1717 := congrArg Int32.toInt hv1717
          have x1718 := HI.eqI hI0 (p := 59) (b := 11) (hv1717)
          obtain ⟨v1719, hv1719⟩ : ∃ v, gI g0 116 0 = v := ⟨_, rfl⟩
          have rv1719 := RgF.at hI0.2.1 (p := 116) (b := 0) rfl
          rw [hv1719] at rv1719
          dsimp only at rv1719
          have tv1719 := congrArg Int32.toInt hv1719
          have x1720 := HI.eqI hI0 (p := 116) (b := 0) (hv1719)
          obtain ⟨v1721, hv1721⟩ : ∃ v, gI g0 116 12 = v := ⟨_, rfl⟩
          have rv1721 := RgF.at hI0.2.1 (p := 116) (b := 12) rfl
          rw [hv1721] at rv1721
          dsimp only at rv1721
          have tv1721 := congrArg Int32.toInt hv1721
          have x1722 := HI.eqI hI0 (p := 116) (b := 12) (hv1721)
          obtain ⟨v1723, hv1723⟩ : ∃ v, gI g0 116 10 = v := ⟨_, rfl⟩
          have tv1723 := congrArg Int32.toInt hv1723
          have x1724 := HI.eqI hI0 (p := 116) (b := 10) (hv1723)
          obtain ⟨v1725, hv1725⟩ : ∃ v, gI g0 116 11 = v := ⟨_, rfl⟩
          have tv1725 := congrArg Int32.toInt hv1725
          have x1726 := HI.eqI hI0 (p := 116) (b := 11) (hv1725)
          obtain ⟨v1727, hv1727⟩ : ∃ v, eA g0 173 0 = v := ⟨_, rfl⟩
          have tv1727 := congrArg Int32.toInt hv1727
          have x1728 := HI.eqA hI0 (p := 173) (j := 0) (hv1727)
          have y1729 : (eA g0 173 0).toInt = v1384.toInt := by rw [← hv1384, show a1.toInt = 0 by omega]
          obtain ⟨v1730, hv1730⟩ : ∃ v, eA g0 173 1 = v := ⟨_, rfl⟩
          have tv1730 := congrArg Int32.toInt hv1730
          have x1731 := HI.eqA hI0 (p := 173) (j := 1) (hv1730)
          have y1732 : a1.toInt = 0 → (eA g0 173 0).toInt = v1384.toInt := fun e => by rw [← hv1384, e]
          have e : a1.toInt = 0 := by omega
          have z1733 := HI.eqI hI1697 (p := 1) (b := 0) (((hF1698.1 1 0 (by decide)).trans hv1703))
          have z1734 := HI.eqI hI1697 (p := 1) (b := 12) (((hF1698.1 1 12 (by decide)).trans hv1705))
          have z1735 := HI.eqI hI1697 (p := 1) (b := 10) (((hF1698.1 1 10 (by decide)).trans hv1707))
          have z1736 := HI.eqI hI1697 (p := 1) (b := 11) (((hF1698.1 1 11 (by decide)).trans hv1709))
          exact ⟨_, rfl, hI1697, hF1701, _, rfl, by omega, ⟨by omega, by omega, by omega, by omega, by omega⟩⟩
      have c1383_1 : a1.toInt = 1 := by omega
      refine q_aald (Sh.rar hI0.1 ka_58) (by decide) 1 (by omega) (by decide) (some 116) rfl ?_
      refine r_goto ?_
      refine At.enter rfl ?_
      refine q_aret ?_
      refine At.enter rfl ?_
      refine r_astore_n ([(2, .ref 116), (0, .ref 0), (1, .int a1)]) rfl ?_
      refine r_aload_n rfl ?_
      refine r_nnr ?_
      refine At.enter rfl ?_
      refine r_aload_n rfl ?_
      refine q_getR (Sh.ref hI0.1 kx_0 rfl) ?_
      refine r_iload_n rfl ?_
      obtain ⟨v1737, hv1737⟩ : ∃ v, eA g0 173 a1.toInt = v := ⟨_, rfl⟩
      refine q_bald (Sh.arr hI0.1 ka_173) a1.toInt rfl (by omega) v1737 hv1737 ?_
      refine r_ifs 25 rfl (fun c1738 => ?_) (fun c1738 => ?_)
      · have c1738_ : v1737.toInt ≠ 0 := en_k_ne_t c1738
        refine At.enter rfl ?_
        refine r_aload_n rfl ?_
        refine q_getR (Sh.ref hI0.1 kx_0 rfl) ?_
        refine r_aload_n rfl ?_
        refine q_inlV 40 rfl [.ref 1, .ref 116] [] (Nat.le_of_ble_eq_true rfl) rfl ?_
        refine Ev.mk rfl rfl ⟨Nat.le_of_ble_eq_true rfl, Or.inr (q_rc hI0.1 kx_1 rfl)⟩ ?_
        show At _ none _ _ (0, [(0, .ref 1), (1, .ref 116)], [], (_, _)) _
        refine At.enter rfl ?_
        refine r_aload_n rfl ?_
        refine r_aload_n rfl ?_
        obtain ⟨v1739, hv1739⟩ : ∃ v, gI g0 116 0 = v := ⟨_, rfl⟩
        have rv1739 := RgF.at hI0.2.1 (p := 116) (b := 0) rfl
        rw [hv1739] at rv1739
        dsimp only at rv1739
        refine q_getI (Sh.int hI0.1 kx_116 rfl) v1739 hv1739 ?_
        refine q_putI (Sh.int hI0.1 kx_1 rfl) rfl ?_
        have hI1740 := HI.wI1 hI0 kx_1 rfl (p := 1) (b := 0) (v := v1739) rfl (by dsimp only; omega)
        have hF1741 := Fr.wI (p := 1) (b := 0) (v := v1739) hF0 rfl
        refine r_aload_n rfl ?_
        refine q_getR (Sh.ref hI1740.1 kx_116 rfl) ?_
        refine r_iconst 0 rfl ?_
        refine r_aload_n rfl ?_
        refine q_getR (Sh.ref hI1740.1 kx_1 rfl) ?_
        refine r_iconst 0 rfl ?_
        refine r_bipush 12 rfl ?_
        have zv1742 : (0 : Int32).toInt = 0 := rfl
        have zv1743 : (0 : Int32).toInt = 0 := rfl
        have zv1744 : (12 : Int32).toInt = 12 := rfl
        refine q_cpy rfl (Nat.le_of_ble_eq_true rfl) (Sh.arr hI1740.1 ka_117) (Sh.arr hI1740.1 ka_2) ⟨by omega, by omega, by omega, by omega, by omega⟩ ?_
        have hI1745 := HI.cpy0 hI1740 ka_117 ka_2 rfl rfl ((0 : Int32).toInt.toNat) ((0 : Int32).toInt.toNat) ((12 : Int32).toInt.toNat) (by omega) (by omega)
        have hF1746 := Fr.cpy (p0 := 117) (p1 := 2) hF1741 rfl ((0 : Int32).toInt.toNat) ((0 : Int32).toInt.toNat) ((12 : Int32).toInt.toNat)
        refine r_aload_n rfl ?_
        refine q_getR (Sh.ref hI1745.1 kx_116 rfl) ?_
        refine r_iconst 0 rfl ?_
        refine r_aload_n rfl ?_
        refine q_getR (Sh.ref hI1745.1 kx_1 rfl) ?_
        refine r_iconst 0 rfl ?_
        refine r_bipush 12 rfl ?_
        have zv1747 : (0 : Int32).toInt = 0 := rfl
        have zv1748 : (0 : Int32).toInt = 0 := rfl
        have zv1749 : (12 : Int32).toInt = 12 := rfl
        refine q_cpy rfl (Nat.le_of_ble_eq_true rfl) (Sh.arr hI1745.1 ka_118) (Sh.arr hI1745.1 ka_3) ⟨by omega, by omega, by omega, by omega, by omega⟩ ?_
        have hI1750 := HI.cpy0 hI1745 ka_118 ka_3 rfl rfl ((0 : Int32).toInt.toNat) ((0 : Int32).toInt.toNat) ((12 : Int32).toInt.toNat) (by omega) (by omega)
        have hF1751 := Fr.cpy (p0 := 118) (p1 := 3) hF1746 rfl ((0 : Int32).toInt.toNat) ((0 : Int32).toInt.toNat) ((12 : Int32).toInt.toNat)
        refine r_aload_n rfl ?_
        refine q_getR (Sh.ref hI1750.1 kx_116 rfl) ?_
        refine r_iconst 0 rfl ?_
        refine r_aload_n rfl ?_
        refine q_getR (Sh.ref hI1750.1 kx_1 rfl) ?_
        refine r_iconst 0 rfl ?_
        refine r_bipush 12 rfl ?_
        have zv1752 : (0 : Int32).toInt = 0 := rfl
        have zv1753 : (0 : Int32).toInt = 0 := rfl
        have zv1754 : (12 : Int32).toInt = 12 := rfl
        refine q_cpy rfl (Nat.le_of_ble_eq_true rfl) (Sh.arr hI1750.1 ka_119) (Sh.arr hI1750.1 ka_4) ⟨by omega, by omega, by omega, by omega, by omega⟩ ?_
        have hI1755 := HI.cpy0 hI1750 ka_119 ka_4 rfl rfl ((0 : Int32).toInt.toNat) ((0 : Int32).toInt.toNat) ((12 : Int32).toInt.toNat) (by omega) (by omega)
        have hF1756 := Fr.cpy (p0 := 119) (p1 := 4) hF1751 rfl ((0 : Int32).toInt.toNat) ((0 : Int32).toInt.toNat) ((12 : Int32).toInt.toNat)
        refine r_aload_n rfl ?_
        refine r_aload_n rfl ?_
        obtain ⟨v1757, hv1757⟩ : ∃ v, gI g0 116 4 = v := ⟨_, rfl⟩
        have rv1757 := RgF.at hI0.2.1 (p := 116) (b := 4) rfl
        rw [hv1757] at rv1757
        dsimp only at rv1757
        refine q_getI (Sh.int hI1755.1 kx_116 rfl) v1757 (((gI_sW).trans ((gI_sW).trans ((gI_sW).trans (gI_sI_ne (by decide))))).trans hv1757) ?_
        refine q_putI (Sh.int hI1755.1 kx_1 rfl) rfl ?_
        have hI1758 := HI.wI1 hI1755 kx_1 rfl (p := 1) (b := 4) (v := v1757) rfl (by dsimp only; omega)
        have hF1759 := Fr.wI (p := 1) (b := 4) (v := v1757) hF1756 rfl
        refine r_aload_n rfl ?_
        refine q_getR (Sh.ref hI1758.1 kx_116 rfl) ?_
        refine r_iconst 0 rfl ?_
        refine r_aload_n rfl ?_
        refine q_getR (Sh.ref hI1758.1 kx_1 rfl) ?_
        refine r_iconst 0 rfl ?_
        refine r_bipush 48 rfl ?_
        have zv1760 : (0 : Int32).toInt = 0 := rfl
        have zv1761 : (0 : Int32).toInt = 0 := rfl
        have zv1762 : (48 : Int32).toInt = 48 := rfl
        refine q_cpy rfl (Nat.le_of_ble_eq_true rfl) (Sh.arr hI1758.1 ka_120) (Sh.arr hI1758.1 ka_5) ⟨by omega, by omega, by omega, by omega, by omega⟩ ?_
        have hI1763 := HI.cpy0 hI1758 ka_120 ka_5 rfl rfl ((0 : Int32).toInt.toNat) ((0 : Int32).toInt.toNat) ((48 : Int32).toInt.toNat) (by omega) (by omega)
        have hF1764 := Fr.cpy (p0 := 120) (p1 := 5) hF1759 rfl ((0 : Int32).toInt.toNat) ((0 : Int32).toInt.toNat) ((48 : Int32).toInt.toNat)
        refine r_aload_n rfl ?_
        refine r_aload_n rfl ?_
        obtain ⟨v1765, hv1765⟩ : ∃ v, gI g0 116 6 = v := ⟨_, rfl⟩
        have rv1765 := RgF.at hI0.2.1 (p := 116) (b := 6) rfl
        rw [hv1765] at rv1765
        dsimp only at rv1765
        refine q_getI (Sh.int hI1763.1 kx_116 rfl) v1765 (((gI_sW).trans ((gI_sI_ne (by decide)).trans ((gI_sW).trans ((gI_sW).trans ((gI_sW).trans (gI_sI_ne (by decide))))))).trans hv1765) ?_
        refine q_putI (Sh.int hI1763.1 kx_1 rfl) rfl ?_
        have hI1766 := HI.wI1 hI1763 kx_1 rfl (p := 1) (b := 6) (v := v1765) rfl (by dsimp only; omega)
        have hF1767 := Fr.wI (p := 1) (b := 6) (v := v1765) hF1764 rfl
        refine r_iconst 0 rfl ?_
        refine r_istore_n ([(2, .int 0), (0, .ref 1), (1, .ref 116)]) rfl ?_
        refine Ar.fall 86 rfl ?_
        have z_1994 : (0 : Int32).toInt = 0 := rfl
        refine w_loopI (fun n_ l_ g_ => ∃ x1982 : Int32, n_ = 6 - x1982.toInt ∧ HI g_ ∧ Fr F_X10_back_0 A_X10_back_0 g0 g_ ∧ gI g_ 1 0 = v1739 ∧ en_get 0 l_ = some (.ref 1) ∧ en_get 1 l_ = some (.ref 116) ∧ en_get 2 l_ = some (.int x1982) ∧ (0 ≤ x1982.toInt ∧ x1982.toInt ≤ 6)) ?_ (6 - 0) ⟨0, by first | rfl | omega, hI1766, hF1767, ((gI_sI_ne (by decide)).trans ((gI_sW).trans ((gI_sI_ne (by decide)).trans ((gI_sW).trans ((gI_sW).trans ((gI_sW).trans (gI_sI_eq hI0.1 kx_1 rfl _))))))), rfl, rfl, rfl, by decide⟩
        rintro n1987 l1986 g1983 ⟨x1982, hm1995, hI1984, hF1985, e1989, e1990, e1991, e1992, r1993⟩ ih1988
        have tv1996 := congrArg Int32.toInt e1989
        refine At.enter rfl ?_
        refine r_iload_n e1992 ?_
        refine r_bipush 6 rfl ?_
        refine r_ics 92 rfl (fun c1997 => ?_) (fun c1997 => ?_)
        · have c1997_ : x1982.toInt ≥ 6 := en_i_ge_t c1997
          refine At.enter rfl ?_
          refine r_aload_n e1990 ?_
          refine r_aload_n e1991 ?_
          obtain ⟨v1998, hv1998⟩ : ∃ v, gI g0 116 9 = v := ⟨_, rfl⟩
          refine q_getI (Sh.int hI1984.1 kx_116 rfl) v1998 ((hF1985.1 116 9 (by decide)).trans hv1998) ?_
          refine q_putI (Sh.int hI1984.1 kx_1 rfl) rfl ?_
          have hI1999 := HI.wI0 hI1984 kx_1 rfl (p := 1) (b := 9) (v := v1998) rfl
          have hF2000 := Fr.wI (p := 1) (b := 9) (v := v1998) hF1985 rfl
          refine r_aload_n e1990 ?_
          refine r_aload_n e1991 ?_
          obtain ⟨v2001, hv2001⟩ : ∃ v, gI g0 116 10 = v := ⟨_, rfl⟩
          refine q_getI (Sh.int hI1999.1 kx_116 rfl) v2001 (((gI_sI_ne (by decide)).trans (hF1985.1 116 10 (by decide))).trans hv2001) ?_
          refine q_putI (Sh.int hI1999.1 kx_1 rfl) rfl ?_
          have hI2002 := HI.wI0 hI1999 kx_1 rfl (p := 1) (b := 10) (v := v2001) rfl
          have hF2003 := Fr.wI (p := 1) (b := 10) (v := v2001) hF2000 rfl
          refine r_aload_n e1990 ?_
          refine r_aload_n e1991 ?_
          obtain ⟨v2004, hv2004⟩ : ∃ v, gI g0 116 11 = v := ⟨_, rfl⟩
          refine q_getI (Sh.int hI2002.1 kx_116 rfl) v2004 (((gI_sI_ne (by decide)).trans ((gI_sI_ne (by decide)).trans (hF1985.1 116 11 (by decide)))).trans hv2004) ?_
          refine q_putI (Sh.int hI2002.1 kx_1 rfl) rfl ?_
          have hI2005 := HI.wI0 hI2002 kx_1 rfl (p := 1) (b := 11) (v := v2004) rfl
          have hF2006 := Fr.wI (p := 1) (b := 11) (v := v2004) hF2003 rfl
          refine r_aload_n e1990 ?_
          refine r_aload_n e1991 ?_
          obtain ⟨v2007, hv2007⟩ : ∃ v, gI g0 116 12 = v := ⟨_, rfl⟩
          have rv2007 := RgF.at hI0.2.1 (p := 116) (b := 12) rfl
          rw [hv2007] at rv2007
          dsimp only at rv2007
          refine q_getI (Sh.int hI2005.1 kx_116 rfl) v2007 (((gI_sI_ne (by decide)).trans ((gI_sI_ne (by decide)).trans ((gI_sI_ne (by decide)).trans (hF1985.1 116 12 (by decide))))).trans hv2007) ?_
          refine q_putI (Sh.int hI2005.1 kx_1 rfl) rfl ?_
          have hI2008 := HI.wI1 hI2005 kx_1 rfl (p := 1) (b := 12) (v := v2007) rfl (by dsimp only; omega)
          have hF2009 := Fr.wI (p := 1) (b := 12) (v := v2007) hF2006 rfl
          refine r_aload_n e1991 ?_
          refine q_getR (Sh.ref hI2008.1 kx_116 rfl) ?_
          refine r_iconst 0 rfl ?_
          refine r_aload_n e1990 ?_
          refine q_getR (Sh.ref hI2008.1 kx_1 rfl) ?_
          refine r_iconst 0 rfl ?_
          refine r_bipush 8 rfl ?_
          have zv2010 : (0 : Int32).toInt = 0 := rfl
          have zv2011 : (0 : Int32).toInt = 0 := rfl
          have zv2012 : (8 : Int32).toInt = 8 := rfl
          refine q_cpy rfl (Nat.le_of_ble_eq_true rfl) (Sh.arr hI2008.1 ka_129) (Sh.arr hI2008.1 ka_14) ⟨by omega, by omega, by omega, by omega, by omega⟩ ?_
          have hI2013 := HI.cpy0 hI2008 ka_129 ka_14 rfl rfl ((0 : Int32).toInt.toNat) ((0 : Int32).toInt.toNat) ((8 : Int32).toInt.toNat) (by omega) (by omega)
          have hF2014 := Fr.cpy (p0 := 129) (p1 := 14) hF2009 rfl ((0 : Int32).toInt.toNat) ((0 : Int32).toInt.toNat) ((8 : Int32).toInt.toNat)
          refine r_aload_n e1991 ?_
          refine q_getR (Sh.ref hI2013.1 kx_116 rfl) ?_
          refine r_iconst 0 rfl ?_
          refine r_aload_n e1990 ?_
          refine q_getR (Sh.ref hI2013.1 kx_1 rfl) ?_
          refine r_iconst 0 rfl ?_
          refine r_bipush 8 rfl ?_
          have zv2015 : (0 : Int32).toInt = 0 := rfl
          have zv2016 : (0 : Int32).toInt = 0 := rfl
          have zv2017 : (8 : Int32).toInt = 8 := rfl
          refine q_cpy rfl (Nat.le_of_ble_eq_true rfl) (Sh.arr hI2013.1 ka_130) (Sh.arr hI2013.1 ka_15) ⟨by omega, by omega, by omega, by omega, by omega⟩ ?_
          have hI2018 := HI.cpy0 hI2013 ka_130 ka_15 rfl rfl ((0 : Int32).toInt.toNat) ((0 : Int32).toInt.toNat) ((8 : Int32).toInt.toNat) (by omega) (by omega)
          have hF2019 := Fr.cpy (p0 := 130) (p1 := 15) hF2014 rfl ((0 : Int32).toInt.toNat) ((0 : Int32).toInt.toNat) ((8 : Int32).toInt.toNat)
          refine q_vret ?_
          refine At.enter rfl ?_
          refine r_aload_n rfl ?_
          refine r_callV 44 rfl [.ref 0] [] (Nat.le_of_ble_eq_true rfl) rfl (T_X10_changed_0 _ hI2018) ?_
          rintro _ _ ⟨g2020, rfl, hI2021, hF2022, rfl⟩
          refine At.stn ?_
          have hF2025 := Fr.tr hF2019 hF2022 rfl rfl
          refine At.enter rfl ?_
          refine r_aload_n rfl ?_
          refine r_iconst 0 rfl ?_
          refine q_inlV 49 rfl [.ref 0, .int 0] [] (Nat.le_of_ble_eq_true rfl) rfl ?_
          refine Ev.mk rfl rfl ⟨Nat.le_of_ble_eq_true rfl, Or.inr (q_rc hI2021.1 kx_0 rfl)⟩ ?_
          show At _ none _ _ (0, [(0, .ref 0), (1, .int 0)], [], (_, _)) _
          refine At.enter rfl ?_
          refine r_aload_n rfl ?_
          refine r_iconst 0 rfl ?_
          refine q_putI (Sh.int hI2021.1 kx_0 rfl) rfl ?_
          have hI2026 := HI.wI0 hI2021 kx_0 rfl (p := 0) (b := 17) (v := 0) rfl
          have hF2027 := Fr.wI (p := 0) (b := 17) (v := 0) hF2025 rfl
          refine r_iload_n rfl ?_
          refine q_ireti ?_
          refine At.enter rfl ?_
          refine r_ireti ?_
          have zv2028 : (0 : Int32).toInt = 0 := rfl
          have e : a1.toInt = 1 := by omega
          have k2029_ : (eA g0 173 1).toInt = v1737.toInt := by rw [← hv1737, e]
          have k2029 : (eA g0 173 1).toInt ≠ 0 := by omega
          exact ⟨_, rfl, hI2026, hF2027, _, rfl, by decide, ⟨(fun h => absurd (e.symm.trans h.1) (by decide)), (fun _ => ⟨(by first | rfl | decide), (HI.eqI hI2026 (p := 1) (b := 0) ((((gI_sI_ne (by decide)).trans ((hF2022.1 1 0 (by decide)).trans ((gI_sW).trans ((gI_sW).trans ((gI_sI_ne (by decide)).trans ((gI_sI_ne (by decide)).trans ((gI_sI_ne (by decide)).trans (gI_sI_ne (by decide))))))))).trans e1989))).trans (HI.eqI hI0 (p := 116) (b := 0) (hv1739)).symm, (HI.eqI hI2026 (p := 1) (b := 12) (((gI_sI_ne (by decide)).trans ((hF2022.1 1 12 (by decide)).trans ((gI_sW).trans ((gI_sW).trans (gI_sI_eq hI2005.1 kx_1 rfl _))))))).trans (HI.eqI hI0 (p := 116) (b := 12) (hv2007)).symm, (HI.eqI hI2026 (p := 1) (b := 10) (((gI_sI_ne (by decide)).trans ((hF2022.1 1 10 (by decide)).trans ((gI_sW).trans ((gI_sW).trans ((gI_sI_ne (by decide)).trans ((gI_sI_ne (by decide)).trans (gI_sI_eq hI1999.1 kx_1 rfl _))))))))).trans (HI.eqI hI0 (p := 116) (b := 10) (hv2001)).symm, (HI.eqI hI2026 (p := 1) (b := 11) (((gI_sI_ne (by decide)).trans ((hF2022.1 1 11 (by decide)).trans ((gI_sW).trans ((gI_sW).trans ((gI_sI_ne (by decide)).trans (gI_sI_eq hI2002.1 kx_1 rfl _)))))))).trans (HI.eqI hI0 (p := 116) (b := 11) (hv2004)).symm⟩), (fun h => absurd ⟨e, k2029⟩ h.2), (fun h => False.elim (by omega)), (fun h => absurd ⟨e, k2029⟩ h.2.2.2)⟩⟩
        · have c1997_ : x1982.toInt < 6 := en_i_ge_f c1997
          refine At.enter rfl ?_
          refine r_aload_n e1990 ?_
          refine r_iload_n e1992 ?_
          refine r_callV 97 rfl [.ref 1, .int x1982] [] (Nat.le_of_ble_eq_true rfl) rfl (T_X0_lawAt_1 _ hI1984 x1982) ?_
          rintro _ _ ⟨g2030, rfl, hI2031, hF2032, v2033, rfl, hr2034⟩
          refine At.str ?_
          have hF2035 := Fr.tr hF1985 hF2032 rfl rfl
          refine At.enter rfl ?_
          refine r_aload_n e1991 ?_
          refine r_iload_n e1992 ?_
          refine r_callV 102 rfl [.ref 116, .int x1982] [.ref (v2033)] (Nat.le_of_ble_eq_true rfl) rfl (T_X0_lawAt_116 _ hI2031 x1982) ?_
          rintro _ _ ⟨g2036, rfl, hI2037, hF2038, v2039, rfl, hr2040⟩
          refine At.str ?_
          have hF2041 := Fr.tr hF2035 hF2038 rfl rfl
          refine At.enter rfl ?_
          refine r_callV 105 rfl [.ref (v2033), .ref (v2039)] [] (Nat.le_of_ble_eq_true rfl) rfl (T_X4_become_law _ hI2037 (v2033) hr2034 (v2039) hr2040) ?_
          rintro _ _ ⟨g2042, rfl, hI2043, hF2044, rfl⟩
          refine At.stn ?_
          have hF2047 := Fr.tr hF2041 hF2044 rfl rfl
          refine At.enter rfl ?_
          refine q_iinc e1992 (x1982.toInt + 1) rfl (by omega) (fun v2048 hv2048 => ?_)
          refine r_goto ?_
          exact ih1988 (6 - v2048.toInt) _ _ ⟨v2048, by first | rfl | omega, hI2043, hF2047, (((hF2044.1 1 0 (by decide)).trans ((hF2038.1 1 0 (by decide)).trans (hF2032.1 1 0 (by decide)))).trans e1989), (w_p1 (by decide) (Or.inr rfl) e1990), (w_p1 (by decide) (Or.inr rfl) e1991), (w_e1 _ _ _), by omega⟩ ⟨by omega, by omega⟩
      · have c1738_ : v1737.toInt = 0 := en_k_ne_f c1738
        refine At.enter rfl ?_
        refine r_aload_n rfl ?_
        refine r_bipush (-2) rfl ?_
        refine r_callV 31 rfl [.ref 0, .int (-2)] [] (Nat.le_of_ble_eq_true rfl) rfl (T_X10_refused_0 _ hI0 (-2) (by decide)) ?_
        rintro _ _ ⟨g2049, rfl, hI2050, hF2051, v2052, rfl, hr2053⟩
        refine At.sti ?_
        have hF2054 := Fr.tr hF0 hF2051 rfl rfl
        have zv2055 : ((-2) : Int32).toInt = (-2) := rfl
        refine At.enter rfl ?_
        refine r_ireti ?_
        obtain ⟨v2056, hv2056⟩ : ∃ v, gI g0 1 0 = v := ⟨_, rfl⟩
        have rv2056 := RgF.at hI0.2.1 (p := 1) (b := 0) rfl
        rw [hv2056] at rv2056
        dsimp only at rv2056
        have tv2056 := congrArg Int32.toInt hv2056
        have x2057 := HI.eqI hI0 (p := 1) (b := 0) (hv2056)
        obtain ⟨v2058, hv2058⟩ : ∃ v, gI g0 1 12 = v := ⟨_, rfl⟩
        have rv2058 := RgF.at hI0.2.1 (p := 1) (b := 12) rfl
        rw [hv2058] at rv2058
        dsimp only at rv2058
        have tv2058 := congrArg Int32.toInt hv2058
        have x2059 := HI.eqI hI0 (p := 1) (b := 12) (hv2058)
        obtain ⟨v2060, hv2060⟩ : ∃ v, gI g0 1 10 = v := ⟨_, rfl⟩
        have tv2060 := congrArg Int32.toInt hv2060
        have x2061 := HI.eqI hI0 (p := 1) (b := 10) (hv2060)
        obtain ⟨v2062, hv2062⟩ : ∃ v, gI g0 1 11 = v := ⟨_, rfl⟩
        have tv2062 := congrArg Int32.toInt hv2062
        have x2063 := HI.eqI hI0 (p := 1) (b := 11) (hv2062)
        obtain ⟨v2064, hv2064⟩ : ∃ v, gI g0 59 0 = v := ⟨_, rfl⟩
        have rv2064 := RgF.at hI0.2.1 (p := 59) (b := 0) rfl
        rw [hv2064] at rv2064
        dsimp only at rv2064
        have tv2064 := congrArg Int32.toInt hv2064
        have x2065 := HI.eqI hI0 (p := 59) (b := 0) (hv2064)
        obtain ⟨v2066, hv2066⟩ : ∃ v, gI g0 59 12 = v := ⟨_, rfl⟩
        have rv2066 := RgF.at hI0.2.1 (p := 59) (b := 12) rfl
        rw [hv2066] at rv2066
        dsimp only at rv2066
        have tv2066 := congrArg Int32.toInt hv2066
        have x2067 := HI.eqI hI0 (p := 59) (b := 12) (hv2066)
        obtain ⟨v2068, hv2068⟩ : ∃ v, gI g0 59 10 = v := ⟨_, rfl⟩
        have tv2068 := congrArg Int32.toInt hv2068
        have x2069 := HI.eqI hI0 (p := 59) (b := 10) (hv2068)
        obtain ⟨v2070, hv2070⟩ : ∃ v, gI g0 59 11 = v := ⟨_, rfl⟩
        have tv2070 := congrArg Int32.toInt hv2070
        have x2071 := HI.eqI hI0 (p := 59) (b := 11) (hv2070)
        obtain ⟨v2072, hv2072⟩ : ∃ v, gI g0 116 0 = v := ⟨_, rfl⟩
        have rv2072 := RgF.at hI0.2.1 (p := 116) (b := 0) rfl
        rw [hv2072] at rv2072
        dsimp only at rv2072
        have tv2072 := congrArg Int32.toInt hv2072
        have x2073 := HI.eqI hI0 (p := 116) (b := 0) (hv2072)
        obtain ⟨v2074, hv2074⟩ : ∃ v, gI g0 116 12 = v := ⟨_, rfl⟩
        have rv2074 := RgF.at hI0.2.1 (p := 116) (b := 12) rfl
        rw [hv2074] at rv2074
        dsimp only at rv2074
        have tv2074 := congrArg Int32.toInt hv2074
        have x2075 := HI.eqI hI0 (p := 116) (b := 12) (hv2074)
        obtain ⟨v2076, hv2076⟩ : ∃ v, gI g0 116 10 = v := ⟨_, rfl⟩
        have tv2076 := congrArg Int32.toInt hv2076
        have x2077 := HI.eqI hI0 (p := 116) (b := 10) (hv2076)
        obtain ⟨v2078, hv2078⟩ : ∃ v, gI g0 116 11 = v := ⟨_, rfl⟩
        have tv2078 := congrArg Int32.toInt hv2078
        have x2079 := HI.eqI hI0 (p := 116) (b := 11) (hv2078)
        obtain ⟨v2080, hv2080⟩ : ∃ v, eA g0 173 0 = v := ⟨_, rfl⟩
        have tv2080 := congrArg Int32.toInt hv2080
        have x2081 := HI.eqA hI0 (p := 173) (j := 0) (hv2080)
        obtain ⟨v2082, hv2082⟩ : ∃ v, eA g0 173 1 = v := ⟨_, rfl⟩
        have tv2082 := congrArg Int32.toInt hv2082
        have x2083 := HI.eqA hI0 (p := 173) (j := 1) (hv2082)
        have y2084 : (eA g0 173 1).toInt = v1737.toInt := by rw [← hv1737, show a1.toInt = 1 by omega]
        have y2085 : a1.toInt = 1 → (eA g0 173 1).toInt = v1737.toInt := fun e => by rw [← hv1737, e]
        have e : a1.toInt = 1 := by omega
        have z2086 := HI.eqI hI2050 (p := 1) (b := 0) (((hF2051.1 1 0 (by decide)).trans hv2056))
        have z2087 := HI.eqI hI2050 (p := 1) (b := 12) (((hF2051.1 1 12 (by decide)).trans hv2058))
        have z2088 := HI.eqI hI2050 (p := 1) (b := 10) (((hF2051.1 1 10 (by decide)).trans hv2060))
        have z2089 := HI.eqI hI2050 (p := 1) (b := 11) (((hF2051.1 1 11 (by decide)).trans hv2062))
        exact ⟨_, rfl, hI2050, hF2054, _, rfl, by omega, ⟨by omega, by omega, by omega, by omega, by omega⟩⟩
