def F_X10_restless_0 : List (Nat × Nat) := [(185, 3), (223, 5), (223, 6), (223, 7), (223, 8), (223, 9)]
def A_X10_restless_0 : List Nat := [224, 225, 226]
set_option maxRecDepth 100000 in
set_option maxHeartbeats 4000000 in
theorem T_X10_restless_0 (d : Nat) {N : Nat} {g0 : List en_E} (hI0 : HI g0) : Ev (d + 8) 131 [.ref 0] (g0, N) (fun w h' => ∃ g', h' = (g', N) ∧ HI g' ∧ Fr F_X10_restless_0 A_X10_restless_0 g0 g' ∧ ∃ r : Int32, w = some (.int r) ∧ ((-1) ≤ r.toInt ∧ r.toInt ≤ 11)) := by
  have hF0 : Fr F_X10_restless_0 A_X10_restless_0 g0 g0 := Fr.rf
  refine Ev.mk rfl rfl ⟨Nat.le_of_ble_eq_true rfl, Or.inr (q_rc hI0.1 kx_0 rfl)⟩ ?_
  show At _ none _ _ (0, [(0, .ref 0)], [], (_, _)) _
  refine At.enter rfl ?_
  refine r_aload_n rfl ?_
  refine q_getR (Sh.ref hI0.1 kx_0 rfl) ?_
  refine r_callV 7 rfl [.ref 223] [] (Nat.le_of_ble_eq_true rfl) rfl (T_X2_firstRestless_223 _ hI0) ?_
  rintro _ _ ⟨g13, rfl, hI14, hF15, v16, rfl, hr17⟩
  refine At.sti ?_
  have hF18 := Fr.tr hF0 hF15 rfl rfl
  refine At.enter rfl ?_
  refine r_ireti ?_
  exact ⟨_, rfl, hI14, hF18, _, rfl, by omega⟩

def F_X10_rests_0 : List (Nat × Nat) := [(185, 3), (223, 5), (223, 6), (223, 7), (223, 8), (223, 9), (223, 10), (223, 11)]
def A_X10_rests_0 : List Nat := [224, 225, 226, 227]
set_option maxRecDepth 100000 in
set_option maxHeartbeats 4000000 in
theorem T_X10_rests_0 (d : Nat) {N : Nat} {g0 : List en_E} (hI0 : HI g0) (a1 : Int32) : Ev (d + 8) 132 [.ref 0, .int a1] (g0, N) (fun w h' => ∃ g', h' = (g', N) ∧ HI g' ∧ Fr F_X10_rests_0 A_X10_rests_0 g0 g' ∧ ∃ r : Int32, w = some (.int r) ∧ True) := by
  have hF0 : Fr F_X10_rests_0 A_X10_rests_0 g0 g0 := Fr.rf
  refine Ev.mk rfl rfl ⟨Nat.le_of_ble_eq_true rfl, Or.inr (q_rc hI0.1 kx_0 rfl)⟩ ?_
  show At _ none _ _ (0, [(0, .ref 0), (1, .int a1)], [], (_, _)) _
  refine At.enter rfl ?_
  refine r_iload_n rfl ?_
  refine r_iconst (-1) rfl ?_
  refine r_ics 5 rfl (fun c61 => ?_) (fun c61 => ?_)
  · have c61_ : a1.toInt = (-1) := en_i_eq_t c61
    refine At.enter rfl ?_
    refine r_aload_n rfl ?_
    refine q_getR (Sh.ref hI0.1 kx_0 rfl) ?_
    refine r_callV 25 rfl [.ref 223] [] (Nat.le_of_ble_eq_true rfl) rfl (T_X2_settle_223 _ hI0) ?_
    rintro _ _ ⟨g62, rfl, hI63, hF64, rfl⟩
    refine At.stn ?_
    have hF67 := Fr.tr hF0 hF64 rfl rfl
    refine At.enter rfl ?_
    refine r_aload_n rfl ?_
    refine q_getR (Sh.ref hI63.1 kx_0 rfl) ?_
    refine r_iload_n rfl ?_
    refine r_callV 33 rfl [.ref 223, .int a1] [] (Nat.le_of_ble_eq_true rfl) rfl (T_X2_settled_223 _ hI63 a1) ?_
    rintro _ _ ⟨g68, rfl, hI69, hF70, v71, rfl, hr72⟩
    refine At.sti ?_
    have hF73 := Fr.tr hF67 hF70 rfl rfl
    refine At.enter rfl ?_
    refine r_ireti ?_
    exact ⟨_, rfl, hI69, hF73, _, rfl, trivial⟩
  · have c61_ : a1.toInt ≠ (-1) := en_i_eq_f c61
    refine At.enter rfl ?_
    refine r_aload_n rfl ?_
    refine q_getR (Sh.ref hI0.1 kx_0 rfl) ?_
    refine r_iload_n rfl ?_
    refine q_inlV 13 rfl [.ref 1, .int a1] [] (Nat.le_of_ble_eq_true rfl) rfl ?_
    refine Ev.mk rfl rfl ⟨Nat.le_of_ble_eq_true rfl, Or.inr (q_rc hI0.1 kx_1 rfl)⟩ ?_
    show At _ none _ _ (0, [(0, .ref 1), (1, .int a1)], [], (_, _)) _
    refine At.enter rfl ?_
    refine r_iload_n rfl ?_
    refine r_ifs 4 rfl (fun c74 => ?_) (fun c74 => ?_)
    · have c74_ : a1.toInt < 0 := en_k_lt_t c74
      refine At.enter rfl ?_
      refine r_iconst 0 rfl ?_
      refine Ar.fall 17 rfl ?_
      refine At.enter rfl ?_
      refine q_iretz (by decide) ?_
      refine At.enter rfl ?_
      refine r_iff 16 rfl (by decide) ?_
      refine At.enter rfl ?_
      refine r_iconst (-1) rfl ?_
      refine r_ireti ?_
      exact ⟨_, rfl, hI0, hF0, _, rfl, trivial⟩
    · have c74_ : a1.toInt ≥ 0 := en_k_lt_f c74
      refine At.enter rfl ?_
      refine r_iload_n rfl ?_
      refine r_aload_n rfl ?_
      obtain ⟨v75, hv75⟩ : ∃ v, gI g0 1 0 = v := ⟨_, rfl⟩
      have rv75 := RgF.at hI0.2.1 (p := 1) (b := 0) rfl
      rw [hv75] at rv75
      dsimp only at rv75
      refine q_getI (Sh.int hI0.1 kx_1 rfl) v75 hv75 ?_
      have bv77 := q_bnd a1
      have bv78 := q_bnd v75
      refine r_ics 12 rfl (fun c76 => ?_) (fun c76 => ?_)
      · have c76_ : a1.toInt ≥ v75.toInt := en_i_ge_t c76
        refine At.enter rfl ?_
        refine r_iconst 0 rfl ?_
        refine Ar.fall 17 rfl ?_
        refine At.enter rfl ?_
        refine q_iretz (by decide) ?_
        refine At.enter rfl ?_
        refine r_iff 16 rfl (by decide) ?_
        refine At.enter rfl ?_
        refine r_iconst (-1) rfl ?_
        refine r_ireti ?_
        exact ⟨_, rfl, hI0, hF0, _, rfl, trivial⟩
      · have c76_ : a1.toInt < v75.toInt := en_i_ge_f c76
        refine At.enter rfl ?_
        refine r_iconst 1 rfl ?_
        refine r_goto ?_
        refine At.enter rfl ?_
        refine q_iretz (by decide) ?_
        refine At.enter rfl ?_
        refine r_ift (by decide) ?_
        refine At.enter rfl ?_
        refine r_aload_n rfl ?_
        refine q_getR (Sh.ref hI0.1 kx_0 rfl) ?_
        refine r_callV 25 rfl [.ref 223] [] (Nat.le_of_ble_eq_true rfl) rfl (T_X2_settle_223 _ hI0) ?_
        rintro _ _ ⟨g79, rfl, hI80, hF81, rfl⟩
        refine At.stn ?_
        have hF84 := Fr.tr hF0 hF81 rfl rfl
        refine At.enter rfl ?_
        refine r_aload_n rfl ?_
        refine q_getR (Sh.ref hI80.1 kx_0 rfl) ?_
        refine r_iload_n rfl ?_
        refine r_callV 33 rfl [.ref 223, .int a1] [] (Nat.le_of_ble_eq_true rfl) rfl (T_X2_settled_223 _ hI80 a1) ?_
        rintro _ _ ⟨g85, rfl, hI86, hF87, v88, rfl, hr89⟩
        refine At.sti ?_
        have hF90 := Fr.tr hF84 hF87 rfl rfl
        refine At.enter rfl ?_
        refine r_ireti ?_
        exact ⟨_, rfl, hI86, hF90, _, rfl, trivial⟩

def F_X10_pieces_0 : List (Nat × Nat) := []
def A_X10_pieces_0 : List Nat := []
set_option maxRecDepth 100000 in
set_option maxHeartbeats 4000000 in
theorem T_X10_pieces_0 (d : Nat) {N : Nat} {g0 : List en_E} (hI0 : HI g0) (a1 : Int32) : Ev (d + 5) 133 [.ref 0, .int a1] (g0, N) (fun w h' => ∃ g', h' = (g', N) ∧ HI g' ∧ Fr F_X10_pieces_0 A_X10_pieces_0 g0 g' ∧ ∃ r : Int32, w = some (.int r) ∧ True) := by
  have hF0 : Fr F_X10_pieces_0 A_X10_pieces_0 g0 g0 := Fr.rf
  refine Ev.mk rfl rfl ⟨Nat.le_of_ble_eq_true rfl, Or.inr (q_rc hI0.1 kx_0 rfl)⟩ ?_
  show At _ none _ _ (0, [(0, .ref 0), (1, .int a1)], [], (_, _)) _
  refine At.enter rfl ?_
  refine r_aload_n rfl ?_
  refine q_getR (Sh.ref hI0.1 kx_0 rfl) ?_
  refine r_iload_n rfl ?_
  refine q_inlV 8 rfl [.ref 1, .int a1] [] (Nat.le_of_ble_eq_true rfl) rfl ?_
  refine Ev.mk rfl rfl ⟨Nat.le_of_ble_eq_true rfl, Or.inr (q_rc hI0.1 kx_1 rfl)⟩ ?_
  show At _ none _ _ (0, [(0, .ref 1), (1, .int a1)], [], (_, _)) _
  refine At.enter rfl ?_
  refine r_iload_n rfl ?_
  refine r_ifs 4 rfl (fun c23 => ?_) (fun c23 => ?_)
  · have c23_ : a1.toInt < 0 := en_k_lt_t c23
    refine At.enter rfl ?_
    refine r_iconst 0 rfl ?_
    refine Ar.fall 17 rfl ?_
    refine At.enter rfl ?_
    refine q_iretz (by decide) ?_
    refine At.enter rfl ?_
    refine r_ift (by decide) ?_
    refine At.enter rfl ?_
    refine r_iconst (-1) rfl ?_
    refine Ar.fall 23 rfl ?_
    refine At.enter rfl ?_
    refine r_ireti ?_
    exact ⟨_, rfl, hI0, hF0, _, rfl, trivial⟩
  · have c23_ : a1.toInt ≥ 0 := en_k_lt_f c23
    refine At.enter rfl ?_
    refine r_iload_n rfl ?_
    refine r_aload_n rfl ?_
    obtain ⟨v24, hv24⟩ : ∃ v, gI g0 1 4 = v := ⟨_, rfl⟩
    have rv24 := RgF.at hI0.2.1 (p := 1) (b := 4) rfl
    rw [hv24] at rv24
    dsimp only at rv24
    refine q_getI (Sh.int hI0.1 kx_1 rfl) v24 hv24 ?_
    have bv26 := q_bnd a1
    have bv27 := q_bnd v24
    refine r_ics 12 rfl (fun c25 => ?_) (fun c25 => ?_)
    · have c25_ : a1.toInt ≥ v24.toInt := en_i_ge_t c25
      refine At.enter rfl ?_
      refine r_iconst 0 rfl ?_
      refine Ar.fall 17 rfl ?_
      refine At.enter rfl ?_
      refine q_iretz (by decide) ?_
      refine At.enter rfl ?_
      refine r_ift (by decide) ?_
      refine At.enter rfl ?_
      refine r_iconst (-1) rfl ?_
      refine Ar.fall 23 rfl ?_
      refine At.enter rfl ?_
      refine r_ireti ?_
      exact ⟨_, rfl, hI0, hF0, _, rfl, trivial⟩
    · have c25_ : a1.toInt < v24.toInt := en_i_ge_f c25
      refine At.enter rfl ?_
      refine r_iconst 1 rfl ?_
      refine r_goto ?_
      refine At.enter rfl ?_
      refine q_iretz (by decide) ?_
      refine At.enter rfl ?_
      refine r_iff 11 rfl (by decide) ?_
      refine At.enter rfl ?_
      refine r_aload_n rfl ?_
      refine q_getR (Sh.ref hI0.1 kx_0 rfl) ?_
      refine r_iload_n rfl ?_
      refine r_callV 19 rfl [.ref 184, .int a1] [] (Nat.le_of_ble_eq_true rfl) rfl (T_X9_minutesInPieces_184 _ hI0 a1) ?_
      rintro _ _ ⟨g28, rfl, hI29, hF30, v31, rfl, hr32⟩
      refine At.sti ?_
      have hF33 := Fr.tr hF0 hF30 rfl rfl
      refine At.enter rfl ?_
      refine r_goto ?_
      refine At.enter rfl ?_
      refine r_ireti ?_
      exact ⟨_, rfl, hI29, hF33, _, rfl, trivial⟩

def F_X10_sign_0 : List (Nat × Nat) := [(0, 17), (1, 12)]
def A_X10_sign_0 : List Nat := [14, 15, 230]
set_option maxRecDepth 100000 in
set_option maxHeartbeats 4000000 in
theorem T_X10_sign_0 (d : Nat) {N : Nat} {g0 : List en_E} (hI0 : HI g0) (a1 : Int32) (a2 : Int32) : Ev (d + 3) 134 [.ref 0, .int a1, .int a2] (g0, N) (fun w h' => ∃ g', h' = (g', N) ∧ HI g' ∧ Fr F_X10_sign_0 A_X10_sign_0 g0 g' ∧ ∃ r : Int32, w = some (.int r) ∧ ((-5) ≤ r.toInt ∧ r.toInt ≤ 8) ∧ (((¬ (0 ≤ a2.toInt ∧ a2.toInt ≤ 99) → r.toInt = -1 ∧ (gI g' 1 12).toInt = (gI g0 1 12).toInt) ∧ ((0 ≤ a2.toInt ∧ a2.toInt ≤ 99) ∧ ¬ (0 ≤ a1.toInt ∧ a1.toInt < (gI g0 1 0).toInt) → r.toInt = -2 ∧ (gI g' 1 12).toInt = (gI g0 1 12).toInt) ∧ ((0 ≤ a2.toInt ∧ a2.toInt ≤ 99) ∧ (0 ≤ a1.toInt ∧ a1.toInt < (gI g0 1 0).toInt) ∧ 8 ≤ (gI g0 1 12).toInt → r.toInt = -5 ∧ (gI g' 1 12).toInt = (gI g0 1 12).toInt) ∧ ((0 ≤ a2.toInt ∧ a2.toInt ≤ 99) ∧ (0 ≤ a1.toInt ∧ a1.toInt < (gI g0 1 0).toInt) ∧ (gI g0 1 12).toInt < 8 → r.toInt = (gI g0 1 12).toInt + 1 ∧ (gI g' 1 12).toInt = (gI g0 1 12).toInt + 1)) ∧ (∀ i : Int, 0 ≤ i → i < 8 → (eA g' 14 (i)).toInt = if (0 ≤ a2.toInt ∧ a2.toInt ≤ 99 ∧ 0 ≤ a1.toInt ∧ a1.toInt < (gI g0 1 0).toInt ∧ (gI g0 1 12).toInt < 8) ∧ i = (gI g0 1 12).toInt then a1.toInt else (eA g0 14 (i)).toInt) ∧ (∀ i : Int, 0 ≤ i → i < 8 → (eA g' 15 (i)).toInt = if (0 ≤ a2.toInt ∧ a2.toInt ≤ 99 ∧ 0 ≤ a1.toInt ∧ a1.toInt < (gI g0 1 0).toInt ∧ (gI g0 1 12).toInt < 8) ∧ i = (gI g0 1 12).toInt then a2.toInt else (eA g0 15 (i)).toInt))) := by
  have hF0 : Fr F_X10_sign_0 A_X10_sign_0 g0 g0 := Fr.rf
  refine Ev.mk rfl rfl ⟨Nat.le_of_ble_eq_true rfl, Or.inr (q_rc hI0.1 kx_0 rfl)⟩ ?_
  show At _ none _ _ (0, [(0, .ref 0), (1, .int a1), (2, .int a2)], [], (_, _)) _
  refine At.enter rfl ?_
  refine r_iload_n rfl ?_
  refine r_iconst 0 rfl ?_
  refine r_bipush 99 rfl ?_
  refine q_inlS 7 rfl [.int a2, .int 0, .int 99] [] (Nat.le_of_ble_eq_true rfl) rfl ?_
  refine Ev.mk rfl rfl ⟨Nat.le_of_ble_eq_true rfl, Or.inl rfl⟩ ?_
  show At _ none _ _ (0, [(0, .int a2), (1, .int 0), (2, .int 99)], [], (_, _)) _
  refine At.enter rfl ?_
  refine r_iload_n rfl ?_
  refine r_iload_n rfl ?_
  refine r_ics 5 rfl (fun c107 => ?_) (fun c107 => ?_)
  · have c107_ : a2.toInt < 0 := en_i_lt_t c107
    refine At.enter rfl ?_
    refine r_iconst 0 rfl ?_
    refine Ar.fall 15 rfl ?_
    refine At.enter rfl ?_
    refine q_iretz (by decide) ?_
    refine At.enter rfl ?_
    refine r_iff 10 rfl (by decide) ?_
    refine At.enter rfl ?_
    refine r_aload_n rfl ?_
    refine r_iconst (-1) rfl ?_
    refine r_callV 15 rfl [.ref 0, .int (-1)] [] (Nat.le_of_ble_eq_true rfl) rfl (T_X10_refused_0 _ hI0 (-1) (by decide)) ?_
    rintro _ _ ⟨g108, rfl, hI109, hF110, v111, rfl, hr112⟩
    refine At.sti ?_
    have hF113 := Fr.tr hF0 hF110 rfl rfl
    have zv114 : ((-1) : Int32).toInt = (-1) := rfl
    refine At.enter rfl ?_
    refine r_ireti ?_
    obtain ⟨v115, hv115⟩ : ∃ v, gI g0 1 12 = v := ⟨_, rfl⟩
    have rv115 := RgF.at hI0.2.1 (p := 1) (b := 12) rfl
    rw [hv115] at rv115
    dsimp only at rv115
    have tv115 := congrArg Int32.toInt hv115
    have x116 := HI.eqI hI109 (p := 1) (b := 12) (((hF110.1 1 12 (by decide)).trans hv115))
    have x117 := HI.eqI hI0 (p := 1) (b := 12) (hv115)
    obtain ⟨v118, hv118⟩ : ∃ v, gI g0 1 0 = v := ⟨_, rfl⟩
    have rv118 := RgF.at hI0.2.1 (p := 1) (b := 0) rfl
    rw [hv118] at rv118
    dsimp only at rv118
    have tv118 := congrArg Int32.toInt hv118
    have x119 := HI.eqI hI0 (p := 1) (b := 0) (hv118)
    have x120 := HI.eqI hI0 (p := 1) (b := 0) (hv118)
    have x121 := HI.eqI hI0 (p := 1) (b := 12) (hv115)
    exact ⟨_, rfl, hI109, hF113, _, rfl, by omega, ⟨(by omega), (by intro i i0 i1; refine Eq.trans ?_ (if_neg (show ¬ ((0 ≤ a2.toInt ∧ a2.toInt ≤ 99 ∧ 0 ≤ a1.toInt ∧ a1.toInt < (gI g0 1 0).toInt ∧ (gI g0 1 12).toInt < 8) ∧ i = (gI g0 1 12).toInt) from by omega)).symm; refine (eA_ti ((hF110.2.1 14 (by decide)))).trans ?_; (first | rfl | exact eA_ix (by omega) | omega)), (by intro i i0 i1; refine Eq.trans ?_ (if_neg (show ¬ ((0 ≤ a2.toInt ∧ a2.toInt ≤ 99 ∧ 0 ≤ a1.toInt ∧ a1.toInt < (gI g0 1 0).toInt ∧ (gI g0 1 12).toInt < 8) ∧ i = (gI g0 1 12).toInt) from by omega)).symm; refine (eA_ti ((hF110.2.1 15 (by decide)))).trans ?_; (first | rfl | exact eA_ix (by omega) | omega))⟩⟩
  · have c107_ : a2.toInt ≥ 0 := en_i_lt_f c107
    refine At.enter rfl ?_
    refine r_iload_n rfl ?_
    refine r_iload_n rfl ?_
    refine r_ics 10 rfl (fun c122 => ?_) (fun c122 => ?_)
    · have c122_ : a2.toInt > 99 := en_i_gt_t c122
      refine At.enter rfl ?_
      refine r_iconst 0 rfl ?_
      refine Ar.fall 15 rfl ?_
      refine At.enter rfl ?_
      refine q_iretz (by decide) ?_
      refine At.enter rfl ?_
      refine r_iff 10 rfl (by decide) ?_
      refine At.enter rfl ?_
      refine r_aload_n rfl ?_
      refine r_iconst (-1) rfl ?_
      refine r_callV 15 rfl [.ref 0, .int (-1)] [] (Nat.le_of_ble_eq_true rfl) rfl (T_X10_refused_0 _ hI0 (-1) (by decide)) ?_
      rintro _ _ ⟨g123, rfl, hI124, hF125, v126, rfl, hr127⟩
      refine At.sti ?_
      have hF128 := Fr.tr hF0 hF125 rfl rfl
      have zv129 : ((-1) : Int32).toInt = (-1) := rfl
      refine At.enter rfl ?_
      refine r_ireti ?_
      obtain ⟨v130, hv130⟩ : ∃ v, gI g0 1 12 = v := ⟨_, rfl⟩
      have rv130 := RgF.at hI0.2.1 (p := 1) (b := 12) rfl
      rw [hv130] at rv130
      dsimp only at rv130
      have tv130 := congrArg Int32.toInt hv130
      have x131 := HI.eqI hI124 (p := 1) (b := 12) (((hF125.1 1 12 (by decide)).trans hv130))
      have x132 := HI.eqI hI0 (p := 1) (b := 12) (hv130)
      obtain ⟨v133, hv133⟩ : ∃ v, gI g0 1 0 = v := ⟨_, rfl⟩
      have rv133 := RgF.at hI0.2.1 (p := 1) (b := 0) rfl
      rw [hv133] at rv133
      dsimp only at rv133
      have tv133 := congrArg Int32.toInt hv133
      have x134 := HI.eqI hI0 (p := 1) (b := 0) (hv133)
      have x135 := HI.eqI hI0 (p := 1) (b := 0) (hv133)
      have x136 := HI.eqI hI0 (p := 1) (b := 12) (hv130)
      exact ⟨_, rfl, hI124, hF128, _, rfl, by omega, ⟨(by omega), (by intro i i0 i1; refine Eq.trans ?_ (if_neg (show ¬ ((0 ≤ a2.toInt ∧ a2.toInt ≤ 99 ∧ 0 ≤ a1.toInt ∧ a1.toInt < (gI g0 1 0).toInt ∧ (gI g0 1 12).toInt < 8) ∧ i = (gI g0 1 12).toInt) from by omega)).symm; refine (eA_ti ((hF125.2.1 14 (by decide)))).trans ?_; (first | rfl | exact eA_ix (by omega) | omega)), (by intro i i0 i1; refine Eq.trans ?_ (if_neg (show ¬ ((0 ≤ a2.toInt ∧ a2.toInt ≤ 99 ∧ 0 ≤ a1.toInt ∧ a1.toInt < (gI g0 1 0).toInt ∧ (gI g0 1 12).toInt < 8) ∧ i = (gI g0 1 12).toInt) from by omega)).symm; refine (eA_ti ((hF125.2.1 15 (by decide)))).trans ?_; (first | rfl | exact eA_ix (by omega) | omega))⟩⟩
    · have c122_ : a2.toInt ≤ 99 := en_i_gt_f c122
      refine At.enter rfl ?_
      refine r_iconst 1 rfl ?_
      refine r_goto ?_
      refine At.enter rfl ?_
      refine q_iretz (by decide) ?_
      refine At.enter rfl ?_
      refine r_ift (by decide) ?_
      refine At.enter rfl ?_
      refine r_aload_n rfl ?_
      refine q_getR (Sh.ref hI0.1 kx_0 rfl) ?_
      refine r_iload_n rfl ?_
      refine q_inlV 24 rfl [.ref 1, .int a1] [] (Nat.le_of_ble_eq_true rfl) rfl ?_
      refine Ev.mk rfl rfl ⟨Nat.le_of_ble_eq_true rfl, Or.inr (q_rc hI0.1 kx_1 rfl)⟩ ?_
      show At _ none _ _ (0, [(0, .ref 1), (1, .int a1)], [], (_, _)) _
      refine At.enter rfl ?_
      refine r_iload_n rfl ?_
      refine r_ifs 4 rfl (fun c137 => ?_) (fun c137 => ?_)
      · have c137_ : a1.toInt < 0 := en_k_lt_t c137
        refine At.enter rfl ?_
        refine r_iconst 0 rfl ?_
        refine Ar.fall 17 rfl ?_
        refine At.enter rfl ?_
        refine q_iretz (by decide) ?_
        refine At.enter rfl ?_
        refine r_iff 27 rfl (by decide) ?_
        refine At.enter rfl ?_
        refine r_aload_n rfl ?_
        refine r_bipush (-2) rfl ?_
        refine r_callV 33 rfl [.ref 0, .int (-2)] [] (Nat.le_of_ble_eq_true rfl) rfl (T_X10_refused_0 _ hI0 (-2) (by decide)) ?_
        rintro _ _ ⟨g138, rfl, hI139, hF140, v141, rfl, hr142⟩
        refine At.sti ?_
        have hF143 := Fr.tr hF0 hF140 rfl rfl
        have zv144 : ((-2) : Int32).toInt = (-2) := rfl
        refine At.enter rfl ?_
        refine r_ireti ?_
        obtain ⟨v145, hv145⟩ : ∃ v, gI g0 1 12 = v := ⟨_, rfl⟩
        have rv145 := RgF.at hI0.2.1 (p := 1) (b := 12) rfl
        rw [hv145] at rv145
        dsimp only at rv145
        have tv145 := congrArg Int32.toInt hv145
        have x146 := HI.eqI hI139 (p := 1) (b := 12) (((hF140.1 1 12 (by decide)).trans hv145))
        have x147 := HI.eqI hI0 (p := 1) (b := 12) (hv145)
        obtain ⟨v148, hv148⟩ : ∃ v, gI g0 1 0 = v := ⟨_, rfl⟩
        have rv148 := RgF.at hI0.2.1 (p := 1) (b := 0) rfl
        rw [hv148] at rv148
        dsimp only at rv148
        have tv148 := congrArg Int32.toInt hv148
        have x149 := HI.eqI hI0 (p := 1) (b := 0) (hv148)
        have x150 := HI.eqI hI0 (p := 1) (b := 0) (hv148)
        have x151 := HI.eqI hI0 (p := 1) (b := 12) (hv145)
        exact ⟨_, rfl, hI139, hF143, _, rfl, by omega, ⟨(by omega), (by intro i i0 i1; refine Eq.trans ?_ (if_neg (show ¬ ((0 ≤ a2.toInt ∧ a2.toInt ≤ 99 ∧ 0 ≤ a1.toInt ∧ a1.toInt < (gI g0 1 0).toInt ∧ (gI g0 1 12).toInt < 8) ∧ i = (gI g0 1 12).toInt) from by omega)).symm; refine (eA_ti ((hF140.2.1 14 (by decide)))).trans ?_; (first | rfl | exact eA_ix (by omega) | omega)), (by intro i i0 i1; refine Eq.trans ?_ (if_neg (show ¬ ((0 ≤ a2.toInt ∧ a2.toInt ≤ 99 ∧ 0 ≤ a1.toInt ∧ a1.toInt < (gI g0 1 0).toInt ∧ (gI g0 1 12).toInt < 8) ∧ i = (gI g0 1 12).toInt) from by omega)).symm; refine (eA_ti ((hF140.2.1 15 (by decide)))).trans ?_; (first | rfl | exact eA_ix (by omega) | omega))⟩⟩
      · have c137_ : a1.toInt ≥ 0 := en_k_lt_f c137
        refine At.enter rfl ?_
        refine r_iload_n rfl ?_
        refine r_aload_n rfl ?_
        obtain ⟨v152, hv152⟩ : ∃ v, gI g0 1 0 = v := ⟨_, rfl⟩
        have rv152 := RgF.at hI0.2.1 (p := 1) (b := 0) rfl
        rw [hv152] at rv152
        dsimp only at rv152
        refine q_getI (Sh.int hI0.1 kx_1 rfl) v152 hv152 ?_
        have bv154 := q_bnd a1
        have bv155 := q_bnd v152
        refine r_ics 12 rfl (fun c153 => ?_) (fun c153 => ?_)
        · have c153_ : a1.toInt ≥ v152.toInt := en_i_ge_t c153
          refine At.enter rfl ?_
          refine r_iconst 0 rfl ?_
          refine Ar.fall 17 rfl ?_
          refine At.enter rfl ?_
          refine q_iretz (by decide) ?_
          refine At.enter rfl ?_
          refine r_iff 27 rfl (by decide) ?_
          refine At.enter rfl ?_
          refine r_aload_n rfl ?_
          refine r_bipush (-2) rfl ?_
          refine r_callV 33 rfl [.ref 0, .int (-2)] [] (Nat.le_of_ble_eq_true rfl) rfl (T_X10_refused_0 _ hI0 (-2) (by decide)) ?_
          rintro _ _ ⟨g156, rfl, hI157, hF158, v159, rfl, hr160⟩
          refine At.sti ?_
          have hF161 := Fr.tr hF0 hF158 rfl rfl
          have zv162 : ((-2) : Int32).toInt = (-2) := rfl
          refine At.enter rfl ?_
          refine r_ireti ?_
          obtain ⟨v163, hv163⟩ : ∃ v, gI g0 1 12 = v := ⟨_, rfl⟩
          have rv163 := RgF.at hI0.2.1 (p := 1) (b := 12) rfl
          rw [hv163] at rv163
          dsimp only at rv163
          have tv163 := congrArg Int32.toInt hv163
          have x164 := HI.eqI hI157 (p := 1) (b := 12) (((hF158.1 1 12 (by decide)).trans hv163))
          have x165 := HI.eqI hI0 (p := 1) (b := 12) (hv163)
          have x166 := HI.eqI hI0 (p := 1) (b := 0) (hv152)
          have x167 := HI.eqI hI0 (p := 1) (b := 0) (hv152)
          have x168 := HI.eqI hI0 (p := 1) (b := 12) (hv163)
          exact ⟨_, rfl, hI157, hF161, _, rfl, by omega, ⟨(by omega), (by intro i i0 i1; refine Eq.trans ?_ (if_neg (show ¬ ((0 ≤ a2.toInt ∧ a2.toInt ≤ 99 ∧ 0 ≤ a1.toInt ∧ a1.toInt < (gI g0 1 0).toInt ∧ (gI g0 1 12).toInt < 8) ∧ i = (gI g0 1 12).toInt) from by omega)).symm; refine (eA_ti ((hF158.2.1 14 (by decide)))).trans ?_; (first | rfl | exact eA_ix (by omega) | omega)), (by intro i i0 i1; refine Eq.trans ?_ (if_neg (show ¬ ((0 ≤ a2.toInt ∧ a2.toInt ≤ 99 ∧ 0 ≤ a1.toInt ∧ a1.toInt < (gI g0 1 0).toInt ∧ (gI g0 1 12).toInt < 8) ∧ i = (gI g0 1 12).toInt) from by omega)).symm; refine (eA_ti ((hF158.2.1 15 (by decide)))).trans ?_; (first | rfl | exact eA_ix (by omega) | omega))⟩⟩
        · have c153_ : a1.toInt < v152.toInt := en_i_ge_f c153
          refine At.enter rfl ?_
          refine r_iconst 1 rfl ?_
          refine r_goto ?_
          refine At.enter rfl ?_
          refine q_iretz (by decide) ?_
          refine At.enter rfl ?_
          refine r_ift (by decide) ?_
          refine At.enter rfl ?_
          refine r_aload_n rfl ?_
          refine q_getR (Sh.ref hI0.1 kx_0 rfl) ?_
          obtain ⟨v169, hv169⟩ : ∃ v, gI g0 1 12 = v := ⟨_, rfl⟩
          have rv169 := RgF.at hI0.2.1 (p := 1) (b := 12) rfl
          rw [hv169] at rv169
          dsimp only at rv169
          refine q_getI (Sh.int hI0.1 kx_1 rfl) v169 hv169 ?_
          refine r_bipush 8 rfl ?_
          refine r_ics 46 rfl (fun c170 => ?_) (fun c170 => ?_)
          · have c170_ : v169.toInt < 8 := en_i_lt_t c170
            refine At.enter rfl ?_
            refine r_aload_n rfl ?_
            refine q_getR (Sh.ref hI0.1 kx_0 rfl) ?_
            refine q_getR (Sh.ref hI0.1 kx_1 rfl) ?_
            refine r_aload_n rfl ?_
            refine q_getR (Sh.ref hI0.1 kx_0 rfl) ?_
            refine q_getI (Sh.int hI0.1 kx_1 rfl) v169 hv169 ?_
            refine r_iload_n rfl ?_
            refine q_iast (Sh.arr hI0.1 ka_14) (v169.toInt) rfl (by omega) ?_
            have hI171 := HI.wA0 hI0 ka_14 (p := 14) rfl rfl (v169.toInt) (a1)
            have hF172 := Fr.wA (p := 14) (j := v169.toInt) (v := a1) hF0 rfl
            refine r_aload_n rfl ?_
            refine q_getR (Sh.ref hI171.1 kx_0 rfl) ?_
            refine q_getR (Sh.ref hI171.1 kx_1 rfl) ?_
            refine r_aload_n rfl ?_
            refine q_getR (Sh.ref hI171.1 kx_0 rfl) ?_
            refine q_getI (Sh.int hI171.1 kx_1 rfl) v169 ((gI_sW).trans hv169) ?_
            refine r_iload_n rfl ?_
            refine q_iast (Sh.arr hI171.1 ka_15) (v169.toInt) rfl (by omega) ?_
            have hI173 := HI.wA0 hI171 ka_15 (p := 15) rfl rfl (v169.toInt) (a2)
            have hF174 := Fr.wA (p := 15) (j := v169.toInt) (v := a2) hF172 rfl
            refine r_aload_n rfl ?_
            refine q_getR (Sh.ref hI173.1 kx_0 rfl) ?_
            refine r_dup rfl ?_
            refine q_getI (Sh.int hI173.1 kx_1 rfl) v169 (((gI_sW).trans (gI_sW)).trans hv169) ?_
            refine r_iconst 1 rfl ?_
            refine q_iadd (v169.toInt + 1) rfl (by omega) (fun v175 hv175 => ?_)
            refine q_putI (Sh.int hI173.1 kx_1 rfl) rfl ?_
            have hI176 := HI.wI1 hI173 kx_1 rfl (p := 1) (b := 12) (v := v175) rfl (by dsimp only; omega)
            have hF177 := Fr.wI (p := 1) (b := 12) (v := v175) hF174 rfl
            refine r_aload_n rfl ?_
            refine r_aload_n rfl ?_
            refine q_getR (Sh.ref hI176.1 kx_0 rfl) ?_
            refine q_getI (Sh.int hI176.1 kx_1 rfl) v175 (gI_sI_eq hI173.1 kx_1 rfl _) ?_
            refine q_inlV 109 rfl [.ref 0, .int v175] [] (Nat.le_of_ble_eq_true rfl) rfl ?_
            refine Ev.mk rfl rfl ⟨Nat.le_of_ble_eq_true rfl, Or.inr (q_rc hI176.1 kx_0 rfl)⟩ ?_
            show At _ none _ _ (0, [(0, .ref 0), (1, .int v175)], [], (_, _)) _
            refine At.enter rfl ?_
            refine r_aload_n rfl ?_
            refine r_iconst 0 rfl ?_
            refine q_putI (Sh.int hI176.1 kx_0 rfl) rfl ?_
            have hI178 := HI.wI0 hI176 kx_0 rfl (p := 0) (b := 17) (v := 0) rfl
            have hF179 := Fr.wI (p := 0) (b := 17) (v := 0) hF177 rfl
            refine r_iload_n rfl ?_
            refine q_ireti ?_
            refine At.enter rfl ?_
            refine r_ireti ?_
            have x180 := HI.eqI hI178 (p := 1) (b := 12) (((gI_sI_ne (by decide)).trans (gI_sI_eq hI173.1 kx_1 rfl _)))
            have x181 := HI.eqI hI0 (p := 1) (b := 12) (hv169)
            have x182 := HI.eqI hI0 (p := 1) (b := 0) (hv152)
            have x183 := HI.eqI hI0 (p := 1) (b := 0) (hv152)
            have x184 := HI.eqI hI0 (p := 1) (b := 12) (hv169)
            exact ⟨_, rfl, hI178, hF179, _, rfl, by omega, ⟨(by omega), (by intro i i0 i1; exact (Decidable.em ((0 ≤ a2.toInt ∧ a2.toInt ≤ 99 ∧ 0 ≤ a1.toInt ∧ a1.toInt < (gI g0 1 0).toInt ∧ (gI g0 1 12).toInt < 8) ∧ i = (gI g0 1 12).toInt)).elim (fun k35_ => by refine Eq.trans ?_ (if_pos k35_).symm; refine (eA_ti (((gA_sI).trans ((gA_sI).trans (gA_sA_ne (by decide)))))).trans ?_; exact (Decidable.em (i = v169.toInt)).elim (fun k36_ => by refine (eA_eqT hI0.1 ka_14 k36_ (by first | decide | omega) (by first | decide | omega)).trans ?_; (first | (rfl) | (omega))) (fun k36_ => by refine (eA_neT hI0.1 ka_14 k36_ (by first | decide | omega) (by omega)).trans ?_; (first | rfl | exact eA_ix (by omega) | omega))) (fun k35_ => by refine Eq.trans ?_ (if_neg k35_).symm; refine (eA_ti (((gA_sI).trans ((gA_sI).trans (gA_sA_ne (by decide)))))).trans ?_; exact (Decidable.em (i = v169.toInt)).elim (fun k37_ => by refine (eA_eqT hI0.1 ka_14 k37_ (by first | decide | omega) (by first | decide | omega)).trans ?_; (first | (rfl) | (omega))) (fun k37_ => by refine (eA_neT hI0.1 ka_14 k37_ (by first | decide | omega) (by omega)).trans ?_; (first | rfl | exact eA_ix (by omega) | omega)))), (by intro i i0 i1; exact (Decidable.em ((0 ≤ a2.toInt ∧ a2.toInt ≤ 99 ∧ 0 ≤ a1.toInt ∧ a1.toInt < (gI g0 1 0).toInt ∧ (gI g0 1 12).toInt < 8) ∧ i = (gI g0 1 12).toInt)).elim (fun k38_ => by refine Eq.trans ?_ (if_pos k38_).symm; refine (eA_ti (((gA_sI).trans (gA_sI)))).trans ?_; exact (Decidable.em (i = v169.toInt)).elim (fun k39_ => by refine (eA_eqT hI171.1 ka_15 k39_ (by first | decide | omega) (by first | decide | omega)).trans ?_; (first | (rfl) | (omega))) (fun k39_ => by refine (eA_neT hI171.1 ka_15 k39_ (by first | decide | omega) (by omega)).trans ?_; refine (eA_ti ((gA_sA_ne (by decide)))).trans ?_; (first | rfl | exact eA_ix (by omega) | omega))) (fun k38_ => by refine Eq.trans ?_ (if_neg k38_).symm; refine (eA_ti (((gA_sI).trans (gA_sI)))).trans ?_; exact (Decidable.em (i = v169.toInt)).elim (fun k40_ => by refine (eA_eqT hI171.1 ka_15 k40_ (by first | decide | omega) (by first | decide | omega)).trans ?_; (first | (rfl) | (omega))) (fun k40_ => by refine (eA_neT hI171.1 ka_15 k40_ (by first | decide | omega) (by omega)).trans ?_; refine (eA_ti ((gA_sA_ne (by decide)))).trans ?_; (first | rfl | exact eA_ix (by omega) | omega))))⟩⟩
          · have c170_ : v169.toInt ≥ 8 := en_i_lt_f c170
            refine At.enter rfl ?_
            refine r_aload_n rfl ?_
            refine r_bipush (-5) rfl ?_
            refine r_callV 52 rfl [.ref 0, .int (-5)] [] (Nat.le_of_ble_eq_true rfl) rfl (T_X10_refused_0 _ hI0 (-5) (by decide)) ?_
            rintro _ _ ⟨g185, rfl, hI186, hF187, v188, rfl, hr189⟩
            refine At.sti ?_
            have hF190 := Fr.tr hF0 hF187 rfl rfl
            have zv191 : ((-5) : Int32).toInt = (-5) := rfl
            refine At.enter rfl ?_
            refine r_ireti ?_
            have x192 := HI.eqI hI186 (p := 1) (b := 12) (((hF187.1 1 12 (by decide)).trans hv169))
            have x193 := HI.eqI hI0 (p := 1) (b := 12) (hv169)
            have x194 := HI.eqI hI0 (p := 1) (b := 0) (hv152)
            have x195 := HI.eqI hI0 (p := 1) (b := 0) (hv152)
            have x196 := HI.eqI hI0 (p := 1) (b := 12) (hv169)
            exact ⟨_, rfl, hI186, hF190, _, rfl, by omega, ⟨(by omega), (by intro i i0 i1; refine Eq.trans ?_ (if_neg (show ¬ ((0 ≤ a2.toInt ∧ a2.toInt ≤ 99 ∧ 0 ≤ a1.toInt ∧ a1.toInt < (gI g0 1 0).toInt ∧ (gI g0 1 12).toInt < 8) ∧ i = (gI g0 1 12).toInt) from by omega)).symm; refine (eA_ti ((hF187.2.1 14 (by decide)))).trans ?_; (first | rfl | exact eA_ix (by omega) | omega)), (by intro i i0 i1; refine Eq.trans ?_ (if_neg (show ¬ ((0 ≤ a2.toInt ∧ a2.toInt ≤ 99 ∧ 0 ≤ a1.toInt ∧ a1.toInt < (gI g0 1 0).toInt ∧ (gI g0 1 12).toInt < 8) ∧ i = (gI g0 1 12).toInt) from by omega)).symm; refine (eA_ti ((hF187.2.1 15 (by decide)))).trans ?_; (first | rfl | exact eA_ix (by omega) | omega))⟩⟩

def F_X10_clear_0 : List (Nat × Nat) := [(1, 12)]
def A_X10_clear_0 : List Nat := []
set_option maxRecDepth 100000 in
set_option maxHeartbeats 4000000 in
theorem T_X10_clear_0 (d : Nat) {N : Nat} {g0 : List en_E} (hI0 : HI g0) : Ev (d + 1) 135 [.ref 0] (g0, N) (fun w h' => ∃ g', h' = (g', N) ∧ HI g' ∧ Fr F_X10_clear_0 A_X10_clear_0 g0 g' ∧ ∃ r : Int32, w = some (.int r) ∧ (0 ≤ r.toInt ∧ r.toInt ≤ 8) ∧ (r.toInt = (gI g0 1 12).toInt ∧ (gI g' 1 12).toInt = 0)) := by
  have hF0 : Fr F_X10_clear_0 A_X10_clear_0 g0 g0 := Fr.rf
  refine Ev.mk rfl rfl ⟨Nat.le_of_ble_eq_true rfl, Or.inr (q_rc hI0.1 kx_0 rfl)⟩ ?_
  show At _ none _ _ (0, [(0, .ref 0)], [], (_, _)) _
  refine At.enter rfl ?_
  refine r_aload_n rfl ?_
  refine q_getR (Sh.ref hI0.1 kx_0 rfl) ?_
  obtain ⟨v7, hv7⟩ : ∃ v, gI g0 1 12 = v := ⟨_, rfl⟩
  have rv7 := RgF.at hI0.2.1 (p := 1) (b := 12) rfl
  rw [hv7] at rv7
  dsimp only at rv7
  refine q_getI (Sh.int hI0.1 kx_1 rfl) v7 hv7 ?_
  refine r_istore_n ([(1, .int v7), (0, .ref 0)]) rfl ?_
  refine r_aload_n rfl ?_
  refine q_getR (Sh.ref hI0.1 kx_0 rfl) ?_
  refine r_iconst 0 rfl ?_
  refine q_putI (Sh.int hI0.1 kx_1 rfl) rfl ?_
  have hI8 := HI.wI1 hI0 kx_1 rfl (p := 1) (b := 12) (v := 0) rfl (by decide)
  have hF9 := Fr.wI (p := 1) (b := 12) (v := 0) hF0 rfl
  refine r_iload_n rfl ?_
  refine r_ireti ?_
  have x10 := HI.eqI hI8 (p := 1) (b := 12) ((gI_sI_eq hI0.1 kx_1 rfl _))
  have zv11 : (0 : Int32).toInt = 0 := rfl
  have x12 := HI.eqI hI0 (p := 1) (b := 12) (hv7)
  exact ⟨_, rfl, hI8, hF9, _, rfl, by omega, (by omega)⟩

def F_X10_thieves_0 : List (Nat × Nat) := []
def A_X10_thieves_0 : List Nat := []
set_option maxRecDepth 100000 in
set_option maxHeartbeats 4000000 in
theorem T_X10_thieves_0 (d : Nat) {N : Nat} {g0 : List en_E} (hI0 : HI g0) : Ev (d + 6) 136 [.ref 0] (g0, N) (fun w h' => ∃ g', h' = (g', N) ∧ HI g' ∧ Fr F_X10_thieves_0 A_X10_thieves_0 g0 g' ∧ ∃ r : Int32, w = some (.int r) ∧ True ∧ (r.toInt = (ACI (FITX g0) (gI g0 1 0).toInt).toInt)) := by
  have hF0 : Fr F_X10_thieves_0 A_X10_thieves_0 g0 g0 := Fr.rf
  refine Ev.mk rfl rfl ⟨Nat.le_of_ble_eq_true rfl, Or.inr (q_rc hI0.1 kx_0 rfl)⟩ ?_
  show At _ none _ _ (0, [(0, .ref 0)], [], (_, _)) _
  refine At.enter rfl ?_
  refine r_aload_n rfl ?_
  refine q_getR (Sh.ref hI0.1 kx_0 rfl) ?_
  refine r_callV 7 rfl [.ref 184] [] (Nat.le_of_ble_eq_true rfl) rfl (T_X9_suspects_184 _ hI0) ?_
  rintro _ _ ⟨g13, rfl, hI14, hF15, v16, rfl, hr17⟩
  refine At.sti ?_
  have hF18 := Fr.tr hF0 hF15 rfl rfl
  refine At.enter rfl ?_
  refine r_ireti ?_
  exact ⟨_, rfl, hI14, hF18, _, rfl, trivial, hr17.2⟩

def F_X10_meet_0 : List (Nat × Nat) := []
def A_X10_meet_0 : List Nat := []
set_option maxRecDepth 100000 in
set_option maxHeartbeats 4000000 in
theorem T_X10_meet_0 (d : Nat) {N : Nat} {g0 : List en_E} (hI0 : HI g0) (a1 : Int32) (a2 : Int32) (a3 : Int32) : Ev (d + 4) 137 [.ref 0, .int a1, .int a2, .int a3] (g0, N) (fun w h' => ∃ g', h' = (g', N) ∧ HI g' ∧ Fr F_X10_meet_0 A_X10_meet_0 g0 g' ∧ ∃ r : Int32, w = some (.int r) ∧ True ∧ (((0 ≤ a1.toInt ∧ a1.toInt < (gI g0 1 0).toInt ∧ 0 ≤ a2.toInt ∧ a2.toInt < (gI g0 1 0).toInt ∧ 0 ≤ a3.toInt ∧ a3.toInt ≤ 1) → MEET (NX g0) 144 a1.toInt a2.toInt a3.toInt r.toInt) ∧ (¬ (0 ≤ a1.toInt ∧ a1.toInt < (gI g0 1 0).toInt ∧ 0 ≤ a2.toInt ∧ a2.toInt < (gI g0 1 0).toInt ∧ 0 ≤ a3.toInt ∧ a3.toInt ≤ 1) → r.toInt = -1))) := by
  have hF0 : Fr F_X10_meet_0 A_X10_meet_0 g0 g0 := Fr.rf
  refine Ev.mk rfl rfl ⟨Nat.le_of_ble_eq_true rfl, Or.inr (q_rc hI0.1 kx_0 rfl)⟩ ?_
  show At _ none _ _ (0, [(0, .ref 0), (1, .int a1), (2, .int a2), (3, .int a3)], [], (_, _)) _
  refine At.enter rfl ?_
  refine r_aload_n rfl ?_
  refine q_getR (Sh.ref hI0.1 kx_0 rfl) ?_
  refine r_iload_n rfl ?_
  refine q_inlV 8 rfl [.ref 1, .int a1] [] (Nat.le_of_ble_eq_true rfl) rfl ?_
  refine Ev.mk rfl rfl ⟨Nat.le_of_ble_eq_true rfl, Or.inr (q_rc hI0.1 kx_1 rfl)⟩ ?_
  show At _ none _ _ (0, [(0, .ref 1), (1, .int a1)], [], (_, _)) _
  refine At.enter rfl ?_
  refine r_iload_n rfl ?_
  refine r_ifs 4 rfl (fun c33 => ?_) (fun c33 => ?_)
  · have c33_ : a1.toInt < 0 := en_k_lt_t c33
    refine At.enter rfl ?_
    refine r_iconst 0 rfl ?_
    refine Ar.fall 17 rfl ?_
    refine At.enter rfl ?_
    refine q_iretz (by decide) ?_
    refine At.enter rfl ?_
    refine r_ift (by decide) ?_
    refine At.enter rfl ?_
    refine r_iconst (-1) rfl ?_
    refine r_ireti ?_
    have zv34 : ((-1) : Int32).toInt = (-1) := rfl
    obtain ⟨v35, hv35⟩ : ∃ v, gI g0 1 0 = v := ⟨_, rfl⟩
    have rv35 := RgF.at hI0.2.1 (p := 1) (b := 0) rfl
    rw [hv35] at rv35
    dsimp only at rv35
    have tv35 := congrArg Int32.toInt hv35
    have x36 := HI.eqI hI0 (p := 1) (b := 0) (hv35)
    exact ⟨_, rfl, hI0, hF0, _, rfl, trivial, ⟨fun h => absurd h (by omega), fun _ => by omega⟩⟩
  · have c33_ : a1.toInt ≥ 0 := en_k_lt_f c33
    refine At.enter rfl ?_
    refine r_iload_n rfl ?_
    refine r_aload_n rfl ?_
    obtain ⟨v37, hv37⟩ : ∃ v, gI g0 1 0 = v := ⟨_, rfl⟩
    have rv37 := RgF.at hI0.2.1 (p := 1) (b := 0) rfl
    rw [hv37] at rv37
    dsimp only at rv37
    refine q_getI (Sh.int hI0.1 kx_1 rfl) v37 hv37 ?_
    have bv39 := q_bnd a1
    have bv40 := q_bnd v37
    refine r_ics 12 rfl (fun c38 => ?_) (fun c38 => ?_)
    · have c38_ : a1.toInt ≥ v37.toInt := en_i_ge_t c38
      refine At.enter rfl ?_
      refine r_iconst 0 rfl ?_
      refine Ar.fall 17 rfl ?_
      refine At.enter rfl ?_
      refine q_iretz (by decide) ?_
      refine At.enter rfl ?_
      refine r_ift (by decide) ?_
      refine At.enter rfl ?_
      refine r_iconst (-1) rfl ?_
      refine r_ireti ?_
      have zv41 : ((-1) : Int32).toInt = (-1) := rfl
      have x42 := HI.eqI hI0 (p := 1) (b := 0) (hv37)
      exact ⟨_, rfl, hI0, hF0, _, rfl, trivial, ⟨fun h => absurd h (by omega), fun _ => by omega⟩⟩
    · have c38_ : a1.toInt < v37.toInt := en_i_ge_f c38
      refine At.enter rfl ?_
      refine r_iconst 1 rfl ?_
      refine r_goto ?_
      refine At.enter rfl ?_
      refine q_iretz (by decide) ?_
      refine At.enter rfl ?_
      refine r_iff 11 rfl (by decide) ?_
      refine At.enter rfl ?_
      refine r_aload_n rfl ?_
      refine q_getR (Sh.ref hI0.1 kx_0 rfl) ?_
      refine r_iload_n rfl ?_
      refine q_inlV 19 rfl [.ref 1, .int a2] [] (Nat.le_of_ble_eq_true rfl) rfl ?_
      refine Ev.mk rfl rfl ⟨Nat.le_of_ble_eq_true rfl, Or.inr (q_rc hI0.1 kx_1 rfl)⟩ ?_
      show At _ none _ _ (0, [(0, .ref 1), (1, .int a2)], [], (_, _)) _
      refine At.enter rfl ?_
      refine r_iload_n rfl ?_
      refine r_ifs 4 rfl (fun c43 => ?_) (fun c43 => ?_)
      · have c43_ : a2.toInt < 0 := en_k_lt_t c43
        refine At.enter rfl ?_
        refine r_iconst 0 rfl ?_
        refine Ar.fall 17 rfl ?_
        refine At.enter rfl ?_
        refine q_iretz (by decide) ?_
        refine At.enter rfl ?_
        refine r_ift (by decide) ?_
        refine At.enter rfl ?_
        refine r_iconst (-1) rfl ?_
        refine r_ireti ?_
        have zv44 : ((-1) : Int32).toInt = (-1) := rfl
        have x45 := HI.eqI hI0 (p := 1) (b := 0) (hv37)
        exact ⟨_, rfl, hI0, hF0, _, rfl, trivial, ⟨fun h => absurd h (by omega), fun _ => by omega⟩⟩
      · have c43_ : a2.toInt ≥ 0 := en_k_lt_f c43
        refine At.enter rfl ?_
        refine r_iload_n rfl ?_
        refine r_aload_n rfl ?_
        refine q_getI (Sh.int hI0.1 kx_1 rfl) v37 hv37 ?_
        have bv47 := q_bnd a2
        refine r_ics 12 rfl (fun c46 => ?_) (fun c46 => ?_)
        · have c46_ : a2.toInt ≥ v37.toInt := en_i_ge_t c46
          refine At.enter rfl ?_
          refine r_iconst 0 rfl ?_
          refine Ar.fall 17 rfl ?_
          refine At.enter rfl ?_
          refine q_iretz (by decide) ?_
          refine At.enter rfl ?_
          refine r_ift (by decide) ?_
          refine At.enter rfl ?_
          refine r_iconst (-1) rfl ?_
          refine r_ireti ?_
          have zv48 : ((-1) : Int32).toInt = (-1) := rfl
          have x49 := HI.eqI hI0 (p := 1) (b := 0) (hv37)
          exact ⟨_, rfl, hI0, hF0, _, rfl, trivial, ⟨fun h => absurd h (by omega), fun _ => by omega⟩⟩
        · have c46_ : a2.toInt < v37.toInt := en_i_ge_f c46
          refine At.enter rfl ?_
          refine r_iconst 1 rfl ?_
          refine r_goto ?_
          refine At.enter rfl ?_
          refine q_iretz (by decide) ?_
          refine At.enter rfl ?_
          refine r_iff 22 rfl (by decide) ?_
          refine At.enter rfl ?_
          refine r_iload_n rfl ?_
          refine r_iconst 0 rfl ?_
          refine r_iconst 1 rfl ?_
          refine q_inlS 28 rfl [.int a3, .int 0, .int 1] [] (Nat.le_of_ble_eq_true rfl) rfl ?_
          refine Ev.mk rfl rfl ⟨Nat.le_of_ble_eq_true rfl, Or.inl rfl⟩ ?_
          show At _ none _ _ (0, [(0, .int a3), (1, .int 0), (2, .int 1)], [], (_, _)) _
          refine At.enter rfl ?_
          refine r_iload_n rfl ?_
          refine r_iload_n rfl ?_
          refine r_ics 5 rfl (fun c50 => ?_) (fun c50 => ?_)
          · have c50_ : a3.toInt < 0 := en_i_lt_t c50
            refine At.enter rfl ?_
            refine r_iconst 0 rfl ?_
            refine Ar.fall 15 rfl ?_
            refine At.enter rfl ?_
            refine q_iretz (by decide) ?_
            refine At.enter rfl ?_
            refine r_iff 31 rfl (by decide) ?_
            refine At.enter rfl ?_
            refine r_iconst (-1) rfl ?_
            refine r_ireti ?_
            have zv51 : ((-1) : Int32).toInt = (-1) := rfl
            have x52 := HI.eqI hI0 (p := 1) (b := 0) (hv37)
            exact ⟨_, rfl, hI0, hF0, _, rfl, trivial, ⟨fun h => absurd h (by omega), fun _ => by omega⟩⟩
          · have c50_ : a3.toInt ≥ 0 := en_i_lt_f c50
            refine At.enter rfl ?_
            refine r_iload_n rfl ?_
            refine r_iload_n rfl ?_
            refine r_ics 10 rfl (fun c53 => ?_) (fun c53 => ?_)
            · have c53_ : a3.toInt > 1 := en_i_gt_t c53
              refine At.enter rfl ?_
              refine r_iconst 0 rfl ?_
              refine Ar.fall 15 rfl ?_
              refine At.enter rfl ?_
              refine q_iretz (by decide) ?_
              refine At.enter rfl ?_
              refine r_iff 31 rfl (by decide) ?_
              refine At.enter rfl ?_
              refine r_iconst (-1) rfl ?_
              refine r_ireti ?_
              have zv54 : ((-1) : Int32).toInt = (-1) := rfl
              have x55 := HI.eqI hI0 (p := 1) (b := 0) (hv37)
              exact ⟨_, rfl, hI0, hF0, _, rfl, trivial, ⟨fun h => absurd h (by omega), fun _ => by omega⟩⟩
            · have c53_ : a3.toInt ≤ 1 := en_i_gt_f c53
              refine At.enter rfl ?_
              refine r_iconst 1 rfl ?_
              refine r_goto ?_
              refine At.enter rfl ?_
              refine q_iretz (by decide) ?_
              refine At.enter rfl ?_
              refine r_ift (by decide) ?_
              refine At.enter rfl ?_
              refine r_aload_n rfl ?_
              refine q_getR (Sh.ref hI0.1 kx_0 rfl) ?_
              refine r_iload_n rfl ?_
              refine r_iload_n rfl ?_
              refine r_iload_n rfl ?_
              refine r_callV 43 rfl [.ref 184, .int a1, .int a2, .int a3] [] (Nat.le_of_ble_eq_true rfl) rfl (T_X9_meeting_184 _ hI0 a1 a2 a3) ?_
              rintro _ _ ⟨g56, rfl, hI57, hF58, v59, rfl, hr60⟩
              refine At.sti ?_
              have hF61 := Fr.tr hF0 hF58 rfl rfl
              refine At.enter rfl ?_
              refine r_ireti ?_
              have x62 := HI.eqI hI0 (p := 1) (b := 0) (hv37)
              exact ⟨_, rfl, hI57, hF61, _, rfl, trivial, ⟨fun _ => hr60.2, fun h => absurd (by omega) h⟩⟩

def F_X10_draw_0 : List (Nat × Nat) := [(0, 15), (0, 17), (185, 3), (204, 16), (204, 18)]
def A_X10_draw_0 : List Nat := [205, 206, 207, 208, 209, 210, 211, 212, 213, 214, 215, 216, 218, 219, 228, 229, 230]
set_option maxRecDepth 100000 in
set_option maxHeartbeats 4000000 in
theorem T_X10_draw_0 (d : Nat) {N : Nat} {g0 : List en_E} (hI0 : HI g0) (a1 : Int32) : Ev (d + 6) 138 [.ref 0, .int a1] (g0, N) (fun w h' => ∃ g', h' = (g', N) ∧ HI g' ∧ Fr F_X10_draw_0 A_X10_draw_0 g0 g' ∧ ∃ r : Int32, w = some (.int r) ∧ True) := by
  have hF0 : Fr F_X10_draw_0 A_X10_draw_0 g0 g0 := Fr.rf
  refine Ev.mk rfl rfl ⟨Nat.le_of_ble_eq_true rfl, Or.inr (q_rc hI0.1 kx_0 rfl)⟩ ?_
  show At _ none _ _ (0, [(0, .ref 0), (1, .int a1)], [], (_, _)) _
  refine At.enter rfl ?_
  refine r_iload_n rfl ?_
  refine r_iconst 0 rfl ?_
  refine r_ldcw 1000000 rfl ?_
  refine q_inlS 8 rfl [.int a1, .int 0, .int 1000000] [] (Nat.le_of_ble_eq_true rfl) rfl ?_
  refine Ev.mk rfl rfl ⟨Nat.le_of_ble_eq_true rfl, Or.inl rfl⟩ ?_
  show At _ none _ _ (0, [(0, .int a1), (1, .int 0), (2, .int 1000000)], [], (_, _)) _
  refine At.enter rfl ?_
  refine r_iload_n rfl ?_
  refine r_iload_n rfl ?_
  refine r_ics 5 rfl (fun c7925 => ?_) (fun c7925 => ?_)
  · have c7925_ : a1.toInt < 0 := en_i_lt_t c7925
    refine At.enter rfl ?_
    refine r_iconst 0 rfl ?_
    refine Ar.fall 15 rfl ?_
    refine At.enter rfl ?_
    refine q_iretz (by decide) ?_
    refine At.enter rfl ?_
    refine r_iff 11 rfl (by decide) ?_
    refine At.enter rfl ?_
    refine r_aload_n rfl ?_
    refine r_iconst (-1) rfl ?_
    refine r_callV 16 rfl [.ref 0, .int (-1)] [] (Nat.le_of_ble_eq_true rfl) rfl (T_X10_refused_0 _ hI0 (-1) (by decide)) ?_
    rintro _ _ ⟨g7926, rfl, hI7927, hF7928, v7929, rfl, hr7930⟩
    refine At.sti ?_
    have hF7931 := Fr.tr hF0 hF7928 rfl rfl
    have zv7932 : ((-1) : Int32).toInt = (-1) := rfl
    refine At.enter rfl ?_
    refine r_ireti ?_
    exact ⟨_, rfl, hI7927, hF7931, _, rfl, trivial⟩
  · have c7925_ : a1.toInt ≥ 0 := en_i_lt_f c7925
    refine At.enter rfl ?_
    refine r_iload_n rfl ?_
    refine r_iload_n rfl ?_
    refine r_ics 10 rfl (fun c7933 => ?_) (fun c7933 => ?_)
    · have c7933_ : a1.toInt > 1000000 := en_i_gt_t c7933
      refine At.enter rfl ?_
      refine r_iconst 0 rfl ?_
      refine Ar.fall 15 rfl ?_
      refine At.enter rfl ?_
      refine q_iretz (by decide) ?_
      refine At.enter rfl ?_
      refine r_iff 11 rfl (by decide) ?_
      refine At.enter rfl ?_
      refine r_aload_n rfl ?_
      refine r_iconst (-1) rfl ?_
      refine r_callV 16 rfl [.ref 0, .int (-1)] [] (Nat.le_of_ble_eq_true rfl) rfl (T_X10_refused_0 _ hI0 (-1) (by decide)) ?_
      rintro _ _ ⟨g7934, rfl, hI7935, hF7936, v7937, rfl, hr7938⟩
      refine At.sti ?_
      have hF7939 := Fr.tr hF0 hF7936 rfl rfl
      have zv7940 : ((-1) : Int32).toInt = (-1) := rfl
      refine At.enter rfl ?_
      refine r_ireti ?_
      exact ⟨_, rfl, hI7935, hF7939, _, rfl, trivial⟩
    · have c7933_ : a1.toInt ≤ 1000000 := en_i_gt_f c7933
      refine At.enter rfl ?_
      refine r_iconst 1 rfl ?_
      refine r_goto ?_
      refine At.enter rfl ?_
      refine q_iretz (by decide) ?_
      refine At.enter rfl ?_
      refine r_ift (by decide) ?_
      refine At.enter rfl ?_
      refine r_aload_n rfl ?_
      refine q_getR (Sh.ref hI0.1 kx_0 rfl) ?_
      refine r_iconst 0 rfl ?_
      refine r_callV 25 rfl [.ref 204, .int 0] [] (Nat.le_of_ble_eq_true rfl) rfl (T_X1_layOut_204 _ hI0 0) ?_
      rintro _ _ ⟨g7941, rfl, hI7942, hF7943, rfl⟩
      refine At.stn ?_
      have hF7946 := Fr.tr hF0 hF7943 rfl rfl
      refine At.enter rfl ?_
      refine r_iload_n rfl ?_
      refine r_istore_n ([(2, .int a1), (0, .ref 0), (1, .int a1)]) rfl ?_
      refine r_iconst 0 rfl ?_
      refine r_istore_n ([(3, .int 0), (2, .int a1), (0, .ref 0), (1, .int a1)]) rfl ?_
      refine Ar.fall 29 rfl ?_
      have z_11362 : (0 : Int32).toInt = 0 := rfl
      refine w_loopI (fun n_ l_ g_ => ∃ x11349 : Int32, ∃ x11350 : Int32, n_ = 8 - x11350.toInt ∧ HI g_ ∧ Fr F_X10_draw_0 A_X10_draw_0 g0 g_ ∧ en_get 0 l_ = some (.ref 0) ∧ en_get 1 l_ = some (.int a1) ∧ en_get 2 l_ = some (.int x11349) ∧ en_get 3 l_ = some (.int x11350) ∧ (0 ≤ x11350.toInt ∧ x11350.toInt ≤ 8)) ?_ (8 - 0) ⟨a1, 0, by first | rfl | omega, hI7942, hF7946, rfl, rfl, rfl, rfl, by decide⟩
      rintro n11355 l11354 g11351 ⟨x11349, x11350, hm11363, hI11352, hF11353, e11357, e11358, e11359, e11360, r11361⟩ ih11356
      refine At.enter rfl ?_
      refine r_iload_n e11360 ?_
      refine r_aload_n e11357 ?_
      refine q_getR (Sh.ref hI11352.1 kx_0 rfl) ?_
      obtain ⟨v11364, hv11364⟩ : ∃ v, gI g0 1 4 = v := ⟨_, rfl⟩
      have rv11364 := RgF.at hI0.2.1 (p := 1) (b := 4) rfl
      rw [hv11364] at rv11364
      dsimp only at rv11364
      refine q_getI (Sh.int hI11352.1 kx_1 rfl) v11364 ((hF11353.1 1 4 (by decide)).trans hv11364) ?_
      have bv11366 := q_bnd x11350
      have bv11367 := q_bnd v11364
      refine r_ics 40 rfl (fun c11365 => ?_) (fun c11365 => ?_)
      · have c11365_ : x11350.toInt ≥ v11364.toInt := en_i_ge_t c11365
        refine At.enter rfl ?_
        refine r_iconst 0 rfl ?_
        refine r_istore_n _ rfl ?_
        refine Ar.fall 66 rfl ?_
        have z_11795 : (0 : Int32).toInt = 0 := rfl
        refine w_loopI (fun n_ l_ g_ => ∃ x11782 : Int32, ∃ x11783 : Int32, n_ = 12 - x11783.toInt ∧ HI g_ ∧ Fr F_X10_draw_0 A_X10_draw_0 g0 g_ ∧ en_get 0 l_ = some (.ref 0) ∧ en_get 1 l_ = some (.int a1) ∧ en_get 2 l_ = some (.int x11782) ∧ en_get 3 l_ = some (.int x11783) ∧ (0 ≤ x11783.toInt ∧ x11783.toInt ≤ 12)) ?_ (12 - 0) ⟨x11349, 0, by first | rfl | omega, hI11352, hF11353, (w_p1 (by decide) (Or.inr rfl) e11357), (w_p1 (by decide) (Or.inr rfl) e11358), (w_p1 (by decide) (Or.inr rfl) e11359), (w_e1 _ _ _), by decide⟩
        rintro n11788 l11787 g11784 ⟨x11782, x11783, hm11796, hI11785, hF11786, e11790, e11791, e11792, e11793, r11794⟩ ih11789
        refine At.enter rfl ?_
        refine r_iload_n e11793 ?_
        refine r_aload_n e11790 ?_
        refine q_getR (Sh.ref hI11785.1 kx_0 rfl) ?_
        obtain ⟨v11797, hv11797⟩ : ∃ v, gI g0 1 0 = v := ⟨_, rfl⟩
        have rv11797 := RgF.at hI0.2.1 (p := 1) (b := 0) rfl
        rw [hv11797] at rv11797
        dsimp only at rv11797
        refine q_getI (Sh.int hI11785.1 kx_1 rfl) v11797 ((hF11786.1 1 0 (by decide)).trans hv11797) ?_
        have bv11799 := q_bnd x11783
        have bv11800 := q_bnd v11797
        refine r_ics 77 rfl (fun c11798 => ?_) (fun c11798 => ?_)
        · have c11798_ : x11783.toInt ≥ v11797.toInt := en_i_ge_t c11798
          refine At.enter rfl ?_
          refine r_aload_n e11790 ?_
          refine q_getR (Sh.ref hI11785.1 kx_0 rfl) ?_
          refine r_callV 125 rfl [.ref 204] [] (Nat.le_of_ble_eq_true rfl) rfl (T_X1_runWhole_204 _ hI11785) ?_
          rintro _ _ ⟨g11801, rfl, hI11802, hF11803, rfl⟩
          refine At.stn ?_
          have hF11806 := Fr.tr hF11786 hF11803 rfl rfl
          refine At.enter rfl ?_
          refine r_aload_n e11790 ?_
          refine r_aload_n e11790 ?_
          refine q_getR (Sh.ref hI11802.1 kx_0 rfl) ?_
          refine q_getI (Sh.int hI11802.1 kx_1 rfl) v11364 (((hF11803.1 1 4 (by decide)).trans (hF11786.1 1 4 (by decide))).trans hv11364) ?_
          refine q_putI (Sh.int hI11802.1 kx_0 rfl) rfl ?_
          have hI11807 := HI.wI1 hI11802 kx_0 rfl (p := 0) (b := 15) (v := v11364) rfl (by dsimp only; omega)
          have hF11808 := Fr.wI (p := 0) (b := 15) (v := v11364) hF11806 rfl
          refine r_aload_n e11790 ?_
          refine q_getR (Sh.ref hI11807.1 kx_0 rfl) ?_
          refine q_getR (Sh.ref hI11807.1 kx_204 rfl) ?_
          refine r_iconst 0 rfl ?_
          refine r_aload_n e11790 ?_
          refine q_getR (Sh.ref hI11807.1 kx_0 rfl) ?_
          refine r_iconst 0 rfl ?_
          refine r_bipush 8 rfl ?_
          have zv11809 : (0 : Int32).toInt = 0 := rfl
          have zv11810 : (0 : Int32).toInt = 0 := rfl
          have zv11811 : (8 : Int32).toInt = 8 := rfl
          refine q_cpy rfl (Nat.le_of_ble_eq_true rfl) (Sh.arr hI11807.1 ka_212) (Sh.arr hI11807.1 ka_228) ⟨by omega, by omega, by omega, by omega, by omega⟩ ?_
          have hI11812 := HI.cpy0 hI11807 ka_212 ka_228 rfl rfl ((0 : Int32).toInt.toNat) ((0 : Int32).toInt.toNat) ((8 : Int32).toInt.toNat) (by omega) (by omega)
          have hF11813 := Fr.cpy (p0 := 212) (p1 := 228) hF11808 rfl ((0 : Int32).toInt.toNat) ((0 : Int32).toInt.toNat) ((8 : Int32).toInt.toNat)
          refine r_aload_n e11790 ?_
          refine q_getR (Sh.ref hI11812.1 kx_0 rfl) ?_
          refine q_getR (Sh.ref hI11812.1 kx_204 rfl) ?_
          refine r_iconst 0 rfl ?_
          refine r_aload_n e11790 ?_
          refine q_getR (Sh.ref hI11812.1 kx_0 rfl) ?_
          refine r_iconst 0 rfl ?_
          refine r_bipush 8 rfl ?_
          have zv11814 : (0 : Int32).toInt = 0 := rfl
          have zv11815 : (0 : Int32).toInt = 0 := rfl
          have zv11816 : (8 : Int32).toInt = 8 := rfl
          refine q_cpy rfl (Nat.le_of_ble_eq_true rfl) (Sh.arr hI11812.1 ka_207) (Sh.arr hI11812.1 ka_229) ⟨by omega, by omega, by omega, by omega, by omega⟩ ?_
          have hI11817 := HI.cpy0 hI11812 ka_207 ka_229 rfl rfl ((0 : Int32).toInt.toNat) ((0 : Int32).toInt.toNat) ((8 : Int32).toInt.toNat) (by omega) (by omega)
          have hF11818 := Fr.cpy (p0 := 207) (p1 := 229) hF11813 rfl ((0 : Int32).toInt.toNat) ((0 : Int32).toInt.toNat) ((8 : Int32).toInt.toNat)
          refine r_aload_n e11790 ?_
          refine r_aload_n e11790 ?_
          refine q_getR (Sh.ref hI11817.1 kx_0 rfl) ?_
          refine r_callV 180 rfl [.ref 204] [.ref 0] (Nat.le_of_ble_eq_true rfl) rfl (T_X1_comeByNoon_204 _ hI11817) ?_
          rintro _ _ ⟨g11819, rfl, hI11820, hF11821, v11822, rfl, hr11823⟩
          refine At.sti ?_
          have hF11824 := Fr.tr hF11818 hF11821 rfl rfl
          refine At.enter rfl ?_
          refine q_inlV 183 rfl [.ref 0, .int v11822] [] (Nat.le_of_ble_eq_true rfl) rfl ?_
          refine Ev.mk rfl rfl ⟨Nat.le_of_ble_eq_true rfl, Or.inr (q_rc hI11820.1 kx_0 rfl)⟩ ?_
          show At _ none _ _ (0, [(0, .ref 0), (1, .int v11822)], [], (_, _)) _
          refine At.enter rfl ?_
          refine r_aload_n rfl ?_
          refine r_iconst 0 rfl ?_
          refine q_putI (Sh.int hI11820.1 kx_0 rfl) rfl ?_
          have hI11825 := HI.wI0 hI11820 kx_0 rfl (p := 0) (b := 17) (v := 0) rfl
          have hF11826 := Fr.wI (p := 0) (b := 17) (v := 0) hF11824 rfl
          refine r_iload_n rfl ?_
          refine q_ireti ?_
          refine At.enter rfl ?_
          refine r_ireti ?_
          exact ⟨_, rfl, hI11825, hF11826, _, rfl, trivial⟩
        · have c11798_ : x11783.toInt < v11797.toInt := en_i_ge_f c11798
          refine At.enter rfl ?_
          refine r_iload_n e11792 ?_
          refine q_inlS 81 rfl [.int x11782] [] (Nat.le_of_ble_eq_true rfl) rfl ?_
          refine Ev.mk rfl rfl ⟨Nat.le_of_ble_eq_true rfl, Or.inl rfl⟩ ?_
          show At _ none _ _ (0, [(0, .int x11782)], [], (_, _)) _
          refine At.enter rfl ?_
          refine r_iload_n rfl ?_
          refine r_sipush 1103 rfl ?_
          refine q_imulO (fun v11827 _ => ?_)
          refine r_sipush 12345 rfl ?_
          refine q_iaddO (fun v11828 _ => ?_)
          refine r_ldcw 1000003 rfl ?_
          refine q_iremO (by decide) (fun v11829 _ => ?_)
          refine q_ireti ?_
          refine At.enter rfl ?_
          refine r_istore_n _ rfl ?_
          refine r_iload_n (w_e1 _ _ _) ?_
          refine r_iconst 3 rfl ?_
          refine q_iremO (by decide) (fun v11830 _ => ?_)
          refine r_ifs 88 rfl (fun c11831 => ?_) (fun c11831 => ?_)
          · have c11831_ : v11830.toInt ≠ 0 := en_k_ne_t c11831
            refine At.enter rfl ?_
            refine q_iinc (w_p1 (by decide) (Or.inr rfl) e11793) (x11783.toInt + 1) rfl (by omega) (fun v11832 hv11832 => ?_)
            refine r_goto ?_
            have bv11833 := q_bnd v11829
            exact ih11789 (12 - v11832.toInt) _ _ ⟨v11829, v11832, by first | rfl | omega, hI11785, hF11786, (w_p1 (by decide) (Or.inr rfl) (w_p1 (by decide) (Or.inr rfl) e11790)), (w_p1 (by decide) (Or.inr rfl) (w_p1 (by decide) (Or.inr rfl) e11791)), (w_p1 (by decide) (Or.inr rfl) (w_e1 _ _ _)), (w_e1 _ _ _), by omega⟩ ⟨by omega, by omega⟩
          · have c11831_ : v11830.toInt = 0 := en_k_ne_f c11831
            refine At.enter rfl ?_
            refine r_aload_n (w_p1 (by decide) (Or.inr rfl) e11790) ?_
            refine q_getR (Sh.ref hI11785.1 kx_0 rfl) ?_
            refine q_getR (Sh.ref hI11785.1 kx_204 rfl) ?_
            refine r_iload_n (w_p1 (by decide) (Or.inr rfl) e11793) ?_
            refine r_iconst 1 rfl ?_
            refine r_aload_n (w_p1 (by decide) (Or.inr rfl) e11790) ?_
            refine q_getR (Sh.ref hI11785.1 kx_0 rfl) ?_
            refine q_getR (Sh.ref hI11785.1 kx_204 rfl) ?_
            refine r_iload_n (w_p1 (by decide) (Or.inr rfl) e11793) ?_
            obtain ⟨v11834, hv11834⟩ : ∃ v, eA g11784 205 x11783.toInt = v := ⟨_, rfl⟩
            refine q_iald (Sh.arr hI11785.1 ka_205) x11783.toInt rfl (by omega) v11834 hv11834 ?_
            refine r_iconst 1 rfl ?_
            refine q_isubO (fun v11835 _ => ?_)
            refine q_mmax rfl (Nat.le_of_ble_eq_true rfl) (fun v11836 hv11836 => ?_)
            have zv11837 : (1 : Int32).toInt = 1 := rfl
            refine q_iast (Sh.arr hI11785.1 ka_205) (x11783.toInt) rfl (by omega) ?_
            have hI11838 := HI.wA0 hI11785 ka_205 (p := 205) rfl rfl (x11783.toInt) (v11836)
            have hF11839 := Fr.wA (p := 205) (j := x11783.toInt) (v := v11836) hF11786 rfl
            refine Ar.fall 112 rfl ?_
            refine At.enter rfl ?_
            refine q_iinc (w_p1 (by decide) (Or.inr rfl) e11793) (x11783.toInt + 1) rfl (by omega) (fun v11840 hv11840 => ?_)
            refine r_goto ?_
            have bv11841 := q_bnd v11829
            exact ih11789 (12 - v11840.toInt) _ _ ⟨v11829, v11840, by first | rfl | omega, hI11838, hF11839, (w_p1 (by decide) (Or.inr rfl) (w_p1 (by decide) (Or.inr rfl) e11790)), (w_p1 (by decide) (Or.inr rfl) (w_p1 (by decide) (Or.inr rfl) e11791)), (w_p1 (by decide) (Or.inr rfl) (w_e1 _ _ _)), (w_e1 _ _ _), by omega⟩ ⟨by omega, by omega⟩
      · have c11365_ : x11350.toInt < v11364.toInt := en_i_ge_f c11365
        refine At.enter rfl ?_
        refine r_iload_n e11359 ?_
        refine q_inlS 44 rfl [.int x11349] [] (Nat.le_of_ble_eq_true rfl) rfl ?_
        refine Ev.mk rfl rfl ⟨Nat.le_of_ble_eq_true rfl, Or.inl rfl⟩ ?_
        show At _ none _ _ (0, [(0, .int x11349)], [], (_, _)) _
        refine At.enter rfl ?_
        refine r_iload_n rfl ?_
        refine r_sipush 1103 rfl ?_
        refine q_imulO (fun v11842 _ => ?_)
        refine r_sipush 12345 rfl ?_
        refine q_iaddO (fun v11843 _ => ?_)
        refine r_ldcw 1000003 rfl ?_
        refine q_iremO (by decide) (fun v11844 _ => ?_)
        refine q_ireti ?_
        refine At.enter rfl ?_
        refine r_istore_n _ rfl ?_
        refine r_aload_n (w_p1 (by decide) (Or.inr rfl) e11357) ?_
        refine q_getR (Sh.ref hI11352.1 kx_0 rfl) ?_
        refine q_getR (Sh.ref hI11352.1 kx_204 rfl) ?_
        refine r_iload_n (w_p1 (by decide) (Or.inr rfl) e11360) ?_
        refine r_iload_n (w_e1 _ _ _) ?_
        refine r_bipush 30 rfl ?_
        refine q_iremO (by decide) (fun v11845 _ => ?_)
        refine q_iast (Sh.arr hI11352.1 ka_207) (x11350.toInt) rfl (by omega) ?_
        have hI11846 := HI.wA0 hI11352 ka_207 (p := 207) rfl rfl (x11350.toInt) (v11845)
        have hF11847 := Fr.wA (p := 207) (j := x11350.toInt) (v := v11845) hF11353 rfl
        refine q_iinc (w_p1 (by decide) (Or.inr rfl) e11360) (x11350.toInt + 1) rfl (by omega) (fun v11848 hv11848 => ?_)
        refine r_goto ?_
        have bv11849 := q_bnd v11844
        exact ih11356 (8 - v11848.toInt) _ _ ⟨v11844, v11848, by first | rfl | omega, hI11846, hF11847, (w_p1 (by decide) (Or.inr rfl) (w_p1 (by decide) (Or.inr rfl) e11357)), (w_p1 (by decide) (Or.inr rfl) (w_p1 (by decide) (Or.inr rfl) e11358)), (w_p1 (by decide) (Or.inr rfl) (w_e1 _ _ _)), (w_e1 _ _ _), by omega⟩ ⟨by omega, by omega⟩

def F_X10_drawn_0 : List (Nat × Nat) := []
def A_X10_drawn_0 : List Nat := []
set_option maxRecDepth 100000 in
set_option maxHeartbeats 4000000 in
theorem T_X10_drawn_0 (d : Nat) {N : Nat} {g0 : List en_E} (hI0 : HI g0) (a1 : Int32) (a2 : Int32) : Ev (d + 2) 139 [.ref 0, .int a1, .int a2] (g0, N) (fun w h' => ∃ g', h' = (g', N) ∧ HI g' ∧ Fr F_X10_drawn_0 A_X10_drawn_0 g0 g' ∧ ∃ r : Int32, w = some (.int r) ∧ True) := by
  have hF0 : Fr F_X10_drawn_0 A_X10_drawn_0 g0 g0 := Fr.rf
  refine Ev.mk rfl rfl ⟨Nat.le_of_ble_eq_true rfl, Or.inr (q_rc hI0.1 kx_0 rfl)⟩ ?_
  show At _ none _ _ (0, [(0, .ref 0), (1, .int a1), (2, .int a2)], [], (_, _)) _
  refine At.enter rfl ?_
  refine r_iload_n rfl ?_
  refine r_iconst 0 rfl ?_
  refine r_aload_n rfl ?_
  obtain ⟨v23, hv23⟩ : ∃ v, gI g0 0 15 = v := ⟨_, rfl⟩
  have rv23 := RgF.at hI0.2.1 (p := 0) (b := 15) rfl
  rw [hv23] at rv23
  dsimp only at rv23
  refine q_getI (Sh.int hI0.1 kx_0 rfl) v23 hv23 ?_
  refine r_iconst 1 rfl ?_
  refine q_isub (v23.toInt - 1) rfl (by omega) (fun v24 hv24 => ?_)
  refine q_inlS 11 rfl [.int a1, .int 0, .int v24] [] (Nat.le_of_ble_eq_true rfl) rfl ?_
  refine Ev.mk rfl rfl ⟨Nat.le_of_ble_eq_true rfl, Or.inl rfl⟩ ?_
  show At _ none _ _ (0, [(0, .int a1), (1, .int 0), (2, .int v24)], [], (_, _)) _
  refine At.enter rfl ?_
  refine r_iload_n rfl ?_
  refine r_iload_n rfl ?_
  refine r_ics 5 rfl (fun c25 => ?_) (fun c25 => ?_)
  · have c25_ : a1.toInt < 0 := en_i_lt_t c25
    refine At.enter rfl ?_
    refine r_iconst 0 rfl ?_
    refine Ar.fall 15 rfl ?_
    refine At.enter rfl ?_
    refine q_iretz (by decide) ?_
    refine At.enter rfl ?_
    refine r_ift (by decide) ?_
    refine At.enter rfl ?_
    refine r_iconst (-1) rfl ?_
    refine r_ireti ?_
    exact ⟨_, rfl, hI0, hF0, _, rfl, trivial⟩
  · have c25_ : a1.toInt ≥ 0 := en_i_lt_f c25
    refine At.enter rfl ?_
    refine r_iload_n rfl ?_
    refine r_iload_n rfl ?_
    have bv27 := q_bnd a1
    have bv28 := q_bnd v24
    refine r_ics 10 rfl (fun c26 => ?_) (fun c26 => ?_)
    · have c26_ : a1.toInt > v24.toInt := en_i_gt_t c26
      refine At.enter rfl ?_
      refine r_iconst 0 rfl ?_
      refine Ar.fall 15 rfl ?_
      refine At.enter rfl ?_
      refine q_iretz (by decide) ?_
      refine At.enter rfl ?_
      refine r_ift (by decide) ?_
      refine At.enter rfl ?_
      refine r_iconst (-1) rfl ?_
      refine r_ireti ?_
      exact ⟨_, rfl, hI0, hF0, _, rfl, trivial⟩
    · have c26_ : a1.toInt ≤ v24.toInt := en_i_gt_f c26
      refine At.enter rfl ?_
      refine r_iconst 1 rfl ?_
      refine r_goto ?_
      refine At.enter rfl ?_
      refine q_iretz (by decide) ?_
      refine At.enter rfl ?_
      refine r_iff 14 rfl (by decide) ?_
      refine At.enter rfl ?_
      refine r_iload_n rfl ?_
      refine r_iconst 0 rfl ?_
      refine r_iconst 1 rfl ?_
      refine q_inlS 20 rfl [.int a2, .int 0, .int 1] [] (Nat.le_of_ble_eq_true rfl) rfl ?_
      refine Ev.mk rfl rfl ⟨Nat.le_of_ble_eq_true rfl, Or.inl rfl⟩ ?_
      show At _ none _ _ (0, [(0, .int a2), (1, .int 0), (2, .int 1)], [], (_, _)) _
      refine At.enter rfl ?_
      refine r_iload_n rfl ?_
      refine r_iload_n rfl ?_
      refine r_ics 5 rfl (fun c29 => ?_) (fun c29 => ?_)
      · have c29_ : a2.toInt < 0 := en_i_lt_t c29
        refine At.enter rfl ?_
        refine r_iconst 0 rfl ?_
        refine Ar.fall 15 rfl ?_
        refine At.enter rfl ?_
        refine q_iretz (by decide) ?_
        refine At.enter rfl ?_
        refine r_iff 23 rfl (by decide) ?_
        refine At.enter rfl ?_
        refine r_iconst (-1) rfl ?_
        refine r_ireti ?_
        exact ⟨_, rfl, hI0, hF0, _, rfl, trivial⟩
      · have c29_ : a2.toInt ≥ 0 := en_i_lt_f c29
        refine At.enter rfl ?_
        refine r_iload_n rfl ?_
        refine r_iload_n rfl ?_
        refine r_ics 10 rfl (fun c30 => ?_) (fun c30 => ?_)
        · have c30_ : a2.toInt > 1 := en_i_gt_t c30
          refine At.enter rfl ?_
          refine r_iconst 0 rfl ?_
          refine Ar.fall 15 rfl ?_
          refine At.enter rfl ?_
          refine q_iretz (by decide) ?_
          refine At.enter rfl ?_
          refine r_iff 23 rfl (by decide) ?_
          refine At.enter rfl ?_
          refine r_iconst (-1) rfl ?_
          refine r_ireti ?_
          exact ⟨_, rfl, hI0, hF0, _, rfl, trivial⟩
        · have c30_ : a2.toInt ≤ 1 := en_i_gt_f c30
          refine At.enter rfl ?_
          refine r_iconst 1 rfl ?_
          refine r_goto ?_
          refine At.enter rfl ?_
          refine q_iretz (by decide) ?_
          refine At.enter rfl ?_
          refine r_ift (by decide) ?_
          refine At.enter rfl ?_
          refine r_iload_n rfl ?_
          refine r_ifs 29 rfl (fun c31 => ?_) (fun c31 => ?_)
          · have c31_ : a2.toInt ≠ 0 := en_k_ne_t c31
            refine At.enter rfl ?_
            refine r_aload_n rfl ?_
            refine q_getR (Sh.ref hI0.1 kx_0 rfl) ?_
            refine r_iload_n rfl ?_
            obtain ⟨v32, hv32⟩ : ∃ v, eA g0 229 a1.toInt = v := ⟨_, rfl⟩
            refine q_iald (Sh.arr hI0.1 ka_229) a1.toInt rfl (by omega) v32 hv32 ?_
            refine Ar.fall 44 rfl ?_
            refine At.enter rfl ?_
            refine r_ireti ?_
            exact ⟨_, rfl, hI0, hF0, _, rfl, trivial⟩
          · have c31_ : a2.toInt = 0 := en_k_ne_f c31
            refine At.enter rfl ?_
            refine r_aload_n rfl ?_
            refine q_getR (Sh.ref hI0.1 kx_0 rfl) ?_
            refine r_iload_n rfl ?_
            obtain ⟨v33, hv33⟩ : ∃ v, eA g0 228 a1.toInt = v := ⟨_, rfl⟩
            refine q_iald (Sh.arr hI0.1 ka_228) a1.toInt rfl (by omega) v33 hv33 ?_
            refine r_goto ?_
            refine At.enter rfl ?_
            refine r_ireti ?_
            exact ⟨_, rfl, hI0, hF0, _, rfl, trivial⟩

def F_X10_image_0 : List (Nat × Nat) := [(0, 17), (7, 0), (7, 3), (7, 4), (16, 0), (16, 3), (16, 4), (23, 0), (23, 3), (23, 4), (30, 0), (30, 3), (30, 4), (37, 0), (37, 3), (37, 4), (44, 0), (44, 3), (44, 4), (51, 0), (51, 3), (51, 4), (59, 0), (59, 4), (59, 6), (59, 9), (59, 10), (59, 11), (59, 12), (65, 0), (65, 3), (65, 4), (74, 0), (74, 3), (74, 4), (81, 0), (81, 3), (81, 4), (88, 0), (88, 3), (88, 4), (95, 0), (95, 3), (95, 4), (102, 0), (102, 3), (102, 4), (109, 0), (109, 3), (109, 4), (116, 0), (116, 4), (116, 6), (116, 9), (116, 10), (116, 11), (116, 12), (122, 0), (122, 3), (122, 4), (131, 0), (131, 3), (131, 4), (138, 0), (138, 3), (138, 4), (145, 0), (145, 3), (145, 4), (152, 0), (152, 3), (152, 4), (159, 0), (159, 3), (159, 4), (166, 0), (166, 3), (166, 4), (177, 0), (177, 3), (177, 4)]
def A_X10_image_0 : List Nat := [8, 9, 10, 11, 12, 13, 17, 18, 19, 20, 21, 22, 24, 25, 26, 27, 28, 29, 31, 32, 33, 34, 35, 36, 38, 39, 40, 41, 42, 43, 45, 46, 47, 48, 49, 50, 52, 53, 54, 55, 56, 57, 60, 61, 62, 63, 66, 67, 68, 69, 70, 71, 72, 73, 75, 76, 77, 78, 79, 80, 82, 83, 84, 85, 86, 87, 89, 90, 91, 92, 93, 94, 96, 97, 98, 99, 100, 101, 103, 104, 105, 106, 107, 108, 110, 111, 112, 113, 114, 115, 117, 118, 119, 120, 123, 124, 125, 126, 127, 128, 129, 130, 132, 133, 134, 135, 136, 137, 139, 140, 141, 142, 143, 144, 146, 147, 148, 149, 150, 151, 153, 154, 155, 156, 157, 158, 160, 161, 162, 163, 164, 165, 167, 168, 169, 170, 171, 172, 173, 178, 179, 180, 181, 182, 183, 230]
set_option maxRecDepth 100000 in
set_option maxHeartbeats 4000000 in
theorem T_X10_image_0 (d : Nat) {N : Nat} {g0 : List en_E} (hI0 : HI g0) (a1 : Int32) : Ev (d + 3) 140 [.ref 0, .int a1] (g0, N) (fun w h' => ∃ g', h' = (g', N) ∧ HI g' ∧ Fr F_X10_image_0 A_X10_image_0 g0 g' ∧ ∃ r : Int32, w = some (.int r) ∧ ((-1) ≤ r.toInt ∧ r.toInt ≤ 0) ∧ (((a1.toInt = 0 → (eA g' 173 0).toInt = 1 ∧ r.toInt = 0 ∧ (gI g' 59 0).toInt = (gI g0 1 0).toInt ∧ (gI g' 59 12).toInt = (gI g0 1 12).toInt ∧ (gI g' 59 10).toInt = (gI g0 1 10).toInt ∧ (gI g' 59 11).toInt = (gI g0 1 11).toInt) ∧ (a1.toInt ≠ 0 → (eA g' 173 0).toInt = (eA g0 173 0).toInt ∧ (gI g' 59 0).toInt = (gI g0 59 0).toInt ∧ (gI g' 59 12).toInt = (gI g0 59 12).toInt ∧ (gI g' 59 10).toInt = (gI g0 59 10).toInt ∧ (gI g' 59 11).toInt = (gI g0 59 11).toInt) ∧ (a1.toInt = 1 → (eA g' 173 1).toInt = 1 ∧ r.toInt = 0 ∧ (gI g' 116 0).toInt = (gI g0 1 0).toInt ∧ (gI g' 116 12).toInt = (gI g0 1 12).toInt ∧ (gI g' 116 10).toInt = (gI g0 1 10).toInt ∧ (gI g' 116 11).toInt = (gI g0 1 11).toInt) ∧ (a1.toInt ≠ 1 → (eA g' 173 1).toInt = (eA g0 173 1).toInt ∧ (gI g' 116 0).toInt = (gI g0 116 0).toInt ∧ (gI g' 116 12).toInt = (gI g0 116 12).toInt ∧ (gI g' 116 10).toInt = (gI g0 116 10).toInt ∧ (gI g' 116 11).toInt = (gI g0 116 11).toInt) ∧ (a1.toInt < 0 ∨ 1 < a1.toInt → r.toInt = -1)) ∧ (∀ i : Int, 0 ≤ i → i < 12 → (eA g' 60 (i)).toInt = if a1.toInt = 0 then (eA g0 2 (i)).toInt else (eA g0 60 (i)).toInt) ∧ (∀ i : Int, 0 ≤ i → i < 12 → (eA g' 61 (i)).toInt = if a1.toInt = 0 then (eA g0 3 (i)).toInt else (eA g0 61 (i)).toInt) ∧ (∀ i : Int, 0 ≤ i → i < 12 → (eA g' 62 (i)).toInt = if a1.toInt = 0 then (eA g0 4 (i)).toInt else (eA g0 62 (i)).toInt) ∧ (∀ i : Int, 0 ≤ i → i < 8 → (eA g' 72 (i)).toInt = if a1.toInt = 0 then (eA g0 14 (i)).toInt else (eA g0 72 (i)).toInt) ∧ (∀ i : Int, 0 ≤ i → i < 8 → (eA g' 73 (i)).toInt = if a1.toInt = 0 then (eA g0 15 (i)).toInt else (eA g0 73 (i)).toInt) ∧ (∀ i : Int, 0 ≤ i → i < 12 → (eA g' 117 (i)).toInt = if a1.toInt = 1 then (eA g0 2 (i)).toInt else (eA g0 117 (i)).toInt) ∧ (∀ i : Int, 0 ≤ i → i < 12 → (eA g' 118 (i)).toInt = if a1.toInt = 1 then (eA g0 3 (i)).toInt else (eA g0 118 (i)).toInt) ∧ (∀ i : Int, 0 ≤ i → i < 12 → (eA g' 119 (i)).toInt = if a1.toInt = 1 then (eA g0 4 (i)).toInt else (eA g0 119 (i)).toInt) ∧ (∀ i : Int, 0 ≤ i → i < 8 → (eA g' 129 (i)).toInt = if a1.toInt = 1 then (eA g0 14 (i)).toInt else (eA g0 129 (i)).toInt) ∧ (∀ i : Int, 0 ≤ i → i < 8 → (eA g' 130 (i)).toInt = if a1.toInt = 1 then (eA g0 15 (i)).toInt else (eA g0 130 (i)).toInt))) := by
  have hF0 : Fr F_X10_image_0 A_X10_image_0 g0 g0 := Fr.rf
  refine Ev.mk rfl rfl ⟨Nat.le_of_ble_eq_true rfl, Or.inr (q_rc hI0.1 kx_0 rfl)⟩ ?_
  show At _ none _ _ (0, [(0, .ref 0), (1, .int a1)], [], (_, _)) _
  refine At.enter rfl ?_
  refine r_aload_n rfl ?_
  refine r_iload_n rfl ?_
  refine q_inlV 5 rfl [.ref 0, .int a1] [] (Nat.le_of_ble_eq_true rfl) rfl ?_
  refine Ev.mk rfl rfl ⟨Nat.le_of_ble_eq_true rfl, Or.inr (q_rc hI0.1 kx_0 rfl)⟩ ?_
  show At _ none _ _ (0, [(0, .ref 0), (1, .int a1)], [], (_, _)) _
  refine At.enter rfl ?_
  refine r_iload_n rfl ?_
  refine r_iconst 0 rfl ?_
  refine r_iconst 1 rfl ?_
  refine q_inlS 6 rfl [.int a1, .int 0, .int 1] [] (Nat.le_of_ble_eq_true rfl) rfl ?_
  refine Ev.mk rfl rfl ⟨Nat.le_of_ble_eq_true rfl, Or.inl rfl⟩ ?_
  show At _ none _ _ (0, [(0, .int a1), (1, .int 0), (2, .int 1)], [], (_, _)) _
  refine At.enter rfl ?_
  refine r_iload_n rfl ?_
  refine r_iload_n rfl ?_
  refine r_ics 5 rfl (fun c1367 => ?_) (fun c1367 => ?_)
  · have c1367_ : a1.toInt < 0 := en_i_lt_t c1367
    refine At.enter rfl ?_
    refine r_iconst 0 rfl ?_
    refine Ar.fall 15 rfl ?_
    refine At.enter rfl ?_
    refine q_iretz (by decide) ?_
    refine At.enter rfl ?_
    refine r_ift (by decide) ?_
    refine At.enter rfl ?_
    refine r_null ?_
    refine Ar.fall 19 rfl ?_
    refine At.enter rfl ?_
    refine q_zret ?_
    refine At.enter rfl ?_
    refine r_zstore_n ([(2, .null), (0, .ref 0), (1, .int a1)]) rfl ?_
    refine r_zload_n rfl ?_
    refine r_nnz 10 rfl ?_
    refine At.enter rfl ?_
    refine r_aload_n rfl ?_
    refine r_iconst (-1) rfl ?_
    refine r_callV 15 rfl [.ref 0, .int (-1)] [] (Nat.le_of_ble_eq_true rfl) rfl (T_X10_refused_0 _ hI0 (-1) (by decide)) ?_
    rintro _ _ ⟨g1368, rfl, hI1369, hF1370, v1371, rfl, hr1372⟩
    refine At.sti ?_
    have hF1373 := Fr.tr hF0 hF1370 rfl rfl
    have zv1374 : ((-1) : Int32).toInt = (-1) := rfl
    refine At.enter rfl ?_
    refine r_ireti ?_
    obtain ⟨v1375, hv1375⟩ : ∃ v, gI g0 1 0 = v := ⟨_, rfl⟩
    have rv1375 := RgF.at hI0.2.1 (p := 1) (b := 0) rfl
    rw [hv1375] at rv1375
    dsimp only at rv1375
    have tv1375 := congrArg Int32.toInt hv1375
    have x1376 := HI.eqI hI0 (p := 1) (b := 0) (hv1375)
    obtain ⟨v1377, hv1377⟩ : ∃ v, gI g0 1 12 = v := ⟨_, rfl⟩
    have rv1377 := RgF.at hI0.2.1 (p := 1) (b := 12) rfl
    rw [hv1377] at rv1377
    dsimp only at rv1377
    have tv1377 := congrArg Int32.toInt hv1377
    have x1378 := HI.eqI hI0 (p := 1) (b := 12) (hv1377)
    obtain ⟨v1379, hv1379⟩ : ∃ v, gI g0 1 10 = v := ⟨_, rfl⟩
    have tv1379 := congrArg Int32.toInt hv1379
    have x1380 := HI.eqI hI0 (p := 1) (b := 10) (hv1379)
    obtain ⟨v1381, hv1381⟩ : ∃ v, gI g0 1 11 = v := ⟨_, rfl⟩
    have tv1381 := congrArg Int32.toInt hv1381
    have x1382 := HI.eqI hI0 (p := 1) (b := 11) (hv1381)
    obtain ⟨v1383, hv1383⟩ : ∃ v, gI g0 59 0 = v := ⟨_, rfl⟩
    have rv1383 := RgF.at hI0.2.1 (p := 59) (b := 0) rfl
    rw [hv1383] at rv1383
    dsimp only at rv1383
    have tv1383 := congrArg Int32.toInt hv1383
    have x1384 := HI.eqI hI0 (p := 59) (b := 0) (hv1383)
    obtain ⟨v1385, hv1385⟩ : ∃ v, gI g0 59 12 = v := ⟨_, rfl⟩
    have rv1385 := RgF.at hI0.2.1 (p := 59) (b := 12) rfl
    rw [hv1385] at rv1385
    dsimp only at rv1385
    have tv1385 := congrArg Int32.toInt hv1385
    have x1386 := HI.eqI hI0 (p := 59) (b := 12) (hv1385)
    obtain ⟨v1387, hv1387⟩ : ∃ v, gI g0 59 10 = v := ⟨_, rfl⟩
    have tv1387 := congrArg Int32.toInt hv1387
    have x1388 := HI.eqI hI0 (p := 59) (b := 10) (hv1387)
    obtain ⟨v1389, hv1389⟩ : ∃ v, gI g0 59 11 = v := ⟨_, rfl⟩
    have tv1389 := congrArg Int32.toInt hv1389
    have x1390 := HI.eqI hI0 (p := 59) (b := 11) (hv1389)
    obtain ⟨v1391, hv1391⟩ : ∃ v, gI g0 116 0 = v := ⟨_, rfl⟩
    have rv1391 := RgF.at hI0.2.1 (p := 116) (b := 0) rfl
    rw [hv1391] at rv1391
    dsimp only at rv1391
    have tv1391 := congrArg Int32.toInt hv1391
    have x1392 := HI.eqI hI0 (p := 116) (b := 0) (hv1391)
    obtain ⟨v1393, hv1393⟩ : ∃ v, gI g0 116 12 = v := ⟨_, rfl⟩
    have rv1393 := RgF.at hI0.2.1 (p := 116) (b := 12) rfl
    rw [hv1393] at rv1393
    dsimp only at rv1393
    have tv1393 := congrArg Int32.toInt hv1393
    have x1394 := HI.eqI hI0 (p := 116) (b := 12) (hv1393)
    obtain ⟨v1395, hv1395⟩ : ∃ v, gI g0 116 10 = v := ⟨_, rfl⟩
    have tv1395 := congrArg Int32.toInt hv1395
    have x1396 := HI.eqI hI0 (p := 116) (b := 10) (hv1395)
    obtain ⟨v1397, hv1397⟩ : ∃ v, gI g0 116 11 = v := ⟨_, rfl⟩
    have tv1397 := congrArg Int32.toInt hv1397
    have x1398 := HI.eqI hI0 (p := 116) (b := 11) (hv1397)
    obtain ⟨v1399, hv1399⟩ : ∃ v, eA g0 173 0 = v := ⟨_, rfl⟩
    have tv1399 := congrArg Int32.toInt hv1399
    have x1400 := HI.eqA hI0 (p := 173) (j := 0) (hv1399)
    obtain ⟨v1401, hv1401⟩ : ∃ v, eA g0 173 1 = v := ⟨_, rfl⟩
    have tv1401 := congrArg Int32.toInt hv1401
    have x1402 := HI.eqA hI0 (p := 173) (j := 1) (hv1401)
    have x1403 := HI.eqI hI1369 (p := 59) (b := 0) (((hF1370.1 59 0 (by decide)).trans hv1383))
    have x1404 := HI.eqI hI1369 (p := 59) (b := 12) (((hF1370.1 59 12 (by decide)).trans hv1385))
    have x1405 := HI.eqI hI1369 (p := 59) (b := 10) (((hF1370.1 59 10 (by decide)).trans hv1387))
    have x1406 := HI.eqI hI1369 (p := 59) (b := 11) (((hF1370.1 59 11 (by decide)).trans hv1389))
    have x1407 := HI.eqI hI1369 (p := 116) (b := 0) (((hF1370.1 116 0 (by decide)).trans hv1391))
    have x1408 := HI.eqI hI1369 (p := 116) (b := 12) (((hF1370.1 116 12 (by decide)).trans hv1393))
    have x1409 := HI.eqI hI1369 (p := 116) (b := 10) (((hF1370.1 116 10 (by decide)).trans hv1395))
    have x1410 := HI.eqI hI1369 (p := 116) (b := 11) (((hF1370.1 116 11 (by decide)).trans hv1397))
    have x1411 := HI.eqA hI1369 (p := 173) (j := 0) (((eA_c (hF1370.2.1 173 (by decide))).trans hv1399))
    have x1412 := HI.eqA hI1369 (p := 173) (j := 1) (((eA_c (hF1370.2.1 173 (by decide))).trans hv1401))
    exact ⟨_, rfl, hI1369, hF1373, _, rfl, by omega, ⟨⟨by omega, by omega, by omega, by omega, by omega⟩, (by intro i i0 i1; refine Eq.trans ?_ (if_neg (show ¬ (a1.toInt = 0) from by omega)).symm; refine (eA_ti ((hF1370.2.1 60 (by decide)))).trans ?_; (first | rfl | exact eA_ix (by omega) | omega)), (by intro i i0 i1; refine Eq.trans ?_ (if_neg (show ¬ (a1.toInt = 0) from by omega)).symm; refine (eA_ti ((hF1370.2.1 61 (by decide)))).trans ?_; (first | rfl | exact eA_ix (by omega) | omega)), (by intro i i0 i1; refine Eq.trans ?_ (if_neg (show ¬ (a1.toInt = 0) from by omega)).symm; refine (eA_ti ((hF1370.2.1 62 (by decide)))).trans ?_; (first | rfl | exact eA_ix (by omega) | omega)), (by intro i i0 i1; refine Eq.trans ?_ (if_neg (show ¬ (a1.toInt = 0) from by omega)).symm; refine (eA_ti ((hF1370.2.1 72 (by decide)))).trans ?_; (first | rfl | exact eA_ix (by omega) | omega)), (by intro i i0 i1; refine Eq.trans ?_ (if_neg (show ¬ (a1.toInt = 0) from by omega)).symm; refine (eA_ti ((hF1370.2.1 73 (by decide)))).trans ?_; (first | rfl | exact eA_ix (by omega) | omega)), (by intro i i0 i1; refine Eq.trans ?_ (if_neg (show ¬ (a1.toInt = 1) from by omega)).symm; refine (eA_ti ((hF1370.2.1 117 (by decide)))).trans ?_; (first | rfl | exact eA_ix (by omega) | omega)), (by intro i i0 i1; refine Eq.trans ?_ (if_neg (show ¬ (a1.toInt = 1) from by omega)).symm; refine (eA_ti ((hF1370.2.1 118 (by decide)))).trans ?_; (first | rfl | exact eA_ix (by omega) | omega)), (by intro i i0 i1; refine Eq.trans ?_ (if_neg (show ¬ (a1.toInt = 1) from by omega)).symm; refine (eA_ti ((hF1370.2.1 119 (by decide)))).trans ?_; (first | rfl | exact eA_ix (by omega) | omega)), (by intro i i0 i1; refine Eq.trans ?_ (if_neg (show ¬ (a1.toInt = 1) from by omega)).symm; refine (eA_ti ((hF1370.2.1 129 (by decide)))).trans ?_; (first | rfl | exact eA_ix (by omega) | omega)), (by intro i i0 i1; refine Eq.trans ?_ (if_neg (show ¬ (a1.toInt = 1) from by omega)).symm; refine (eA_ti ((hF1370.2.1 130 (by decide)))).trans ?_; (first | rfl | exact eA_ix (by omega) | omega))⟩⟩
  · have c1367_ : a1.toInt ≥ 0 := en_i_lt_f c1367
    refine At.enter rfl ?_
    refine r_iload_n rfl ?_
    refine r_iload_n rfl ?_
    refine r_ics 10 rfl (fun c1413 => ?_) (fun c1413 => ?_)
    · have c1413_ : a1.toInt > 1 := en_i_gt_t c1413
      refine At.enter rfl ?_
      refine r_iconst 0 rfl ?_
      refine Ar.fall 15 rfl ?_
      refine At.enter rfl ?_
      refine q_iretz (by decide) ?_
      refine At.enter rfl ?_
      refine r_ift (by decide) ?_
      refine At.enter rfl ?_
      refine r_null ?_
      refine Ar.fall 19 rfl ?_
      refine At.enter rfl ?_
      refine q_zret ?_
      refine At.enter rfl ?_
      refine r_zstore_n ([(2, .null), (0, .ref 0), (1, .int a1)]) rfl ?_
      refine r_zload_n rfl ?_
      refine r_nnz 10 rfl ?_
      refine At.enter rfl ?_
      refine r_aload_n rfl ?_
      refine r_iconst (-1) rfl ?_
      refine r_callV 15 rfl [.ref 0, .int (-1)] [] (Nat.le_of_ble_eq_true rfl) rfl (T_X10_refused_0 _ hI0 (-1) (by decide)) ?_
      rintro _ _ ⟨g1414, rfl, hI1415, hF1416, v1417, rfl, hr1418⟩
      refine At.sti ?_
      have hF1419 := Fr.tr hF0 hF1416 rfl rfl
      have zv1420 : ((-1) : Int32).toInt = (-1) := rfl
      refine At.enter rfl ?_
      refine r_ireti ?_
      obtain ⟨v1421, hv1421⟩ : ∃ v, gI g0 1 0 = v := ⟨_, rfl⟩
      have rv1421 := RgF.at hI0.2.1 (p := 1) (b := 0) rfl
      rw [hv1421] at rv1421
      dsimp only at rv1421
      have tv1421 := congrArg Int32.toInt hv1421
      have x1422 := HI.eqI hI0 (p := 1) (b := 0) (hv1421)
      obtain ⟨v1423, hv1423⟩ : ∃ v, gI g0 1 12 = v := ⟨_, rfl⟩
      have rv1423 := RgF.at hI0.2.1 (p := 1) (b := 12) rfl
      rw [hv1423] at rv1423
      dsimp only at rv1423
      have tv1423 := congrArg Int32.toInt hv1423
      have x1424 := HI.eqI hI0 (p := 1) (b := 12) (hv1423)
      obtain ⟨v1425, hv1425⟩ : ∃ v, gI g0 1 10 = v := ⟨_, rfl⟩
      have tv1425 := congrArg Int32.toInt hv1425
      have x1426 := HI.eqI hI0 (p := 1) (b := 10) (hv1425)
      obtain ⟨v1427, hv1427⟩ : ∃ v, gI g0 1 11 = v := ⟨_, rfl⟩
      have tv1427 := congrArg Int32.toInt hv1427
      have x1428 := HI.eqI hI0 (p := 1) (b := 11) (hv1427)
      obtain ⟨v1429, hv1429⟩ : ∃ v, gI g0 59 0 = v := ⟨_, rfl⟩
      have rv1429 := RgF.at hI0.2.1 (p := 59) (b := 0) rfl
      rw [hv1429] at rv1429
      dsimp only at rv1429
      have tv1429 := congrArg Int32.toInt hv1429
      have x1430 := HI.eqI hI0 (p := 59) (b := 0) (hv1429)
      obtain ⟨v1431, hv1431⟩ : ∃ v, gI g0 59 12 = v := ⟨_, rfl⟩
      have rv1431 := RgF.at hI0.2.1 (p := 59) (b := 12) rfl
      rw [hv1431] at rv1431
      dsimp only at rv1431
      have tv1431 := congrArg Int32.toInt hv1431
      have x1432 := HI.eqI hI0 (p := 59) (b := 12) (hv1431)
      obtain ⟨v1433, hv1433⟩ : ∃ v, gI g0 59 10 = v := ⟨_, rfl⟩
      have tv1433 := congrArg Int32.toInt hv1433
      have x1434 := HI.eqI hI0 (p := 59) (b := 10) (hv1433)
      obtain ⟨v1435, hv1435⟩ : ∃ v, gI g0 59 11 = v := ⟨_, rfl⟩
      have tv1435 := congrArg Int32.toInt hv1435
      have x1436 := HI.eqI hI0 (p := 59) (b := 11) (hv1435)
      obtain ⟨v1437, hv1437⟩ : ∃ v, gI g0 116 0 = v := ⟨_, rfl⟩
      have rv1437 := RgF.at hI0.2.1 (p := 116) (b := 0) rfl
      rw [hv1437] at rv1437
      dsimp only at rv1437
      have tv1437 := congrArg Int32.toInt hv1437
      have x1438 := HI.eqI hI0 (p := 116) (b := 0) (hv1437)
      obtain ⟨v1439, hv1439⟩ : ∃ v, gI g0 116 12 = v := ⟨_, rfl⟩
      have rv1439 := RgF.at hI0.2.1 (p := 116) (b := 12) rfl
      rw [hv1439] at rv1439
      dsimp only at rv1439
      have tv1439 := congrArg Int32.toInt hv1439
      have x1440 := HI.eqI hI0 (p := 116) (b := 12) (hv1439)
      obtain ⟨v1441, hv1441⟩ : ∃ v, gI g0 116 10 = v := ⟨_, rfl⟩
      have tv1441 := congrArg Int32.toInt hv1441
      have x1442 := HI.eqI hI0 (p := 116) (b := 10) (hv1441)
      obtain ⟨v1443, hv1443⟩ : ∃ v, gI g0 116 11 = v := ⟨_, rfl⟩
      have tv1443 := congrArg Int32.toInt hv1443
      have x1444 := HI.eqI hI0 (p := 116) (b := 11) (hv1443)
      obtain ⟨v1445, hv1445⟩ : ∃ v, eA g0 173 0 = v := ⟨_, rfl⟩
      have tv1445 := congrArg Int32.toInt hv1445
      have x1446 := HI.eqA hI0 (p := 173) (j := 0) (hv1445)
      obtain ⟨v1447, hv1447⟩ : ∃ v, eA g0 173 1 = v := ⟨_, rfl⟩
      have tv1447 := congrArg Int32.toInt hv1447
      have x1448 := HI.eqA hI0 (p := 173) (j := 1) (hv1447)
      have x1449 := HI.eqI hI1415 (p := 59) (b := 0) (((hF1416.1 59 0 (by decide)).trans hv1429))
      have x1450 := HI.eqI hI1415 (p := 59) (b := 12) (((hF1416.1 59 12 (by decide)).trans hv1431))
      have x1451 := HI.eqI hI1415 (p := 59) (b := 10) (((hF1416.1 59 10 (by decide)).trans hv1433))
      have x1452 := HI.eqI hI1415 (p := 59) (b := 11) (((hF1416.1 59 11 (by decide)).trans hv1435))
      have x1453 := HI.eqI hI1415 (p := 116) (b := 0) (((hF1416.1 116 0 (by decide)).trans hv1437))
      have x1454 := HI.eqI hI1415 (p := 116) (b := 12) (((hF1416.1 116 12 (by decide)).trans hv1439))
      have x1455 := HI.eqI hI1415 (p := 116) (b := 10) (((hF1416.1 116 10 (by decide)).trans hv1441))
      have x1456 := HI.eqI hI1415 (p := 116) (b := 11) (((hF1416.1 116 11 (by decide)).trans hv1443))
      have x1457 := HI.eqA hI1415 (p := 173) (j := 0) (((eA_c (hF1416.2.1 173 (by decide))).trans hv1445))
      have x1458 := HI.eqA hI1415 (p := 173) (j := 1) (((eA_c (hF1416.2.1 173 (by decide))).trans hv1447))
      exact ⟨_, rfl, hI1415, hF1419, _, rfl, by omega, ⟨⟨by omega, by omega, by omega, by omega, by omega⟩, (by intro i i0 i1; refine Eq.trans ?_ (if_neg (show ¬ (a1.toInt = 0) from by omega)).symm; refine (eA_ti ((hF1416.2.1 60 (by decide)))).trans ?_; (first | rfl | exact eA_ix (by omega) | omega)), (by intro i i0 i1; refine Eq.trans ?_ (if_neg (show ¬ (a1.toInt = 0) from by omega)).symm; refine (eA_ti ((hF1416.2.1 61 (by decide)))).trans ?_; (first | rfl | exact eA_ix (by omega) | omega)), (by intro i i0 i1; refine Eq.trans ?_ (if_neg (show ¬ (a1.toInt = 0) from by omega)).symm; refine (eA_ti ((hF1416.2.1 62 (by decide)))).trans ?_; (first | rfl | exact eA_ix (by omega) | omega)), (by intro i i0 i1; refine Eq.trans ?_ (if_neg (show ¬ (a1.toInt = 0) from by omega)).symm; refine (eA_ti ((hF1416.2.1 72 (by decide)))).trans ?_; (first | rfl | exact eA_ix (by omega) | omega)), (by intro i i0 i1; refine Eq.trans ?_ (if_neg (show ¬ (a1.toInt = 0) from by omega)).symm; refine (eA_ti ((hF1416.2.1 73 (by decide)))).trans ?_; (first | rfl | exact eA_ix (by omega) | omega)), (by intro i i0 i1; refine Eq.trans ?_ (if_neg (show ¬ (a1.toInt = 1) from by omega)).symm; refine (eA_ti ((hF1416.2.1 117 (by decide)))).trans ?_; (first | rfl | exact eA_ix (by omega) | omega)), (by intro i i0 i1; refine Eq.trans ?_ (if_neg (show ¬ (a1.toInt = 1) from by omega)).symm; refine (eA_ti ((hF1416.2.1 118 (by decide)))).trans ?_; (first | rfl | exact eA_ix (by omega) | omega)), (by intro i i0 i1; refine Eq.trans ?_ (if_neg (show ¬ (a1.toInt = 1) from by omega)).symm; refine (eA_ti ((hF1416.2.1 119 (by decide)))).trans ?_; (first | rfl | exact eA_ix (by omega) | omega)), (by intro i i0 i1; refine Eq.trans ?_ (if_neg (show ¬ (a1.toInt = 1) from by omega)).symm; refine (eA_ti ((hF1416.2.1 129 (by decide)))).trans ?_; (first | rfl | exact eA_ix (by omega) | omega)), (by intro i i0 i1; refine Eq.trans ?_ (if_neg (show ¬ (a1.toInt = 1) from by omega)).symm; refine (eA_ti ((hF1416.2.1 130 (by decide)))).trans ?_; (first | rfl | exact eA_ix (by omega) | omega))⟩⟩
    · have c1413_ : a1.toInt ≤ 1 := en_i_gt_f c1413
      refine At.enter rfl ?_
      refine r_iconst 1 rfl ?_
      refine r_goto ?_
      refine At.enter rfl ?_
      refine q_iretz (by decide) ?_
      refine At.enter rfl ?_
      refine r_iff 9 rfl (by decide) ?_
      refine At.enter rfl ?_
      refine r_aload_n rfl ?_
      refine q_getR (Sh.ref hI0.1 kx_0 rfl) ?_
      refine r_iload_n rfl ?_
      by_cases c1459_0 : a1.toInt = 0
      · refine q_aald (Sh.rar hI0.1 ka_58) (by decide) 0 (by omega) (by decide) (some 59) rfl ?_
        refine r_goto ?_
        refine At.enter rfl ?_
        refine q_aret ?_
        refine At.enter rfl ?_
        refine r_astore_n ([(2, .ref 59), (0, .ref 0), (1, .int a1)]) rfl ?_
        refine r_aload_n rfl ?_
        refine r_nnr ?_
        refine At.enter rfl ?_
        refine r_aload_n rfl ?_
        refine r_aload_n rfl ?_
        refine q_getR (Sh.ref hI0.1 kx_0 rfl) ?_
        refine q_inlV 24 rfl [.ref 59, .ref 1] [] (Nat.le_of_ble_eq_true rfl) rfl ?_
        refine Ev.mk rfl rfl ⟨Nat.le_of_ble_eq_true rfl, Or.inr (q_rc hI0.1 kx_59 rfl)⟩ ?_
        show At _ none _ _ (0, [(0, .ref 59), (1, .ref 1)], [], (_, _)) _
        refine At.enter rfl ?_
        refine r_aload_n rfl ?_
        refine r_aload_n rfl ?_
        obtain ⟨v1460, hv1460⟩ : ∃ v, gI g0 1 0 = v := ⟨_, rfl⟩
        have rv1460 := RgF.at hI0.2.1 (p := 1) (b := 0) rfl
        rw [hv1460] at rv1460
        dsimp only at rv1460
        refine q_getI (Sh.int hI0.1 kx_1 rfl) v1460 hv1460 ?_
        refine q_putI (Sh.int hI0.1 kx_59 rfl) rfl ?_
        have hI1461 := HI.wI1 hI0 kx_59 rfl (p := 59) (b := 0) (v := v1460) rfl (by dsimp only; omega)
        have hF1462 := Fr.wI (p := 59) (b := 0) (v := v1460) hF0 rfl
        refine r_aload_n rfl ?_
        refine q_getR (Sh.ref hI1461.1 kx_1 rfl) ?_
        refine r_iconst 0 rfl ?_
        refine r_aload_n rfl ?_
        refine q_getR (Sh.ref hI1461.1 kx_59 rfl) ?_
        refine r_iconst 0 rfl ?_
        refine r_bipush 12 rfl ?_
        have zv1463 : (0 : Int32).toInt = 0 := rfl
        have zv1464 : (0 : Int32).toInt = 0 := rfl
        have zv1465 : (12 : Int32).toInt = 12 := rfl
        refine q_cpy rfl (Nat.le_of_ble_eq_true rfl) (Sh.arr hI1461.1 ka_2) (Sh.arr hI1461.1 ka_60) ⟨by omega, by omega, by omega, by omega, by omega⟩ ?_
        have hI1466 := HI.cpy0 hI1461 ka_2 ka_60 rfl rfl ((0 : Int32).toInt.toNat) ((0 : Int32).toInt.toNat) ((12 : Int32).toInt.toNat) (by omega) (by omega)
        have hF1467 := Fr.cpy (p0 := 2) (p1 := 60) hF1462 rfl ((0 : Int32).toInt.toNat) ((0 : Int32).toInt.toNat) ((12 : Int32).toInt.toNat)
        refine r_aload_n rfl ?_
        refine q_getR (Sh.ref hI1466.1 kx_1 rfl) ?_
        refine r_iconst 0 rfl ?_
        refine r_aload_n rfl ?_
        refine q_getR (Sh.ref hI1466.1 kx_59 rfl) ?_
        refine r_iconst 0 rfl ?_
        refine r_bipush 12 rfl ?_
        have zv1468 : (0 : Int32).toInt = 0 := rfl
        have zv1469 : (0 : Int32).toInt = 0 := rfl
        have zv1470 : (12 : Int32).toInt = 12 := rfl
        refine q_cpy rfl (Nat.le_of_ble_eq_true rfl) (Sh.arr hI1466.1 ka_3) (Sh.arr hI1466.1 ka_61) ⟨by omega, by omega, by omega, by omega, by omega⟩ ?_
        have hI1471 := HI.cpy0 hI1466 ka_3 ka_61 rfl rfl ((0 : Int32).toInt.toNat) ((0 : Int32).toInt.toNat) ((12 : Int32).toInt.toNat) (by omega) (by omega)
        have hF1472 := Fr.cpy (p0 := 3) (p1 := 61) hF1467 rfl ((0 : Int32).toInt.toNat) ((0 : Int32).toInt.toNat) ((12 : Int32).toInt.toNat)
        refine r_aload_n rfl ?_
        refine q_getR (Sh.ref hI1471.1 kx_1 rfl) ?_
        refine r_iconst 0 rfl ?_
        refine r_aload_n rfl ?_
        refine q_getR (Sh.ref hI1471.1 kx_59 rfl) ?_
        refine r_iconst 0 rfl ?_
        refine r_bipush 12 rfl ?_
        have zv1473 : (0 : Int32).toInt = 0 := rfl
        have zv1474 : (0 : Int32).toInt = 0 := rfl
        have zv1475 : (12 : Int32).toInt = 12 := rfl
        refine q_cpy rfl (Nat.le_of_ble_eq_true rfl) (Sh.arr hI1471.1 ka_4) (Sh.arr hI1471.1 ka_62) ⟨by omega, by omega, by omega, by omega, by omega⟩ ?_
        have hI1476 := HI.cpy0 hI1471 ka_4 ka_62 rfl rfl ((0 : Int32).toInt.toNat) ((0 : Int32).toInt.toNat) ((12 : Int32).toInt.toNat) (by omega) (by omega)
        have hF1477 := Fr.cpy (p0 := 4) (p1 := 62) hF1472 rfl ((0 : Int32).toInt.toNat) ((0 : Int32).toInt.toNat) ((12 : Int32).toInt.toNat)
        refine r_aload_n rfl ?_
        refine r_aload_n rfl ?_
        obtain ⟨v1478, hv1478⟩ : ∃ v, gI g0 1 4 = v := ⟨_, rfl⟩
        have rv1478 := RgF.at hI0.2.1 (p := 1) (b := 4) rfl
        rw [hv1478] at rv1478
        dsimp only at rv1478
        refine q_getI (Sh.int hI1476.1 kx_1 rfl) v1478 (((gI_sW).trans ((gI_sW).trans ((gI_sW).trans (gI_sI_ne (by decide))))).trans hv1478) ?_
        refine q_putI (Sh.int hI1476.1 kx_59 rfl) rfl ?_
        have hI1479 := HI.wI1 hI1476 kx_59 rfl (p := 59) (b := 4) (v := v1478) rfl (by dsimp only; omega)
        have hF1480 := Fr.wI (p := 59) (b := 4) (v := v1478) hF1477 rfl
        refine r_aload_n rfl ?_
        refine q_getR (Sh.ref hI1479.1 kx_1 rfl) ?_
        refine r_iconst 0 rfl ?_
        refine r_aload_n rfl ?_
        refine q_getR (Sh.ref hI1479.1 kx_59 rfl) ?_
        refine r_iconst 0 rfl ?_
        refine r_bipush 48 rfl ?_
        have zv1481 : (0 : Int32).toInt = 0 := rfl
        have zv1482 : (0 : Int32).toInt = 0 := rfl
        have zv1483 : (48 : Int32).toInt = 48 := rfl
        refine q_cpy rfl (Nat.le_of_ble_eq_true rfl) (Sh.arr hI1479.1 ka_5) (Sh.arr hI1479.1 ka_63) ⟨by omega, by omega, by omega, by omega, by omega⟩ ?_
        have hI1484 := HI.cpy0 hI1479 ka_5 ka_63 rfl rfl ((0 : Int32).toInt.toNat) ((0 : Int32).toInt.toNat) ((48 : Int32).toInt.toNat) (by omega) (by omega)
        have hF1485 := Fr.cpy (p0 := 5) (p1 := 63) hF1480 rfl ((0 : Int32).toInt.toNat) ((0 : Int32).toInt.toNat) ((48 : Int32).toInt.toNat)
        refine r_aload_n rfl ?_
        refine r_aload_n rfl ?_
        obtain ⟨v1486, hv1486⟩ : ∃ v, gI g0 1 6 = v := ⟨_, rfl⟩
        have rv1486 := RgF.at hI0.2.1 (p := 1) (b := 6) rfl
        rw [hv1486] at rv1486
        dsimp only at rv1486
        refine q_getI (Sh.int hI1484.1 kx_1 rfl) v1486 (((gI_sW).trans ((gI_sI_ne (by decide)).trans ((gI_sW).trans ((gI_sW).trans ((gI_sW).trans (gI_sI_ne (by decide))))))).trans hv1486) ?_
        refine q_putI (Sh.int hI1484.1 kx_59 rfl) rfl ?_
        have hI1487 := HI.wI1 hI1484 kx_59 rfl (p := 59) (b := 6) (v := v1486) rfl (by dsimp only; omega)
        have hF1488 := Fr.wI (p := 59) (b := 6) (v := v1486) hF1485 rfl
        refine r_iconst 0 rfl ?_
        refine r_istore_n ([(2, .int 0), (0, .ref 59), (1, .ref 1)]) rfl ?_
        refine Ar.fall 86 rfl ?_
        obtain ⟨v1489, hv1489⟩ : ∃ v, gI g0 59 10 = v := ⟨_, rfl⟩
        have tv1489 := congrArg Int32.toInt hv1489
        obtain ⟨v1490, hv1490⟩ : ∃ v, gI g0 59 11 = v := ⟨_, rfl⟩
        have tv1490 := congrArg Int32.toInt hv1490
        obtain ⟨v1491, hv1491⟩ : ∃ v, gI g0 59 12 = v := ⟨_, rfl⟩
        have rv1491 := RgF.at hI0.2.1 (p := 59) (b := 12) rfl
        rw [hv1491] at rv1491
        dsimp only at rv1491
        have tv1491 := congrArg Int32.toInt hv1491
        obtain ⟨v1492, hv1492⟩ : ∃ v, gI g0 116 0 = v := ⟨_, rfl⟩
        have rv1492 := RgF.at hI0.2.1 (p := 116) (b := 0) rfl
        rw [hv1492] at rv1492
        dsimp only at rv1492
        have tv1492 := congrArg Int32.toInt hv1492
        obtain ⟨v1493, hv1493⟩ : ∃ v, gI g0 116 10 = v := ⟨_, rfl⟩
        have tv1493 := congrArg Int32.toInt hv1493
        obtain ⟨v1494, hv1494⟩ : ∃ v, gI g0 116 11 = v := ⟨_, rfl⟩
        have tv1494 := congrArg Int32.toInt hv1494
        obtain ⟨v1495, hv1495⟩ : ∃ v, gI g0 116 12 = v := ⟨_, rfl⟩
        have rv1495 := RgF.at hI0.2.1 (p := 116) (b := 12) rfl
        rw [hv1495] at rv1495
        dsimp only at rv1495
        have tv1495 := congrArg Int32.toInt hv1495
        obtain ⟨v1496, hv1496⟩ : ∃ v, eA g0 173 0 = v := ⟨_, rfl⟩
        have tv1496 := congrArg Int32.toInt hv1496
        obtain ⟨v1497, hv1497⟩ : ∃ v, eA g0 173 1 = v := ⟨_, rfl⟩
        have tv1497 := congrArg Int32.toInt hv1497
        have z_1735 : (0 : Int32).toInt = 0 := rfl
        refine w_loopI (fun n_ l_ g_ => ∃ x1704 : Int32, n_ = 6 - x1704.toInt ∧ HI g_ ∧ Fr F_X10_image_0 A_X10_image_0 g0 g_ ∧ gI g_ 59 0 = v1460 ∧ gI g_ 59 10 = v1489 ∧ gI g_ 59 11 = v1490 ∧ gI g_ 59 12 = v1491 ∧ gI g_ 116 0 = v1492 ∧ gI g_ 116 10 = v1493 ∧ gI g_ 116 11 = v1494 ∧ gI g_ 116 12 = v1495 ∧ eA g_ 173 0 = v1496 ∧ eA g_ 173 1 = v1497 ∧ en_get 0 l_ = some (.ref 59) ∧ en_get 1 l_ = some (.ref 1) ∧ en_get 2 l_ = some (.int x1704) ∧ (0 ≤ x1704.toInt ∧ x1704.toInt ≤ 6) ∧ (∀ i : Int, 0 ≤ i → i < 12 → (eA g_ 60 (i)).toInt = (eA g0 2 (i)).toInt) ∧ (∀ i : Int, 0 ≤ i → i < 12 → (eA g_ 61 (i)).toInt = (eA g0 3 (i)).toInt) ∧ (∀ i : Int, 0 ≤ i → i < 12 → (eA g_ 62 (i)).toInt = (eA g0 4 (i)).toInt) ∧ (∀ i : Int, 0 ≤ i → i < 8 → (eA g_ 72 (i)).toInt = (eA g0 72 (i)).toInt) ∧ (∀ i : Int, 0 ≤ i → i < 8 → (eA g_ 73 (i)).toInt = (eA g0 73 (i)).toInt) ∧ (∀ i : Int, 0 ≤ i → i < 12 → (eA g_ 117 (i)).toInt = (eA g0 117 (i)).toInt) ∧ (∀ i : Int, 0 ≤ i → i < 12 → (eA g_ 118 (i)).toInt = (eA g0 118 (i)).toInt) ∧ (∀ i : Int, 0 ≤ i → i < 12 → (eA g_ 119 (i)).toInt = (eA g0 119 (i)).toInt) ∧ (∀ i : Int, 0 ≤ i → i < 8 → (eA g_ 129 (i)).toInt = (eA g0 129 (i)).toInt) ∧ (∀ i : Int, 0 ≤ i → i < 8 → (eA g_ 130 (i)).toInt = (eA g0 130 (i)).toInt)) ?_ (6 - 0) ⟨0, by first | rfl | omega, hI1487, hF1488, ((gI_sI_ne (by decide)).trans ((gI_sW).trans ((gI_sI_ne (by decide)).trans ((gI_sW).trans ((gI_sW).trans ((gI_sW).trans (gI_sI_eq hI0.1 kx_59 rfl _))))))), (((gI_sI_ne (by decide)).trans ((gI_sW).trans ((gI_sI_ne (by decide)).trans ((gI_sW).trans ((gI_sW).trans ((gI_sW).trans (gI_sI_ne (by decide)))))))).trans hv1489), (((gI_sI_ne (by decide)).trans ((gI_sW).trans ((gI_sI_ne (by decide)).trans ((gI_sW).trans ((gI_sW).trans ((gI_sW).trans (gI_sI_ne (by decide)))))))).trans hv1490), (((gI_sI_ne (by decide)).trans ((gI_sW).trans ((gI_sI_ne (by decide)).trans ((gI_sW).trans ((gI_sW).trans ((gI_sW).trans (gI_sI_ne (by decide)))))))).trans hv1491), (((gI_sI_ne (by decide)).trans ((gI_sW).trans ((gI_sI_ne (by decide)).trans ((gI_sW).trans ((gI_sW).trans ((gI_sW).trans (gI_sI_ne (by decide)))))))).trans hv1492), (((gI_sI_ne (by decide)).trans ((gI_sW).trans ((gI_sI_ne (by decide)).trans ((gI_sW).trans ((gI_sW).trans ((gI_sW).trans (gI_sI_ne (by decide)))))))).trans hv1493), (((gI_sI_ne (by decide)).trans ((gI_sW).trans ((gI_sI_ne (by decide)).trans ((gI_sW).trans ((gI_sW).trans ((gI_sW).trans (gI_sI_ne (by decide)))))))).trans hv1494), (((gI_sI_ne (by decide)).trans ((gI_sW).trans ((gI_sI_ne (by decide)).trans ((gI_sW).trans ((gI_sW).trans ((gI_sW).trans (gI_sI_ne (by decide)))))))).trans hv1495), (((eA_c gA_sI).trans ((eA_c (gA_sW_ne (by decide))).trans ((eA_c gA_sI).trans ((eA_c (gA_sW_ne (by decide))).trans ((eA_c (gA_sW_ne (by decide))).trans ((eA_c (gA_sW_ne (by decide))).trans (eA_c gA_sI))))))).trans hv1496), (((eA_c gA_sI).trans ((eA_c (gA_sW_ne (by decide))).trans ((eA_c gA_sI).trans ((eA_c (gA_sW_ne (by decide))).trans ((eA_c (gA_sW_ne (by decide))).trans ((eA_c (gA_sW_ne (by decide))).trans (eA_c gA_sI))))))).trans hv1497), rfl, rfl, rfl, by decide, (by intro i i0 i1; refine (eA_tq (((gA_sI).trans ((gA_sW_ne (by decide)).trans ((gA_sI).trans ((gA_sW_ne (by decide)).trans ((gA_sW_ne (by decide)).trans ((gA_cpF hI1461.1 ka_2 ka_60 (by decide) (by decide) (by decide)).trans (gA_sI))))))))).trans ?_; (first | rfl | exact eA_ix (by omega) | omega)), (by intro i i0 i1; refine (eA_tq (((gA_sI).trans ((gA_sW_ne (by decide)).trans ((gA_sI).trans ((gA_sW_ne (by decide)).trans ((gA_cpF hI1466.1 ka_3 ka_61 (by decide) (by decide) (by decide)).trans ((gA_sW_ne (by decide)).trans (gA_sI))))))))).trans ?_; (first | rfl | exact eA_ix (by omega) | omega)), (by intro i i0 i1; refine (eA_tq (((gA_sI).trans ((gA_sW_ne (by decide)).trans ((gA_sI).trans ((gA_cpF hI1471.1 ka_4 ka_62 (by decide) (by decide) (by decide)).trans ((gA_sW_ne (by decide)).trans ((gA_sW_ne (by decide)).trans (gA_sI))))))))).trans ?_; (first | rfl | exact eA_ix (by omega) | omega)), (by intro i i0 i1; refine (eA_ti (((gA_sI).trans ((gA_sW_ne (by decide)).trans ((gA_sI).trans ((gA_sW_ne (by decide)).trans ((gA_sW_ne (by decide)).trans ((gA_sW_ne (by decide)).trans (gA_sI))))))))).trans ?_; (first | rfl | exact eA_ix (by omega) | omega)), (by intro i i0 i1; refine (eA_ti (((gA_sI).trans ((gA_sW_ne (by decide)).trans ((gA_sI).trans ((gA_sW_ne (by decide)).trans ((gA_sW_ne (by decide)).trans ((gA_sW_ne (by decide)).trans (gA_sI))))))))).trans ?_; (first | rfl | exact eA_ix (by omega) | omega)), (by intro i i0 i1; refine (eA_ti (((gA_sI).trans ((gA_sW_ne (by decide)).trans ((gA_sI).trans ((gA_sW_ne (by decide)).trans ((gA_sW_ne (by decide)).trans ((gA_sW_ne (by decide)).trans (gA_sI))))))))).trans ?_; (first | rfl | exact eA_ix (by omega) | omega)), (by intro i i0 i1; refine (eA_ti (((gA_sI).trans ((gA_sW_ne (by decide)).trans ((gA_sI).trans ((gA_sW_ne (by decide)).trans ((gA_sW_ne (by decide)).trans ((gA_sW_ne (by decide)).trans (gA_sI))))))))).trans ?_; (first | rfl | exact eA_ix (by omega) | omega)), (by intro i i0 i1; refine (eA_ti (((gA_sI).trans ((gA_sW_ne (by decide)).trans ((gA_sI).trans ((gA_sW_ne (by decide)).trans ((gA_sW_ne (by decide)).trans ((gA_sW_ne (by decide)).trans (gA_sI))))))))).trans ?_; (first | rfl | exact eA_ix (by omega) | omega)), (by intro i i0 i1; refine (eA_ti (((gA_sI).trans ((gA_sW_ne (by decide)).trans ((gA_sI).trans ((gA_sW_ne (by decide)).trans ((gA_sW_ne (by decide)).trans ((gA_sW_ne (by decide)).trans (gA_sI))))))))).trans ?_; (first | rfl | exact eA_ix (by omega) | omega)), (by intro i i0 i1; refine (eA_ti (((gA_sI).trans ((gA_sW_ne (by decide)).trans ((gA_sI).trans ((gA_sW_ne (by decide)).trans ((gA_sW_ne (by decide)).trans ((gA_sW_ne (by decide)).trans (gA_sI))))))))).trans ?_; (first | rfl | exact eA_ix (by omega) | omega))⟩
        rintro n1709 l1708 g1705 ⟨x1704, hm1736, hI1706, hF1707, e1711, e1712, e1713, e1714, e1715, e1716, e1717, e1718, e1719, e1720, e1721, e1722, e1723, r1724, q1725, q1726, q1727, q1728, q1729, q1730, q1731, q1732, q1733, q1734⟩ ih1710
        have tv1737 := congrArg Int32.toInt e1719
        have tv1738 := congrArg Int32.toInt e1720
        have tv1739 := congrArg Int32.toInt e1711
        have tv1740 := congrArg Int32.toInt e1712
        have tv1741 := congrArg Int32.toInt e1713
        have tv1742 := congrArg Int32.toInt e1714
        have tv1743 := congrArg Int32.toInt e1715
        have tv1744 := congrArg Int32.toInt e1716
        have tv1745 := congrArg Int32.toInt e1717
        have tv1746 := congrArg Int32.toInt e1718
        refine At.enter rfl ?_
        refine r_iload_n e1723 ?_
        refine r_bipush 6 rfl ?_
        refine r_ics 92 rfl (fun c1747 => ?_) (fun c1747 => ?_)
        · have c1747_ : x1704.toInt ≥ 6 := en_i_ge_t c1747
          refine At.enter rfl ?_
          refine r_aload_n e1721 ?_
          refine r_aload_n e1722 ?_
          obtain ⟨v1748, hv1748⟩ : ∃ v, gI g0 1 9 = v := ⟨_, rfl⟩
          refine q_getI (Sh.int hI1706.1 kx_1 rfl) v1748 ((hF1707.1 1 9 (by decide)).trans hv1748) ?_
          refine q_putI (Sh.int hI1706.1 kx_59 rfl) rfl ?_
          have hI1749 := HI.wI0 hI1706 kx_59 rfl (p := 59) (b := 9) (v := v1748) rfl
          have hF1750 := Fr.wI (p := 59) (b := 9) (v := v1748) hF1707 rfl
          refine r_aload_n e1721 ?_
          refine r_aload_n e1722 ?_
          obtain ⟨v1751, hv1751⟩ : ∃ v, gI g0 1 10 = v := ⟨_, rfl⟩
          refine q_getI (Sh.int hI1749.1 kx_1 rfl) v1751 (((gI_sI_ne (by decide)).trans (hF1707.1 1 10 (by decide))).trans hv1751) ?_
          refine q_putI (Sh.int hI1749.1 kx_59 rfl) rfl ?_
          have hI1752 := HI.wI0 hI1749 kx_59 rfl (p := 59) (b := 10) (v := v1751) rfl
          have hF1753 := Fr.wI (p := 59) (b := 10) (v := v1751) hF1750 rfl
          refine r_aload_n e1721 ?_
          refine r_aload_n e1722 ?_
          obtain ⟨v1754, hv1754⟩ : ∃ v, gI g0 1 11 = v := ⟨_, rfl⟩
          refine q_getI (Sh.int hI1752.1 kx_1 rfl) v1754 (((gI_sI_ne (by decide)).trans ((gI_sI_ne (by decide)).trans (hF1707.1 1 11 (by decide)))).trans hv1754) ?_
          refine q_putI (Sh.int hI1752.1 kx_59 rfl) rfl ?_
          have hI1755 := HI.wI0 hI1752 kx_59 rfl (p := 59) (b := 11) (v := v1754) rfl
          have hF1756 := Fr.wI (p := 59) (b := 11) (v := v1754) hF1753 rfl
          refine r_aload_n e1721 ?_
          refine r_aload_n e1722 ?_
          obtain ⟨v1757, hv1757⟩ : ∃ v, gI g0 1 12 = v := ⟨_, rfl⟩
          have rv1757 := RgF.at hI0.2.1 (p := 1) (b := 12) rfl
          rw [hv1757] at rv1757
          dsimp only at rv1757
          refine q_getI (Sh.int hI1755.1 kx_1 rfl) v1757 (((gI_sI_ne (by decide)).trans ((gI_sI_ne (by decide)).trans ((gI_sI_ne (by decide)).trans (hF1707.1 1 12 (by decide))))).trans hv1757) ?_
          refine q_putI (Sh.int hI1755.1 kx_59 rfl) rfl ?_
          have hI1758 := HI.wI1 hI1755 kx_59 rfl (p := 59) (b := 12) (v := v1757) rfl (by dsimp only; omega)
          have hF1759 := Fr.wI (p := 59) (b := 12) (v := v1757) hF1756 rfl
          refine r_aload_n e1722 ?_
          refine q_getR (Sh.ref hI1758.1 kx_1 rfl) ?_
          refine r_iconst 0 rfl ?_
          refine r_aload_n e1721 ?_
          refine q_getR (Sh.ref hI1758.1 kx_59 rfl) ?_
          refine r_iconst 0 rfl ?_
          refine r_bipush 8 rfl ?_
          have zv1760 : (0 : Int32).toInt = 0 := rfl
          have zv1761 : (0 : Int32).toInt = 0 := rfl
          have zv1762 : (8 : Int32).toInt = 8 := rfl
          refine q_cpy rfl (Nat.le_of_ble_eq_true rfl) (Sh.arr hI1758.1 ka_14) (Sh.arr hI1758.1 ka_72) ⟨by omega, by omega, by omega, by omega, by omega⟩ ?_
          have hI1763 := HI.cpy0 hI1758 ka_14 ka_72 rfl rfl ((0 : Int32).toInt.toNat) ((0 : Int32).toInt.toNat) ((8 : Int32).toInt.toNat) (by omega) (by omega)
          have hF1764 := Fr.cpy (p0 := 14) (p1 := 72) hF1759 rfl ((0 : Int32).toInt.toNat) ((0 : Int32).toInt.toNat) ((8 : Int32).toInt.toNat)
          refine r_aload_n e1722 ?_
          refine q_getR (Sh.ref hI1763.1 kx_1 rfl) ?_
          refine r_iconst 0 rfl ?_
          refine r_aload_n e1721 ?_
          refine q_getR (Sh.ref hI1763.1 kx_59 rfl) ?_
          refine r_iconst 0 rfl ?_
          refine r_bipush 8 rfl ?_
          have zv1765 : (0 : Int32).toInt = 0 := rfl
          have zv1766 : (0 : Int32).toInt = 0 := rfl
          have zv1767 : (8 : Int32).toInt = 8 := rfl
          refine q_cpy rfl (Nat.le_of_ble_eq_true rfl) (Sh.arr hI1763.1 ka_15) (Sh.arr hI1763.1 ka_73) ⟨by omega, by omega, by omega, by omega, by omega⟩ ?_
          have hI1768 := HI.cpy0 hI1763 ka_15 ka_73 rfl rfl ((0 : Int32).toInt.toNat) ((0 : Int32).toInt.toNat) ((8 : Int32).toInt.toNat) (by omega) (by omega)
          have hF1769 := Fr.cpy (p0 := 15) (p1 := 73) hF1764 rfl ((0 : Int32).toInt.toNat) ((0 : Int32).toInt.toNat) ((8 : Int32).toInt.toNat)
          refine q_vret ?_
          refine At.enter rfl ?_
          refine r_aload_n rfl ?_
          refine q_getR (Sh.ref hI1768.1 kx_0 rfl) ?_
          refine r_iload_n rfl ?_
          refine r_iconst 1 rfl ?_
          refine q_bast (Sh.arr hI1768.1 ka_173) (a1.toInt) rfl (by omega) rfl ?_
          have hI1770 := HI.wA0 hI1768 ka_173 (p := 173) rfl rfl (a1.toInt) (1)
          have hF1771 := Fr.wA (p := 173) (j := a1.toInt) (v := 1) hF1769 rfl
          refine r_aload_n rfl ?_
          refine r_iconst 0 rfl ?_
          refine q_inlV 36 rfl [.ref 0, .int 0] [] (Nat.le_of_ble_eq_true rfl) rfl ?_
          refine Ev.mk rfl rfl ⟨Nat.le_of_ble_eq_true rfl, Or.inr (q_rc hI1770.1 kx_0 rfl)⟩ ?_
          show At _ none _ _ (0, [(0, .ref 0), (1, .int 0)], [], (_, _)) _
          refine At.enter rfl ?_
          refine r_aload_n rfl ?_
          refine r_iconst 0 rfl ?_
          refine q_putI (Sh.int hI1770.1 kx_0 rfl) rfl ?_
          have hI1772 := HI.wI0 hI1770 kx_0 rfl (p := 0) (b := 17) (v := 0) rfl
          have hF1773 := Fr.wI (p := 0) (b := 17) (v := 0) hF1771 rfl
          refine r_iload_n rfl ?_
          refine q_ireti ?_
          refine At.enter rfl ?_
          refine r_ireti ?_
          have zv1774 : (0 : Int32).toInt = 0 := rfl
          have e : a1.toInt = 0 := by omega
          exact ⟨_, rfl, hI1772, hF1773, _, rfl, by decide, ⟨⟨(fun _ => ⟨(HI.eqA hI1772 (p := 173) (j := 0) (((eA_c gA_sI).trans (eA_sA_eq hI1768.1 ka_173 (by omega) (by first | decide | omega) (by first | decide | omega))))).trans rfl, (by first | rfl | decide), (HI.eqI hI1772 (p := 59) (b := 0) ((((gI_sI_ne (by decide)).trans ((gI_sW).trans ((gI_sW).trans ((gI_sW).trans ((gI_sI_ne (by decide)).trans ((gI_sI_ne (by decide)).trans ((gI_sI_ne (by decide)).trans (gI_sI_ne (by decide))))))))).trans e1711))).trans (HI.eqI hI0 (p := 1) (b := 0) (hv1460)).symm, (HI.eqI hI1772 (p := 59) (b := 12) (((gI_sI_ne (by decide)).trans ((gI_sW).trans ((gI_sW).trans ((gI_sW).trans (gI_sI_eq hI1755.1 kx_59 rfl _))))))).trans (HI.eqI hI0 (p := 1) (b := 12) (hv1757)).symm, (HI.eqI hI1772 (p := 59) (b := 10) (((gI_sI_ne (by decide)).trans ((gI_sW).trans ((gI_sW).trans ((gI_sW).trans ((gI_sI_ne (by decide)).trans ((gI_sI_ne (by decide)).trans (gI_sI_eq hI1749.1 kx_59 rfl _))))))))).trans (HI.eqI hI0 (p := 1) (b := 10) (hv1751)).symm, (HI.eqI hI1772 (p := 59) (b := 11) (((gI_sI_ne (by decide)).trans ((gI_sW).trans ((gI_sW).trans ((gI_sW).trans ((gI_sI_ne (by decide)).trans (gI_sI_eq hI1752.1 kx_59 rfl _)))))))).trans (HI.eqI hI0 (p := 1) (b := 11) (hv1754)).symm⟩), (fun h => absurd e h), (fun h => absurd (e.symm.trans h) (by decide)), (fun _ => ⟨(HI.eqA hI1772 (p := 173) (j := 1) ((((eA_c gA_sI).trans ((eA_sA_ne hI1768.1 ka_173 (by first | decide | omega) (by first | decide | omega) (by first | decide | omega)).trans ((eA_c (gA_sW_ne (by decide))).trans ((eA_c (gA_sW_ne (by decide))).trans ((eA_c gA_sI).trans ((eA_c gA_sI).trans ((eA_c gA_sI).trans (eA_c gA_sI)))))))).trans e1720))).trans (HI.eqA hI0 (p := 173) (j := 1) (hv1497)).symm, (HI.eqI hI1772 (p := 116) (b := 0) ((((gI_sI_ne (by decide)).trans ((gI_sW).trans ((gI_sW).trans ((gI_sW).trans ((gI_sI_ne (by decide)).trans ((gI_sI_ne (by decide)).trans ((gI_sI_ne (by decide)).trans (gI_sI_ne (by decide))))))))).trans e1715))).trans (HI.eqI hI0 (p := 116) (b := 0) (hv1492)).symm, (HI.eqI hI1772 (p := 116) (b := 12) ((((gI_sI_ne (by decide)).trans ((gI_sW).trans ((gI_sW).trans ((gI_sW).trans ((gI_sI_ne (by decide)).trans ((gI_sI_ne (by decide)).trans ((gI_sI_ne (by decide)).trans (gI_sI_ne (by decide))))))))).trans e1718))).trans (HI.eqI hI0 (p := 116) (b := 12) (hv1495)).symm, (HI.eqI hI1772 (p := 116) (b := 10) ((((gI_sI_ne (by decide)).trans ((gI_sW).trans ((gI_sW).trans ((gI_sW).trans ((gI_sI_ne (by decide)).trans ((gI_sI_ne (by decide)).trans ((gI_sI_ne (by decide)).trans (gI_sI_ne (by decide))))))))).trans e1716))).trans (HI.eqI hI0 (p := 116) (b := 10) (hv1493)).symm, (HI.eqI hI1772 (p := 116) (b := 11) ((((gI_sI_ne (by decide)).trans ((gI_sW).trans ((gI_sW).trans ((gI_sW).trans ((gI_sI_ne (by decide)).trans ((gI_sI_ne (by decide)).trans ((gI_sI_ne (by decide)).trans (gI_sI_ne (by decide))))))))).trans e1717))).trans (HI.eqI hI0 (p := 116) (b := 11) (hv1494)).symm⟩), (fun h => False.elim (by omega))⟩, (by intro i i0 i1; exact (Decidable.em (a1.toInt = 0)).elim (fun k41_ => by refine Eq.trans ?_ (if_pos k41_).symm; refine (eA_ti (((gA_sI).trans ((gA_sA_ne (by decide)).trans ((gA_sW_ne (by decide)).trans ((gA_sW_ne (by decide)).trans ((gA_sI).trans ((gA_sI).trans ((gA_sI).trans (gA_sI)))))))))).trans ?_; refine ((q1725 (i) (by omega) (by omega))).trans ?_; (first | rfl | exact eA_ix (by omega) | omega)) (fun k41_ => by refine Eq.trans ?_ (if_neg k41_).symm; refine (eA_ti (((gA_sI).trans ((gA_sA_ne (by decide)).trans ((gA_sW_ne (by decide)).trans ((gA_sW_ne (by decide)).trans ((gA_sI).trans ((gA_sI).trans ((gA_sI).trans (gA_sI)))))))))).trans ?_; refine ((q1725 (i) (by omega) (by omega))).trans ?_; (first | rfl | exact eA_ix (by omega) | omega))), (by intro i i0 i1; exact (Decidable.em (a1.toInt = 0)).elim (fun k42_ => by refine Eq.trans ?_ (if_pos k42_).symm; refine (eA_ti (((gA_sI).trans ((gA_sA_ne (by decide)).trans ((gA_sW_ne (by decide)).trans ((gA_sW_ne (by decide)).trans ((gA_sI).trans ((gA_sI).trans ((gA_sI).trans (gA_sI)))))))))).trans ?_; refine ((q1726 (i) (by omega) (by omega))).trans ?_; (first | rfl | exact eA_ix (by omega) | omega)) (fun k42_ => by refine Eq.trans ?_ (if_neg k42_).symm; refine (eA_ti (((gA_sI).trans ((gA_sA_ne (by decide)).trans ((gA_sW_ne (by decide)).trans ((gA_sW_ne (by decide)).trans ((gA_sI).trans ((gA_sI).trans ((gA_sI).trans (gA_sI)))))))))).trans ?_; refine ((q1726 (i) (by omega) (by omega))).trans ?_; (first | rfl | exact eA_ix (by omega) | omega))), (by intro i i0 i1; exact (Decidable.em (a1.toInt = 0)).elim (fun k43_ => by refine Eq.trans ?_ (if_pos k43_).symm; refine (eA_ti (((gA_sI).trans ((gA_sA_ne (by decide)).trans ((gA_sW_ne (by decide)).trans ((gA_sW_ne (by decide)).trans ((gA_sI).trans ((gA_sI).trans ((gA_sI).trans (gA_sI)))))))))).trans ?_; refine ((q1727 (i) (by omega) (by omega))).trans ?_; (first | rfl | exact eA_ix (by omega) | omega)) (fun k43_ => by refine Eq.trans ?_ (if_neg k43_).symm; refine (eA_ti (((gA_sI).trans ((gA_sA_ne (by decide)).trans ((gA_sW_ne (by decide)).trans ((gA_sW_ne (by decide)).trans ((gA_sI).trans ((gA_sI).trans ((gA_sI).trans (gA_sI)))))))))).trans ?_; refine ((q1727 (i) (by omega) (by omega))).trans ?_; (first | rfl | exact eA_ix (by omega) | omega))), (by intro i i0 i1; exact (Decidable.em (a1.toInt = 0)).elim (fun k44_ => by refine Eq.trans ?_ (if_pos k44_).symm; refine (eA_tq (((gA_sI).trans ((gA_sA_ne (by decide)).trans ((gA_sW_ne (by decide)).trans ((gA_cpF hI1758.1 ka_14 ka_72 (by decide) (by decide) (by decide)).trans ((gA_sI).trans ((gA_sI).trans ((gA_sI).trans ((gA_sI).trans (hF1707.2.1 14 (by decide)))))))))))).trans ?_; (first | rfl | exact eA_ix (by omega) | omega)) (fun k44_ => by refine Eq.trans ?_ (if_neg k44_).symm; refine (eA_tq (((gA_sI).trans ((gA_sA_ne (by decide)).trans ((gA_sW_ne (by decide)).trans ((gA_cpF hI1758.1 ka_14 ka_72 (by decide) (by decide) (by decide)).trans ((gA_sI).trans ((gA_sI).trans ((gA_sI).trans ((gA_sI).trans (hF1707.2.1 14 (by decide)))))))))))).trans ?_; (first | rfl | exact eA_ix (by omega) | omega))), (by intro i i0 i1; exact (Decidable.em (a1.toInt = 0)).elim (fun k45_ => by refine Eq.trans ?_ (if_pos k45_).symm; refine (eA_tq (((gA_sI).trans ((gA_sA_ne (by decide)).trans ((gA_cpF hI1763.1 ka_15 ka_73 (by decide) (by decide) (by decide)).trans ((gA_sW_ne (by decide)).trans ((gA_sI).trans ((gA_sI).trans ((gA_sI).trans ((gA_sI).trans (hF1707.2.1 15 (by decide)))))))))))).trans ?_; (first | rfl | exact eA_ix (by omega) | omega)) (fun k45_ => by refine Eq.trans ?_ (if_neg k45_).symm; refine (eA_tq (((gA_sI).trans ((gA_sA_ne (by decide)).trans ((gA_cpF hI1763.1 ka_15 ka_73 (by decide) (by decide) (by decide)).trans ((gA_sW_ne (by decide)).trans ((gA_sI).trans ((gA_sI).trans ((gA_sI).trans ((gA_sI).trans (hF1707.2.1 15 (by decide)))))))))))).trans ?_; (first | rfl | exact eA_ix (by omega) | omega))), (by intro i i0 i1; exact (Decidable.em (a1.toInt = 1)).elim (fun k46_ => by refine Eq.trans ?_ (if_pos k46_).symm; refine (eA_ti (((gA_sI).trans ((gA_sA_ne (by decide)).trans ((gA_sW_ne (by decide)).trans ((gA_sW_ne (by decide)).trans ((gA_sI).trans ((gA_sI).trans ((gA_sI).trans (gA_sI)))))))))).trans ?_; refine ((q1730 (i) (by omega) (by omega))).trans ?_; (first | rfl | exact eA_ix (by omega) | omega)) (fun k46_ => by refine Eq.trans ?_ (if_neg k46_).symm; refine (eA_ti (((gA_sI).trans ((gA_sA_ne (by decide)).trans ((gA_sW_ne (by decide)).trans ((gA_sW_ne (by decide)).trans ((gA_sI).trans ((gA_sI).trans ((gA_sI).trans (gA_sI)))))))))).trans ?_; refine ((q1730 (i) (by omega) (by omega))).trans ?_; (first | rfl | exact eA_ix (by omega) | omega))), (by intro i i0 i1; exact (Decidable.em (a1.toInt = 1)).elim (fun k47_ => by refine Eq.trans ?_ (if_pos k47_).symm; refine (eA_ti (((gA_sI).trans ((gA_sA_ne (by decide)).trans ((gA_sW_ne (by decide)).trans ((gA_sW_ne (by decide)).trans ((gA_sI).trans ((gA_sI).trans ((gA_sI).trans (gA_sI)))))))))).trans ?_; refine ((q1731 (i) (by omega) (by omega))).trans ?_; (first | rfl | exact eA_ix (by omega) | omega)) (fun k47_ => by refine Eq.trans ?_ (if_neg k47_).symm; refine (eA_ti (((gA_sI).trans ((gA_sA_ne (by decide)).trans ((gA_sW_ne (by decide)).trans ((gA_sW_ne (by decide)).trans ((gA_sI).trans ((gA_sI).trans ((gA_sI).trans (gA_sI)))))))))).trans ?_; refine ((q1731 (i) (by omega) (by omega))).trans ?_; (first | rfl | exact eA_ix (by omega) | omega))), (by intro i i0 i1; exact (Decidable.em (a1.toInt = 1)).elim (fun k48_ => by refine Eq.trans ?_ (if_pos k48_).symm; refine (eA_ti (((gA_sI).trans ((gA_sA_ne (by decide)).trans ((gA_sW_ne (by decide)).trans ((gA_sW_ne (by decide)).trans ((gA_sI).trans ((gA_sI).trans ((gA_sI).trans (gA_sI)))))))))).trans ?_; refine ((q1732 (i) (by omega) (by omega))).trans ?_; (first | rfl | exact eA_ix (by omega) | omega)) (fun k48_ => by refine Eq.trans ?_ (if_neg k48_).symm; refine (eA_ti (((gA_sI).trans ((gA_sA_ne (by decide)).trans ((gA_sW_ne (by decide)).trans ((gA_sW_ne (by decide)).trans ((gA_sI).trans ((gA_sI).trans ((gA_sI).trans (gA_sI)))))))))).trans ?_; refine ((q1732 (i) (by omega) (by omega))).trans ?_; (first | rfl | exact eA_ix (by omega) | omega))), (by intro i i0 i1; exact (Decidable.em (a1.toInt = 1)).elim (fun k49_ => by refine Eq.trans ?_ (if_pos k49_).symm; refine (eA_ti (((gA_sI).trans ((gA_sA_ne (by decide)).trans ((gA_sW_ne (by decide)).trans ((gA_sW_ne (by decide)).trans ((gA_sI).trans ((gA_sI).trans ((gA_sI).trans (gA_sI)))))))))).trans ?_; refine ((q1733 (i) (by omega) (by omega))).trans ?_; (first | rfl | exact eA_ix (by omega) | omega)) (fun k49_ => by refine Eq.trans ?_ (if_neg k49_).symm; refine (eA_ti (((gA_sI).trans ((gA_sA_ne (by decide)).trans ((gA_sW_ne (by decide)).trans ((gA_sW_ne (by decide)).trans ((gA_sI).trans ((gA_sI).trans ((gA_sI).trans (gA_sI)))))))))).trans ?_; refine ((q1733 (i) (by omega) (by omega))).trans ?_; (first | rfl | exact eA_ix (by omega) | omega))), (by intro i i0 i1; exact (Decidable.em (a1.toInt = 1)).elim (fun k50_ => by refine Eq.trans ?_ (if_pos k50_).symm; refine (eA_ti (((gA_sI).trans ((gA_sA_ne (by decide)).trans ((gA_sW_ne (by decide)).trans ((gA_sW_ne (by decide)).trans ((gA_sI).trans ((gA_sI).trans ((gA_sI).trans (gA_sI)))))))))).trans ?_; refine ((q1734 (i) (by omega) (by omega))).trans ?_; (first | rfl | exact eA_ix (by omega) | omega)) (fun k50_ => by refine Eq.trans ?_ (if_neg k50_).symm; refine (eA_ti (((gA_sI).trans ((gA_sA_ne (by decide)).trans ((gA_sW_ne (by decide)).trans ((gA_sW_ne (by decide)).trans ((gA_sI).trans ((gA_sI).trans ((gA_sI).trans (gA_sI)))))))))).trans ?_; refine ((q1734 (i) (by omega) (by omega))).trans ?_; (first | rfl | exact eA_ix (by omega) | omega)))⟩⟩
        · have c1747_ : x1704.toInt < 6 := en_i_ge_f c1747
          refine At.enter rfl ?_
          refine r_aload_n e1721 ?_
          refine r_iload_n e1723 ?_
          refine r_callV 97 rfl [.ref 59, .int x1704] [] (Nat.le_of_ble_eq_true rfl) rfl (T_X0_lawAt_59 _ hI1706 x1704) ?_
          rintro _ _ ⟨g1775, rfl, hI1776, hF1777, v1778, rfl, hr1779⟩
          refine At.str ?_
          have hF1780 := Fr.tr hF1707 hF1777 rfl rfl
          refine At.enter rfl ?_
          refine r_aload_n e1722 ?_
          refine r_iload_n e1723 ?_
          refine r_callV 102 rfl [.ref 1, .int x1704] [.ref (v1778)] (Nat.le_of_ble_eq_true rfl) rfl (T_X0_lawAt_1 _ hI1776 x1704) ?_
          rintro _ _ ⟨g1781, rfl, hI1782, hF1783, v1784, rfl, hr1785⟩
          refine At.str ?_
          have hF1786 := Fr.tr hF1780 hF1783 rfl rfl
          refine At.enter rfl ?_
          refine r_callV 105 rfl [.ref (v1778), .ref (v1784)] [] (Nat.le_of_ble_eq_true rfl) rfl (T_X4_become_law _ hI1782 (v1778) hr1779 (v1784) hr1785) ?_
          rintro _ _ ⟨g1787, rfl, hI1788, hF1789, rfl⟩
          refine At.stn ?_
          have hF1792 := Fr.tr hF1786 hF1789 rfl rfl
          refine At.enter rfl ?_
          refine q_iinc e1723 (x1704.toInt + 1) rfl (by omega) (fun v1793 hv1793 => ?_)
          refine r_goto ?_
          exact ih1710 (6 - v1793.toInt) _ _ ⟨v1793, by first | rfl | omega, hI1788, hF1792, (((hF1789.1 59 0 (by decide)).trans ((hF1783.1 59 0 (by decide)).trans (hF1777.1 59 0 (by decide)))).trans e1711), (((hF1789.1 59 10 (by decide)).trans ((hF1783.1 59 10 (by decide)).trans (hF1777.1 59 10 (by decide)))).trans e1712), (((hF1789.1 59 11 (by decide)).trans ((hF1783.1 59 11 (by decide)).trans (hF1777.1 59 11 (by decide)))).trans e1713), (((hF1789.1 59 12 (by decide)).trans ((hF1783.1 59 12 (by decide)).trans (hF1777.1 59 12 (by decide)))).trans e1714), (((hF1789.1 116 0 (by decide)).trans ((hF1783.1 116 0 (by decide)).trans (hF1777.1 116 0 (by decide)))).trans e1715), (((hF1789.1 116 10 (by decide)).trans ((hF1783.1 116 10 (by decide)).trans (hF1777.1 116 10 (by decide)))).trans e1716), (((hF1789.1 116 11 (by decide)).trans ((hF1783.1 116 11 (by decide)).trans (hF1777.1 116 11 (by decide)))).trans e1717), (((hF1789.1 116 12 (by decide)).trans ((hF1783.1 116 12 (by decide)).trans (hF1777.1 116 12 (by decide)))).trans e1718), (((eA_c (hF1789.2.1 173 (by decide))).trans ((eA_c (hF1783.2.1 173 (by decide))).trans (eA_c (hF1777.2.1 173 (by decide))))).trans e1719), (((eA_c (hF1789.2.1 173 (by decide))).trans ((eA_c (hF1783.2.1 173 (by decide))).trans (eA_c (hF1777.2.1 173 (by decide))))).trans e1720), (w_p1 (by decide) (Or.inr rfl) e1721), (w_p1 (by decide) (Or.inr rfl) e1722), (w_e1 _ _ _), by omega, (by intro i i0 i1; refine (eA_ti (((hF1789.2.1 60 (by decide)).trans ((hF1783.2.1 60 (by decide)).trans (hF1777.2.1 60 (by decide)))))).trans ?_; refine ((q1725 (i) (by omega) (by omega))).trans ?_; (first | rfl | exact eA_ix (by omega) | omega)), (by intro i i0 i1; refine (eA_ti (((hF1789.2.1 61 (by decide)).trans ((hF1783.2.1 61 (by decide)).trans (hF1777.2.1 61 (by decide)))))).trans ?_; refine ((q1726 (i) (by omega) (by omega))).trans ?_; (first | rfl | exact eA_ix (by omega) | omega)), (by intro i i0 i1; refine (eA_ti (((hF1789.2.1 62 (by decide)).trans ((hF1783.2.1 62 (by decide)).trans (hF1777.2.1 62 (by decide)))))).trans ?_; refine ((q1727 (i) (by omega) (by omega))).trans ?_; (first | rfl | exact eA_ix (by omega) | omega)), (by intro i i0 i1; refine (eA_ti (((hF1789.2.1 72 (by decide)).trans ((hF1783.2.1 72 (by decide)).trans (hF1777.2.1 72 (by decide)))))).trans ?_; refine ((q1728 (i) (by omega) (by omega))).trans ?_; (first | rfl | exact eA_ix (by omega) | omega)), (by intro i i0 i1; refine (eA_ti (((hF1789.2.1 73 (by decide)).trans ((hF1783.2.1 73 (by decide)).trans (hF1777.2.1 73 (by decide)))))).trans ?_; refine ((q1729 (i) (by omega) (by omega))).trans ?_; (first | rfl | exact eA_ix (by omega) | omega)), (by intro i i0 i1; refine (eA_ti (((hF1789.2.1 117 (by decide)).trans ((hF1783.2.1 117 (by decide)).trans (hF1777.2.1 117 (by decide)))))).trans ?_; refine ((q1730 (i) (by omega) (by omega))).trans ?_; (first | rfl | exact eA_ix (by omega) | omega)), (by intro i i0 i1; refine (eA_ti (((hF1789.2.1 118 (by decide)).trans ((hF1783.2.1 118 (by decide)).trans (hF1777.2.1 118 (by decide)))))).trans ?_; refine ((q1731 (i) (by omega) (by omega))).trans ?_; (first | rfl | exact eA_ix (by omega) | omega)), (by intro i i0 i1; refine (eA_ti (((hF1789.2.1 119 (by decide)).trans ((hF1783.2.1 119 (by decide)).trans (hF1777.2.1 119 (by decide)))))).trans ?_; refine ((q1732 (i) (by omega) (by omega))).trans ?_; (first | rfl | exact eA_ix (by omega) | omega)), (by intro i i0 i1; refine (eA_ti (((hF1789.2.1 129 (by decide)).trans ((hF1783.2.1 129 (by decide)).trans (hF1777.2.1 129 (by decide)))))).trans ?_; refine ((q1733 (i) (by omega) (by omega))).trans ?_; (first | rfl | exact eA_ix (by omega) | omega)), (by intro i i0 i1; refine (eA_ti (((hF1789.2.1 130 (by decide)).trans ((hF1783.2.1 130 (by decide)).trans (hF1777.2.1 130 (by decide)))))).trans ?_; refine ((q1734 (i) (by omega) (by omega))).trans ?_; (first | rfl | exact eA_ix (by omega) | omega))⟩ ⟨by omega, by omega⟩
      have c1459_1 : a1.toInt = 1 := by omega
      refine q_aald (Sh.rar hI0.1 ka_58) (by decide) 1 (by omega) (by decide) (some 116) rfl ?_
      refine r_goto ?_
      refine At.enter rfl ?_
      refine q_aret ?_
      refine At.enter rfl ?_
      refine r_astore_n ([(2, .ref 116), (0, .ref 0), (1, .int a1)]) rfl ?_
      refine r_aload_n rfl ?_
      refine r_nnr ?_
      refine At.enter rfl ?_
      refine r_aload_n rfl ?_
      refine r_aload_n rfl ?_
      refine q_getR (Sh.ref hI0.1 kx_0 rfl) ?_
      refine q_inlV 24 rfl [.ref 116, .ref 1] [] (Nat.le_of_ble_eq_true rfl) rfl ?_
      refine Ev.mk rfl rfl ⟨Nat.le_of_ble_eq_true rfl, Or.inr (q_rc hI0.1 kx_116 rfl)⟩ ?_
      show At _ none _ _ (0, [(0, .ref 116), (1, .ref 1)], [], (_, _)) _
      refine At.enter rfl ?_
      refine r_aload_n rfl ?_
      refine r_aload_n rfl ?_
      obtain ⟨v1794, hv1794⟩ : ∃ v, gI g0 1 0 = v := ⟨_, rfl⟩
      have rv1794 := RgF.at hI0.2.1 (p := 1) (b := 0) rfl
      rw [hv1794] at rv1794
      dsimp only at rv1794
      refine q_getI (Sh.int hI0.1 kx_1 rfl) v1794 hv1794 ?_
      refine q_putI (Sh.int hI0.1 kx_116 rfl) rfl ?_
      have hI1795 := HI.wI1 hI0 kx_116 rfl (p := 116) (b := 0) (v := v1794) rfl (by dsimp only; omega)
      have hF1796 := Fr.wI (p := 116) (b := 0) (v := v1794) hF0 rfl
      refine r_aload_n rfl ?_
      refine q_getR (Sh.ref hI1795.1 kx_1 rfl) ?_
      refine r_iconst 0 rfl ?_
      refine r_aload_n rfl ?_
      refine q_getR (Sh.ref hI1795.1 kx_116 rfl) ?_
      refine r_iconst 0 rfl ?_
      refine r_bipush 12 rfl ?_
      have zv1797 : (0 : Int32).toInt = 0 := rfl
      have zv1798 : (0 : Int32).toInt = 0 := rfl
      have zv1799 : (12 : Int32).toInt = 12 := rfl
      refine q_cpy rfl (Nat.le_of_ble_eq_true rfl) (Sh.arr hI1795.1 ka_2) (Sh.arr hI1795.1 ka_117) ⟨by omega, by omega, by omega, by omega, by omega⟩ ?_
      have hI1800 := HI.cpy0 hI1795 ka_2 ka_117 rfl rfl ((0 : Int32).toInt.toNat) ((0 : Int32).toInt.toNat) ((12 : Int32).toInt.toNat) (by omega) (by omega)
      have hF1801 := Fr.cpy (p0 := 2) (p1 := 117) hF1796 rfl ((0 : Int32).toInt.toNat) ((0 : Int32).toInt.toNat) ((12 : Int32).toInt.toNat)
      refine r_aload_n rfl ?_
      refine q_getR (Sh.ref hI1800.1 kx_1 rfl) ?_
      refine r_iconst 0 rfl ?_
      refine r_aload_n rfl ?_
      refine q_getR (Sh.ref hI1800.1 kx_116 rfl) ?_
      refine r_iconst 0 rfl ?_
      refine r_bipush 12 rfl ?_
      have zv1802 : (0 : Int32).toInt = 0 := rfl
      have zv1803 : (0 : Int32).toInt = 0 := rfl
      have zv1804 : (12 : Int32).toInt = 12 := rfl
      refine q_cpy rfl (Nat.le_of_ble_eq_true rfl) (Sh.arr hI1800.1 ka_3) (Sh.arr hI1800.1 ka_118) ⟨by omega, by omega, by omega, by omega, by omega⟩ ?_
      have hI1805 := HI.cpy0 hI1800 ka_3 ka_118 rfl rfl ((0 : Int32).toInt.toNat) ((0 : Int32).toInt.toNat) ((12 : Int32).toInt.toNat) (by omega) (by omega)
      have hF1806 := Fr.cpy (p0 := 3) (p1 := 118) hF1801 rfl ((0 : Int32).toInt.toNat) ((0 : Int32).toInt.toNat) ((12 : Int32).toInt.toNat)
      refine r_aload_n rfl ?_
      refine q_getR (Sh.ref hI1805.1 kx_1 rfl) ?_
      refine r_iconst 0 rfl ?_
      refine r_aload_n rfl ?_
      refine q_getR (Sh.ref hI1805.1 kx_116 rfl) ?_
      refine r_iconst 0 rfl ?_
      refine r_bipush 12 rfl ?_
      have zv1807 : (0 : Int32).toInt = 0 := rfl
      have zv1808 : (0 : Int32).toInt = 0 := rfl
      have zv1809 : (12 : Int32).toInt = 12 := rfl
      refine q_cpy rfl (Nat.le_of_ble_eq_true rfl) (Sh.arr hI1805.1 ka_4) (Sh.arr hI1805.1 ka_119) ⟨by omega, by omega, by omega, by omega, by omega⟩ ?_
      have hI1810 := HI.cpy0 hI1805 ka_4 ka_119 rfl rfl ((0 : Int32).toInt.toNat) ((0 : Int32).toInt.toNat) ((12 : Int32).toInt.toNat) (by omega) (by omega)
      have hF1811 := Fr.cpy (p0 := 4) (p1 := 119) hF1806 rfl ((0 : Int32).toInt.toNat) ((0 : Int32).toInt.toNat) ((12 : Int32).toInt.toNat)
      refine r_aload_n rfl ?_
      refine r_aload_n rfl ?_
      obtain ⟨v1812, hv1812⟩ : ∃ v, gI g0 1 4 = v := ⟨_, rfl⟩
      have rv1812 := RgF.at hI0.2.1 (p := 1) (b := 4) rfl
      rw [hv1812] at rv1812
      dsimp only at rv1812
      refine q_getI (Sh.int hI1810.1 kx_1 rfl) v1812 (((gI_sW).trans ((gI_sW).trans ((gI_sW).trans (gI_sI_ne (by decide))))).trans hv1812) ?_
      refine q_putI (Sh.int hI1810.1 kx_116 rfl) rfl ?_
      have hI1813 := HI.wI1 hI1810 kx_116 rfl (p := 116) (b := 4) (v := v1812) rfl (by dsimp only; omega)
      have hF1814 := Fr.wI (p := 116) (b := 4) (v := v1812) hF1811 rfl
      refine r_aload_n rfl ?_
      refine q_getR (Sh.ref hI1813.1 kx_1 rfl) ?_
      refine r_iconst 0 rfl ?_
      refine r_aload_n rfl ?_
      refine q_getR (Sh.ref hI1813.1 kx_116 rfl) ?_
      refine r_iconst 0 rfl ?_
      refine r_bipush 48 rfl ?_
      have zv1815 : (0 : Int32).toInt = 0 := rfl
      have zv1816 : (0 : Int32).toInt = 0 := rfl
      have zv1817 : (48 : Int32).toInt = 48 := rfl
      refine q_cpy rfl (Nat.le_of_ble_eq_true rfl) (Sh.arr hI1813.1 ka_5) (Sh.arr hI1813.1 ka_120) ⟨by omega, by omega, by omega, by omega, by omega⟩ ?_
      have hI1818 := HI.cpy0 hI1813 ka_5 ka_120 rfl rfl ((0 : Int32).toInt.toNat) ((0 : Int32).toInt.toNat) ((48 : Int32).toInt.toNat) (by omega) (by omega)
      have hF1819 := Fr.cpy (p0 := 5) (p1 := 120) hF1814 rfl ((0 : Int32).toInt.toNat) ((0 : Int32).toInt.toNat) ((48 : Int32).toInt.toNat)
      refine r_aload_n rfl ?_
      refine r_aload_n rfl ?_
      obtain ⟨v1820, hv1820⟩ : ∃ v, gI g0 1 6 = v := ⟨_, rfl⟩
      have rv1820 := RgF.at hI0.2.1 (p := 1) (b := 6) rfl
      rw [hv1820] at rv1820
      dsimp only at rv1820
      refine q_getI (Sh.int hI1818.1 kx_1 rfl) v1820 (((gI_sW).trans ((gI_sI_ne (by decide)).trans ((gI_sW).trans ((gI_sW).trans ((gI_sW).trans (gI_sI_ne (by decide))))))).trans hv1820) ?_
      refine q_putI (Sh.int hI1818.1 kx_116 rfl) rfl ?_
      have hI1821 := HI.wI1 hI1818 kx_116 rfl (p := 116) (b := 6) (v := v1820) rfl (by dsimp only; omega)
      have hF1822 := Fr.wI (p := 116) (b := 6) (v := v1820) hF1819 rfl
      refine r_iconst 0 rfl ?_
      refine r_istore_n ([(2, .int 0), (0, .ref 116), (1, .ref 1)]) rfl ?_
      refine Ar.fall 86 rfl ?_
      obtain ⟨v1823, hv1823⟩ : ∃ v, gI g0 59 0 = v := ⟨_, rfl⟩
      have rv1823 := RgF.at hI0.2.1 (p := 59) (b := 0) rfl
      rw [hv1823] at rv1823
      dsimp only at rv1823
      have tv1823 := congrArg Int32.toInt hv1823
      obtain ⟨v1824, hv1824⟩ : ∃ v, gI g0 59 10 = v := ⟨_, rfl⟩
      have tv1824 := congrArg Int32.toInt hv1824
      obtain ⟨v1825, hv1825⟩ : ∃ v, gI g0 59 11 = v := ⟨_, rfl⟩
      have tv1825 := congrArg Int32.toInt hv1825
      obtain ⟨v1826, hv1826⟩ : ∃ v, gI g0 59 12 = v := ⟨_, rfl⟩
      have rv1826 := RgF.at hI0.2.1 (p := 59) (b := 12) rfl
      rw [hv1826] at rv1826
      dsimp only at rv1826
      have tv1826 := congrArg Int32.toInt hv1826
      obtain ⟨v1827, hv1827⟩ : ∃ v, gI g0 116 10 = v := ⟨_, rfl⟩
      have tv1827 := congrArg Int32.toInt hv1827
      obtain ⟨v1828, hv1828⟩ : ∃ v, gI g0 116 11 = v := ⟨_, rfl⟩
      have tv1828 := congrArg Int32.toInt hv1828
      obtain ⟨v1829, hv1829⟩ : ∃ v, gI g0 116 12 = v := ⟨_, rfl⟩
      have rv1829 := RgF.at hI0.2.1 (p := 116) (b := 12) rfl
      rw [hv1829] at rv1829
      dsimp only at rv1829
      have tv1829 := congrArg Int32.toInt hv1829
      obtain ⟨v1830, hv1830⟩ : ∃ v, eA g0 173 0 = v := ⟨_, rfl⟩
      have tv1830 := congrArg Int32.toInt hv1830
      obtain ⟨v1831, hv1831⟩ : ∃ v, eA g0 173 1 = v := ⟨_, rfl⟩
      have tv1831 := congrArg Int32.toInt hv1831
      have z_2069 : (0 : Int32).toInt = 0 := rfl
      refine w_loopI (fun n_ l_ g_ => ∃ x2038 : Int32, n_ = 6 - x2038.toInt ∧ HI g_ ∧ Fr F_X10_image_0 A_X10_image_0 g0 g_ ∧ gI g_ 59 0 = v1823 ∧ gI g_ 59 10 = v1824 ∧ gI g_ 59 11 = v1825 ∧ gI g_ 59 12 = v1826 ∧ gI g_ 116 0 = v1794 ∧ gI g_ 116 10 = v1827 ∧ gI g_ 116 11 = v1828 ∧ gI g_ 116 12 = v1829 ∧ eA g_ 173 0 = v1830 ∧ eA g_ 173 1 = v1831 ∧ en_get 0 l_ = some (.ref 116) ∧ en_get 1 l_ = some (.ref 1) ∧ en_get 2 l_ = some (.int x2038) ∧ (0 ≤ x2038.toInt ∧ x2038.toInt ≤ 6) ∧ (∀ i : Int, 0 ≤ i → i < 12 → (eA g_ 60 (i)).toInt = (eA g0 60 (i)).toInt) ∧ (∀ i : Int, 0 ≤ i → i < 12 → (eA g_ 61 (i)).toInt = (eA g0 61 (i)).toInt) ∧ (∀ i : Int, 0 ≤ i → i < 12 → (eA g_ 62 (i)).toInt = (eA g0 62 (i)).toInt) ∧ (∀ i : Int, 0 ≤ i → i < 8 → (eA g_ 72 (i)).toInt = (eA g0 72 (i)).toInt) ∧ (∀ i : Int, 0 ≤ i → i < 8 → (eA g_ 73 (i)).toInt = (eA g0 73 (i)).toInt) ∧ (∀ i : Int, 0 ≤ i → i < 12 → (eA g_ 117 (i)).toInt = (eA g0 2 (i)).toInt) ∧ (∀ i : Int, 0 ≤ i → i < 12 → (eA g_ 118 (i)).toInt = (eA g0 3 (i)).toInt) ∧ (∀ i : Int, 0 ≤ i → i < 12 → (eA g_ 119 (i)).toInt = (eA g0 4 (i)).toInt) ∧ (∀ i : Int, 0 ≤ i → i < 8 → (eA g_ 129 (i)).toInt = (eA g0 129 (i)).toInt) ∧ (∀ i : Int, 0 ≤ i → i < 8 → (eA g_ 130 (i)).toInt = (eA g0 130 (i)).toInt)) ?_ (6 - 0) ⟨0, by first | rfl | omega, hI1821, hF1822, (((gI_sI_ne (by decide)).trans ((gI_sW).trans ((gI_sI_ne (by decide)).trans ((gI_sW).trans ((gI_sW).trans ((gI_sW).trans (gI_sI_ne (by decide)))))))).trans hv1823), (((gI_sI_ne (by decide)).trans ((gI_sW).trans ((gI_sI_ne (by decide)).trans ((gI_sW).trans ((gI_sW).trans ((gI_sW).trans (gI_sI_ne (by decide)))))))).trans hv1824), (((gI_sI_ne (by decide)).trans ((gI_sW).trans ((gI_sI_ne (by decide)).trans ((gI_sW).trans ((gI_sW).trans ((gI_sW).trans (gI_sI_ne (by decide)))))))).trans hv1825), (((gI_sI_ne (by decide)).trans ((gI_sW).trans ((gI_sI_ne (by decide)).trans ((gI_sW).trans ((gI_sW).trans ((gI_sW).trans (gI_sI_ne (by decide)))))))).trans hv1826), ((gI_sI_ne (by decide)).trans ((gI_sW).trans ((gI_sI_ne (by decide)).trans ((gI_sW).trans ((gI_sW).trans ((gI_sW).trans (gI_sI_eq hI0.1 kx_116 rfl _))))))), (((gI_sI_ne (by decide)).trans ((gI_sW).trans ((gI_sI_ne (by decide)).trans ((gI_sW).trans ((gI_sW).trans ((gI_sW).trans (gI_sI_ne (by decide)))))))).trans hv1827), (((gI_sI_ne (by decide)).trans ((gI_sW).trans ((gI_sI_ne (by decide)).trans ((gI_sW).trans ((gI_sW).trans ((gI_sW).trans (gI_sI_ne (by decide)))))))).trans hv1828), (((gI_sI_ne (by decide)).trans ((gI_sW).trans ((gI_sI_ne (by decide)).trans ((gI_sW).trans ((gI_sW).trans ((gI_sW).trans (gI_sI_ne (by decide)))))))).trans hv1829), (((eA_c gA_sI).trans ((eA_c (gA_sW_ne (by decide))).trans ((eA_c gA_sI).trans ((eA_c (gA_sW_ne (by decide))).trans ((eA_c (gA_sW_ne (by decide))).trans ((eA_c (gA_sW_ne (by decide))).trans (eA_c gA_sI))))))).trans hv1830), (((eA_c gA_sI).trans ((eA_c (gA_sW_ne (by decide))).trans ((eA_c gA_sI).trans ((eA_c (gA_sW_ne (by decide))).trans ((eA_c (gA_sW_ne (by decide))).trans ((eA_c (gA_sW_ne (by decide))).trans (eA_c gA_sI))))))).trans hv1831), rfl, rfl, rfl, by decide, (by intro i i0 i1; refine (eA_ti (((gA_sI).trans ((gA_sW_ne (by decide)).trans ((gA_sI).trans ((gA_sW_ne (by decide)).trans ((gA_sW_ne (by decide)).trans ((gA_sW_ne (by decide)).trans (gA_sI))))))))).trans ?_; (first | rfl | exact eA_ix (by omega) | omega)), (by intro i i0 i1; refine (eA_ti (((gA_sI).trans ((gA_sW_ne (by decide)).trans ((gA_sI).trans ((gA_sW_ne (by decide)).trans ((gA_sW_ne (by decide)).trans ((gA_sW_ne (by decide)).trans (gA_sI))))))))).trans ?_; (first | rfl | exact eA_ix (by omega) | omega)), (by intro i i0 i1; refine (eA_ti (((gA_sI).trans ((gA_sW_ne (by decide)).trans ((gA_sI).trans ((gA_sW_ne (by decide)).trans ((gA_sW_ne (by decide)).trans ((gA_sW_ne (by decide)).trans (gA_sI))))))))).trans ?_; (first | rfl | exact eA_ix (by omega) | omega)), (by intro i i0 i1; refine (eA_ti (((gA_sI).trans ((gA_sW_ne (by decide)).trans ((gA_sI).trans ((gA_sW_ne (by decide)).trans ((gA_sW_ne (by decide)).trans ((gA_sW_ne (by decide)).trans (gA_sI))))))))).trans ?_; (first | rfl | exact eA_ix (by omega) | omega)), (by intro i i0 i1; refine (eA_ti (((gA_sI).trans ((gA_sW_ne (by decide)).trans ((gA_sI).trans ((gA_sW_ne (by decide)).trans ((gA_sW_ne (by decide)).trans ((gA_sW_ne (by decide)).trans (gA_sI))))))))).trans ?_; (first | rfl | exact eA_ix (by omega) | omega)), (by intro i i0 i1; refine (eA_tq (((gA_sI).trans ((gA_sW_ne (by decide)).trans ((gA_sI).trans ((gA_sW_ne (by decide)).trans ((gA_sW_ne (by decide)).trans ((gA_cpF hI1795.1 ka_2 ka_117 (by decide) (by decide) (by decide)).trans (gA_sI))))))))).trans ?_; (first | rfl | exact eA_ix (by omega) | omega)), (by intro i i0 i1; refine (eA_tq (((gA_sI).trans ((gA_sW_ne (by decide)).trans ((gA_sI).trans ((gA_sW_ne (by decide)).trans ((gA_cpF hI1800.1 ka_3 ka_118 (by decide) (by decide) (by decide)).trans ((gA_sW_ne (by decide)).trans (gA_sI))))))))).trans ?_; (first | rfl | exact eA_ix (by omega) | omega)), (by intro i i0 i1; refine (eA_tq (((gA_sI).trans ((gA_sW_ne (by decide)).trans ((gA_sI).trans ((gA_cpF hI1805.1 ka_4 ka_119 (by decide) (by decide) (by decide)).trans ((gA_sW_ne (by decide)).trans ((gA_sW_ne (by decide)).trans (gA_sI))))))))).trans ?_; (first | rfl | exact eA_ix (by omega) | omega)), (by intro i i0 i1; refine (eA_ti (((gA_sI).trans ((gA_sW_ne (by decide)).trans ((gA_sI).trans ((gA_sW_ne (by decide)).trans ((gA_sW_ne (by decide)).trans ((gA_sW_ne (by decide)).trans (gA_sI))))))))).trans ?_; (first | rfl | exact eA_ix (by omega) | omega)), (by intro i i0 i1; refine (eA_ti (((gA_sI).trans ((gA_sW_ne (by decide)).trans ((gA_sI).trans ((gA_sW_ne (by decide)).trans ((gA_sW_ne (by decide)).trans ((gA_sW_ne (by decide)).trans (gA_sI))))))))).trans ?_; (first | rfl | exact eA_ix (by omega) | omega))⟩
      rintro n2043 l2042 g2039 ⟨x2038, hm2070, hI2040, hF2041, e2045, e2046, e2047, e2048, e2049, e2050, e2051, e2052, e2053, e2054, e2055, e2056, e2057, r2058, q2059, q2060, q2061, q2062, q2063, q2064, q2065, q2066, q2067, q2068⟩ ih2044
      have tv2071 := congrArg Int32.toInt e2053
      have tv2072 := congrArg Int32.toInt e2054
      have tv2073 := congrArg Int32.toInt e2045
      have tv2074 := congrArg Int32.toInt e2046
      have tv2075 := congrArg Int32.toInt e2047
      have tv2076 := congrArg Int32.toInt e2048
      have tv2077 := congrArg Int32.toInt e2049
      have tv2078 := congrArg Int32.toInt e2050
      have tv2079 := congrArg Int32.toInt e2051
      have tv2080 := congrArg Int32.toInt e2052
      refine At.enter rfl ?_
      refine r_iload_n e2057 ?_
      refine r_bipush 6 rfl ?_
      refine r_ics 92 rfl (fun c2081 => ?_) (fun c2081 => ?_)
      · have c2081_ : x2038.toInt ≥ 6 := en_i_ge_t c2081
        refine At.enter rfl ?_
        refine r_aload_n e2055 ?_
        refine r_aload_n e2056 ?_
        obtain ⟨v2082, hv2082⟩ : ∃ v, gI g0 1 9 = v := ⟨_, rfl⟩
        refine q_getI (Sh.int hI2040.1 kx_1 rfl) v2082 ((hF2041.1 1 9 (by decide)).trans hv2082) ?_
        refine q_putI (Sh.int hI2040.1 kx_116 rfl) rfl ?_
        have hI2083 := HI.wI0 hI2040 kx_116 rfl (p := 116) (b := 9) (v := v2082) rfl
        have hF2084 := Fr.wI (p := 116) (b := 9) (v := v2082) hF2041 rfl
        refine r_aload_n e2055 ?_
        refine r_aload_n e2056 ?_
        obtain ⟨v2085, hv2085⟩ : ∃ v, gI g0 1 10 = v := ⟨_, rfl⟩
        refine q_getI (Sh.int hI2083.1 kx_1 rfl) v2085 (((gI_sI_ne (by decide)).trans (hF2041.1 1 10 (by decide))).trans hv2085) ?_
        refine q_putI (Sh.int hI2083.1 kx_116 rfl) rfl ?_
        have hI2086 := HI.wI0 hI2083 kx_116 rfl (p := 116) (b := 10) (v := v2085) rfl
        have hF2087 := Fr.wI (p := 116) (b := 10) (v := v2085) hF2084 rfl
        refine r_aload_n e2055 ?_
        refine r_aload_n e2056 ?_
        obtain ⟨v2088, hv2088⟩ : ∃ v, gI g0 1 11 = v := ⟨_, rfl⟩
        refine q_getI (Sh.int hI2086.1 kx_1 rfl) v2088 (((gI_sI_ne (by decide)).trans ((gI_sI_ne (by decide)).trans (hF2041.1 1 11 (by decide)))).trans hv2088) ?_
        refine q_putI (Sh.int hI2086.1 kx_116 rfl) rfl ?_
        have hI2089 := HI.wI0 hI2086 kx_116 rfl (p := 116) (b := 11) (v := v2088) rfl
        have hF2090 := Fr.wI (p := 116) (b := 11) (v := v2088) hF2087 rfl
        refine r_aload_n e2055 ?_
        refine r_aload_n e2056 ?_
        obtain ⟨v2091, hv2091⟩ : ∃ v, gI g0 1 12 = v := ⟨_, rfl⟩
        have rv2091 := RgF.at hI0.2.1 (p := 1) (b := 12) rfl
        rw [hv2091] at rv2091
        dsimp only at rv2091
        refine q_getI (Sh.int hI2089.1 kx_1 rfl) v2091 (((gI_sI_ne (by decide)).trans ((gI_sI_ne (by decide)).trans ((gI_sI_ne (by decide)).trans (hF2041.1 1 12 (by decide))))).trans hv2091) ?_
        refine q_putI (Sh.int hI2089.1 kx_116 rfl) rfl ?_
        have hI2092 := HI.wI1 hI2089 kx_116 rfl (p := 116) (b := 12) (v := v2091) rfl (by dsimp only; omega)
        have hF2093 := Fr.wI (p := 116) (b := 12) (v := v2091) hF2090 rfl
        refine r_aload_n e2056 ?_
        refine q_getR (Sh.ref hI2092.1 kx_1 rfl) ?_
        refine r_iconst 0 rfl ?_
        refine r_aload_n e2055 ?_
        refine q_getR (Sh.ref hI2092.1 kx_116 rfl) ?_
        refine r_iconst 0 rfl ?_
        refine r_bipush 8 rfl ?_
        have zv2094 : (0 : Int32).toInt = 0 := rfl
        have zv2095 : (0 : Int32).toInt = 0 := rfl
        have zv2096 : (8 : Int32).toInt = 8 := rfl
        refine q_cpy rfl (Nat.le_of_ble_eq_true rfl) (Sh.arr hI2092.1 ka_14) (Sh.arr hI2092.1 ka_129) ⟨by omega, by omega, by omega, by omega, by omega⟩ ?_
        have hI2097 := HI.cpy0 hI2092 ka_14 ka_129 rfl rfl ((0 : Int32).toInt.toNat) ((0 : Int32).toInt.toNat) ((8 : Int32).toInt.toNat) (by omega) (by omega)
        have hF2098 := Fr.cpy (p0 := 14) (p1 := 129) hF2093 rfl ((0 : Int32).toInt.toNat) ((0 : Int32).toInt.toNat) ((8 : Int32).toInt.toNat)
        refine r_aload_n e2056 ?_
        refine q_getR (Sh.ref hI2097.1 kx_1 rfl) ?_
        refine r_iconst 0 rfl ?_
        refine r_aload_n e2055 ?_
        refine q_getR (Sh.ref hI2097.1 kx_116 rfl) ?_
        refine r_iconst 0 rfl ?_
        refine r_bipush 8 rfl ?_
        have zv2099 : (0 : Int32).toInt = 0 := rfl
        have zv2100 : (0 : Int32).toInt = 0 := rfl
        have zv2101 : (8 : Int32).toInt = 8 := rfl
        refine q_cpy rfl (Nat.le_of_ble_eq_true rfl) (Sh.arr hI2097.1 ka_15) (Sh.arr hI2097.1 ka_130) ⟨by omega, by omega, by omega, by omega, by omega⟩ ?_
        have hI2102 := HI.cpy0 hI2097 ka_15 ka_130 rfl rfl ((0 : Int32).toInt.toNat) ((0 : Int32).toInt.toNat) ((8 : Int32).toInt.toNat) (by omega) (by omega)
        have hF2103 := Fr.cpy (p0 := 15) (p1 := 130) hF2098 rfl ((0 : Int32).toInt.toNat) ((0 : Int32).toInt.toNat) ((8 : Int32).toInt.toNat)
        refine q_vret ?_
        refine At.enter rfl ?_
        refine r_aload_n rfl ?_
        refine q_getR (Sh.ref hI2102.1 kx_0 rfl) ?_
        refine r_iload_n rfl ?_
        refine r_iconst 1 rfl ?_
        refine q_bast (Sh.arr hI2102.1 ka_173) (a1.toInt) rfl (by omega) rfl ?_
        have hI2104 := HI.wA0 hI2102 ka_173 (p := 173) rfl rfl (a1.toInt) (1)
        have hF2105 := Fr.wA (p := 173) (j := a1.toInt) (v := 1) hF2103 rfl
        refine r_aload_n rfl ?_
        refine r_iconst 0 rfl ?_
        refine q_inlV 36 rfl [.ref 0, .int 0] [] (Nat.le_of_ble_eq_true rfl) rfl ?_
        refine Ev.mk rfl rfl ⟨Nat.le_of_ble_eq_true rfl, Or.inr (q_rc hI2104.1 kx_0 rfl)⟩ ?_
        show At _ none _ _ (0, [(0, .ref 0), (1, .int 0)], [], (_, _)) _
        refine At.enter rfl ?_
        refine r_aload_n rfl ?_
        refine r_iconst 0 rfl ?_
        refine q_putI (Sh.int hI2104.1 kx_0 rfl) rfl ?_
        have hI2106 := HI.wI0 hI2104 kx_0 rfl (p := 0) (b := 17) (v := 0) rfl
        have hF2107 := Fr.wI (p := 0) (b := 17) (v := 0) hF2105 rfl
        refine r_iload_n rfl ?_
        refine q_ireti ?_
        refine At.enter rfl ?_
        refine r_ireti ?_
        have zv2108 : (0 : Int32).toInt = 0 := rfl
        have e : a1.toInt = 1 := by omega
        exact ⟨_, rfl, hI2106, hF2107, _, rfl, by decide, ⟨⟨(fun h => absurd (e.symm.trans h) (by decide)), (fun _ => ⟨(HI.eqA hI2106 (p := 173) (j := 0) ((((eA_c gA_sI).trans ((eA_sA_ne hI2102.1 ka_173 (by first | decide | omega) (by first | decide | omega) (by first | decide | omega)).trans ((eA_c (gA_sW_ne (by decide))).trans ((eA_c (gA_sW_ne (by decide))).trans ((eA_c gA_sI).trans ((eA_c gA_sI).trans ((eA_c gA_sI).trans (eA_c gA_sI)))))))).trans e2053))).trans (HI.eqA hI0 (p := 173) (j := 0) (hv1830)).symm, (HI.eqI hI2106 (p := 59) (b := 0) ((((gI_sI_ne (by decide)).trans ((gI_sW).trans ((gI_sW).trans ((gI_sW).trans ((gI_sI_ne (by decide)).trans ((gI_sI_ne (by decide)).trans ((gI_sI_ne (by decide)).trans (gI_sI_ne (by decide))))))))).trans e2045))).trans (HI.eqI hI0 (p := 59) (b := 0) (hv1823)).symm, (HI.eqI hI2106 (p := 59) (b := 12) ((((gI_sI_ne (by decide)).trans ((gI_sW).trans ((gI_sW).trans ((gI_sW).trans ((gI_sI_ne (by decide)).trans ((gI_sI_ne (by decide)).trans ((gI_sI_ne (by decide)).trans (gI_sI_ne (by decide))))))))).trans e2048))).trans (HI.eqI hI0 (p := 59) (b := 12) (hv1826)).symm, (HI.eqI hI2106 (p := 59) (b := 10) ((((gI_sI_ne (by decide)).trans ((gI_sW).trans ((gI_sW).trans ((gI_sW).trans ((gI_sI_ne (by decide)).trans ((gI_sI_ne (by decide)).trans ((gI_sI_ne (by decide)).trans (gI_sI_ne (by decide))))))))).trans e2046))).trans (HI.eqI hI0 (p := 59) (b := 10) (hv1824)).symm, (HI.eqI hI2106 (p := 59) (b := 11) ((((gI_sI_ne (by decide)).trans ((gI_sW).trans ((gI_sW).trans ((gI_sW).trans ((gI_sI_ne (by decide)).trans ((gI_sI_ne (by decide)).trans ((gI_sI_ne (by decide)).trans (gI_sI_ne (by decide))))))))).trans e2047))).trans (HI.eqI hI0 (p := 59) (b := 11) (hv1825)).symm⟩), (fun _ => ⟨(HI.eqA hI2106 (p := 173) (j := 1) (((eA_c gA_sI).trans (eA_sA_eq hI2102.1 ka_173 (by omega) (by first | decide | omega) (by first | decide | omega))))).trans rfl, (by first | rfl | decide), (HI.eqI hI2106 (p := 116) (b := 0) ((((gI_sI_ne (by decide)).trans ((gI_sW).trans ((gI_sW).trans ((gI_sW).trans ((gI_sI_ne (by decide)).trans ((gI_sI_ne (by decide)).trans ((gI_sI_ne (by decide)).trans (gI_sI_ne (by decide))))))))).trans e2049))).trans (HI.eqI hI0 (p := 1) (b := 0) (hv1794)).symm, (HI.eqI hI2106 (p := 116) (b := 12) (((gI_sI_ne (by decide)).trans ((gI_sW).trans ((gI_sW).trans ((gI_sW).trans (gI_sI_eq hI2089.1 kx_116 rfl _))))))).trans (HI.eqI hI0 (p := 1) (b := 12) (hv2091)).symm, (HI.eqI hI2106 (p := 116) (b := 10) (((gI_sI_ne (by decide)).trans ((gI_sW).trans ((gI_sW).trans ((gI_sW).trans ((gI_sI_ne (by decide)).trans ((gI_sI_ne (by decide)).trans (gI_sI_eq hI2083.1 kx_116 rfl _))))))))).trans (HI.eqI hI0 (p := 1) (b := 10) (hv2085)).symm, (HI.eqI hI2106 (p := 116) (b := 11) (((gI_sI_ne (by decide)).trans ((gI_sW).trans ((gI_sW).trans ((gI_sW).trans ((gI_sI_ne (by decide)).trans (gI_sI_eq hI2086.1 kx_116 rfl _)))))))).trans (HI.eqI hI0 (p := 1) (b := 11) (hv2088)).symm⟩), (fun h => absurd e h), (fun h => False.elim (by omega))⟩, (by intro i i0 i1; exact (Decidable.em (a1.toInt = 0)).elim (fun k51_ => by refine Eq.trans ?_ (if_pos k51_).symm; refine (eA_ti (((gA_sI).trans ((gA_sA_ne (by decide)).trans ((gA_sW_ne (by decide)).trans ((gA_sW_ne (by decide)).trans ((gA_sI).trans ((gA_sI).trans ((gA_sI).trans (gA_sI)))))))))).trans ?_; refine ((q2059 (i) (by omega) (by omega))).trans ?_; (first | rfl | exact eA_ix (by omega) | omega)) (fun k51_ => by refine Eq.trans ?_ (if_neg k51_).symm; refine (eA_ti (((gA_sI).trans ((gA_sA_ne (by decide)).trans ((gA_sW_ne (by decide)).trans ((gA_sW_ne (by decide)).trans ((gA_sI).trans ((gA_sI).trans ((gA_sI).trans (gA_sI)))))))))).trans ?_; refine ((q2059 (i) (by omega) (by omega))).trans ?_; (first | rfl | exact eA_ix (by omega) | omega))), (by intro i i0 i1; exact (Decidable.em (a1.toInt = 0)).elim (fun k52_ => by refine Eq.trans ?_ (if_pos k52_).symm; refine (eA_ti (((gA_sI).trans ((gA_sA_ne (by decide)).trans ((gA_sW_ne (by decide)).trans ((gA_sW_ne (by decide)).trans ((gA_sI).trans ((gA_sI).trans ((gA_sI).trans (gA_sI)))))))))).trans ?_; refine ((q2060 (i) (by omega) (by omega))).trans ?_; (first | rfl | exact eA_ix (by omega) | omega)) (fun k52_ => by refine Eq.trans ?_ (if_neg k52_).symm; refine (eA_ti (((gA_sI).trans ((gA_sA_ne (by decide)).trans ((gA_sW_ne (by decide)).trans ((gA_sW_ne (by decide)).trans ((gA_sI).trans ((gA_sI).trans ((gA_sI).trans (gA_sI)))))))))).trans ?_; refine ((q2060 (i) (by omega) (by omega))).trans ?_; (first | rfl | exact eA_ix (by omega) | omega))), (by intro i i0 i1; exact (Decidable.em (a1.toInt = 0)).elim (fun k53_ => by refine Eq.trans ?_ (if_pos k53_).symm; refine (eA_ti (((gA_sI).trans ((gA_sA_ne (by decide)).trans ((gA_sW_ne (by decide)).trans ((gA_sW_ne (by decide)).trans ((gA_sI).trans ((gA_sI).trans ((gA_sI).trans (gA_sI)))))))))).trans ?_; refine ((q2061 (i) (by omega) (by omega))).trans ?_; (first | rfl | exact eA_ix (by omega) | omega)) (fun k53_ => by refine Eq.trans ?_ (if_neg k53_).symm; refine (eA_ti (((gA_sI).trans ((gA_sA_ne (by decide)).trans ((gA_sW_ne (by decide)).trans ((gA_sW_ne (by decide)).trans ((gA_sI).trans ((gA_sI).trans ((gA_sI).trans (gA_sI)))))))))).trans ?_; refine ((q2061 (i) (by omega) (by omega))).trans ?_; (first | rfl | exact eA_ix (by omega) | omega))), (by intro i i0 i1; exact (Decidable.em (a1.toInt = 0)).elim (fun k54_ => by refine Eq.trans ?_ (if_pos k54_).symm; refine (eA_ti (((gA_sI).trans ((gA_sA_ne (by decide)).trans ((gA_sW_ne (by decide)).trans ((gA_sW_ne (by decide)).trans ((gA_sI).trans ((gA_sI).trans ((gA_sI).trans (gA_sI)))))))))).trans ?_; refine ((q2062 (i) (by omega) (by omega))).trans ?_; (first | rfl | exact eA_ix (by omega) | omega)) (fun k54_ => by refine Eq.trans ?_ (if_neg k54_).symm; refine (eA_ti (((gA_sI).trans ((gA_sA_ne (by decide)).trans ((gA_sW_ne (by decide)).trans ((gA_sW_ne (by decide)).trans ((gA_sI).trans ((gA_sI).trans ((gA_sI).trans (gA_sI)))))))))).trans ?_; refine ((q2062 (i) (by omega) (by omega))).trans ?_; (first | rfl | exact eA_ix (by omega) | omega))), (by intro i i0 i1; exact (Decidable.em (a1.toInt = 0)).elim (fun k55_ => by refine Eq.trans ?_ (if_pos k55_).symm; refine (eA_ti (((gA_sI).trans ((gA_sA_ne (by decide)).trans ((gA_sW_ne (by decide)).trans ((gA_sW_ne (by decide)).trans ((gA_sI).trans ((gA_sI).trans ((gA_sI).trans (gA_sI)))))))))).trans ?_; refine ((q2063 (i) (by omega) (by omega))).trans ?_; (first | rfl | exact eA_ix (by omega) | omega)) (fun k55_ => by refine Eq.trans ?_ (if_neg k55_).symm; refine (eA_ti (((gA_sI).trans ((gA_sA_ne (by decide)).trans ((gA_sW_ne (by decide)).trans ((gA_sW_ne (by decide)).trans ((gA_sI).trans ((gA_sI).trans ((gA_sI).trans (gA_sI)))))))))).trans ?_; refine ((q2063 (i) (by omega) (by omega))).trans ?_; (first | rfl | exact eA_ix (by omega) | omega))), (by intro i i0 i1; exact (Decidable.em (a1.toInt = 1)).elim (fun k56_ => by refine Eq.trans ?_ (if_pos k56_).symm; refine (eA_ti (((gA_sI).trans ((gA_sA_ne (by decide)).trans ((gA_sW_ne (by decide)).trans ((gA_sW_ne (by decide)).trans ((gA_sI).trans ((gA_sI).trans ((gA_sI).trans (gA_sI)))))))))).trans ?_; refine ((q2064 (i) (by omega) (by omega))).trans ?_; (first | rfl | exact eA_ix (by omega) | omega)) (fun k56_ => by refine Eq.trans ?_ (if_neg k56_).symm; refine (eA_ti (((gA_sI).trans ((gA_sA_ne (by decide)).trans ((gA_sW_ne (by decide)).trans ((gA_sW_ne (by decide)).trans ((gA_sI).trans ((gA_sI).trans ((gA_sI).trans (gA_sI)))))))))).trans ?_; refine ((q2064 (i) (by omega) (by omega))).trans ?_; (first | rfl | exact eA_ix (by omega) | omega))), (by intro i i0 i1; exact (Decidable.em (a1.toInt = 1)).elim (fun k57_ => by refine Eq.trans ?_ (if_pos k57_).symm; refine (eA_ti (((gA_sI).trans ((gA_sA_ne (by decide)).trans ((gA_sW_ne (by decide)).trans ((gA_sW_ne (by decide)).trans ((gA_sI).trans ((gA_sI).trans ((gA_sI).trans (gA_sI)))))))))).trans ?_; refine ((q2065 (i) (by omega) (by omega))).trans ?_; (first | rfl | exact eA_ix (by omega) | omega)) (fun k57_ => by refine Eq.trans ?_ (if_neg k57_).symm; refine (eA_ti (((gA_sI).trans ((gA_sA_ne (by decide)).trans ((gA_sW_ne (by decide)).trans ((gA_sW_ne (by decide)).trans ((gA_sI).trans ((gA_sI).trans ((gA_sI).trans (gA_sI)))))))))).trans ?_; refine ((q2065 (i) (by omega) (by omega))).trans ?_; (first | rfl | exact eA_ix (by omega) | omega))), (by intro i i0 i1; exact (Decidable.em (a1.toInt = 1)).elim (fun k58_ => by refine Eq.trans ?_ (if_pos k58_).symm; refine (eA_ti (((gA_sI).trans ((gA_sA_ne (by decide)).trans ((gA_sW_ne (by decide)).trans ((gA_sW_ne (by decide)).trans ((gA_sI).trans ((gA_sI).trans ((gA_sI).trans (gA_sI)))))))))).trans ?_; refine ((q2066 (i) (by omega) (by omega))).trans ?_; (first | rfl | exact eA_ix (by omega) | omega)) (fun k58_ => by refine Eq.trans ?_ (if_neg k58_).symm; refine (eA_ti (((gA_sI).trans ((gA_sA_ne (by decide)).trans ((gA_sW_ne (by decide)).trans ((gA_sW_ne (by decide)).trans ((gA_sI).trans ((gA_sI).trans ((gA_sI).trans (gA_sI)))))))))).trans ?_; refine ((q2066 (i) (by omega) (by omega))).trans ?_; (first | rfl | exact eA_ix (by omega) | omega))), (by intro i i0 i1; exact (Decidable.em (a1.toInt = 1)).elim (fun k59_ => by refine Eq.trans ?_ (if_pos k59_).symm; refine (eA_tq (((gA_sI).trans ((gA_sA_ne (by decide)).trans ((gA_sW_ne (by decide)).trans ((gA_cpF hI2092.1 ka_14 ka_129 (by decide) (by decide) (by decide)).trans ((gA_sI).trans ((gA_sI).trans ((gA_sI).trans ((gA_sI).trans (hF2041.2.1 14 (by decide)))))))))))).trans ?_; (first | rfl | exact eA_ix (by omega) | omega)) (fun k59_ => by refine Eq.trans ?_ (if_neg k59_).symm; refine (eA_tq (((gA_sI).trans ((gA_sA_ne (by decide)).trans ((gA_sW_ne (by decide)).trans ((gA_cpF hI2092.1 ka_14 ka_129 (by decide) (by decide) (by decide)).trans ((gA_sI).trans ((gA_sI).trans ((gA_sI).trans ((gA_sI).trans (hF2041.2.1 14 (by decide)))))))))))).trans ?_; (first | rfl | exact eA_ix (by omega) | omega))), (by intro i i0 i1; exact (Decidable.em (a1.toInt = 1)).elim (fun k60_ => by refine Eq.trans ?_ (if_pos k60_).symm; refine (eA_tq (((gA_sI).trans ((gA_sA_ne (by decide)).trans ((gA_cpF hI2097.1 ka_15 ka_130 (by decide) (by decide) (by decide)).trans ((gA_sW_ne (by decide)).trans ((gA_sI).trans ((gA_sI).trans ((gA_sI).trans ((gA_sI).trans (hF2041.2.1 15 (by decide)))))))))))).trans ?_; (first | rfl | exact eA_ix (by omega) | omega)) (fun k60_ => by refine Eq.trans ?_ (if_neg k60_).symm; refine (eA_tq (((gA_sI).trans ((gA_sA_ne (by decide)).trans ((gA_cpF hI2097.1 ka_15 ka_130 (by decide) (by decide) (by decide)).trans ((gA_sW_ne (by decide)).trans ((gA_sI).trans ((gA_sI).trans ((gA_sI).trans ((gA_sI).trans (hF2041.2.1 15 (by decide)))))))))))).trans ?_; (first | rfl | exact eA_ix (by omega) | omega)))⟩⟩
      · have c2081_ : x2038.toInt < 6 := en_i_ge_f c2081
        refine At.enter rfl ?_
        refine r_aload_n e2055 ?_
        refine r_iload_n e2057 ?_
        refine r_callV 97 rfl [.ref 116, .int x2038] [] (Nat.le_of_ble_eq_true rfl) rfl (T_X0_lawAt_116 _ hI2040 x2038) ?_
        rintro _ _ ⟨g2109, rfl, hI2110, hF2111, v2112, rfl, hr2113⟩
        refine At.str ?_
        have hF2114 := Fr.tr hF2041 hF2111 rfl rfl
        refine At.enter rfl ?_
        refine r_aload_n e2056 ?_
        refine r_iload_n e2057 ?_
        refine r_callV 102 rfl [.ref 1, .int x2038] [.ref (v2112)] (Nat.le_of_ble_eq_true rfl) rfl (T_X0_lawAt_1 _ hI2110 x2038) ?_
        rintro _ _ ⟨g2115, rfl, hI2116, hF2117, v2118, rfl, hr2119⟩
        refine At.str ?_
        have hF2120 := Fr.tr hF2114 hF2117 rfl rfl
        refine At.enter rfl ?_
        refine r_callV 105 rfl [.ref (v2112), .ref (v2118)] [] (Nat.le_of_ble_eq_true rfl) rfl (T_X4_become_law _ hI2116 (v2112) hr2113 (v2118) hr2119) ?_
        rintro _ _ ⟨g2121, rfl, hI2122, hF2123, rfl⟩
        refine At.stn ?_
        have hF2126 := Fr.tr hF2120 hF2123 rfl rfl
        refine At.enter rfl ?_
        refine q_iinc e2057 (x2038.toInt + 1) rfl (by omega) (fun v2127 hv2127 => ?_)
        refine r_goto ?_
        exact ih2044 (6 - v2127.toInt) _ _ ⟨v2127, by first | rfl | omega, hI2122, hF2126, (((hF2123.1 59 0 (by decide)).trans ((hF2117.1 59 0 (by decide)).trans (hF2111.1 59 0 (by decide)))).trans e2045), (((hF2123.1 59 10 (by decide)).trans ((hF2117.1 59 10 (by decide)).trans (hF2111.1 59 10 (by decide)))).trans e2046), (((hF2123.1 59 11 (by decide)).trans ((hF2117.1 59 11 (by decide)).trans (hF2111.1 59 11 (by decide)))).trans e2047), (((hF2123.1 59 12 (by decide)).trans ((hF2117.1 59 12 (by decide)).trans (hF2111.1 59 12 (by decide)))).trans e2048), (((hF2123.1 116 0 (by decide)).trans ((hF2117.1 116 0 (by decide)).trans (hF2111.1 116 0 (by decide)))).trans e2049), (((hF2123.1 116 10 (by decide)).trans ((hF2117.1 116 10 (by decide)).trans (hF2111.1 116 10 (by decide)))).trans e2050), (((hF2123.1 116 11 (by decide)).trans ((hF2117.1 116 11 (by decide)).trans (hF2111.1 116 11 (by decide)))).trans e2051), (((hF2123.1 116 12 (by decide)).trans ((hF2117.1 116 12 (by decide)).trans (hF2111.1 116 12 (by decide)))).trans e2052), (((eA_c (hF2123.2.1 173 (by decide))).trans ((eA_c (hF2117.2.1 173 (by decide))).trans (eA_c (hF2111.2.1 173 (by decide))))).trans e2053), (((eA_c (hF2123.2.1 173 (by decide))).trans ((eA_c (hF2117.2.1 173 (by decide))).trans (eA_c (hF2111.2.1 173 (by decide))))).trans e2054), (w_p1 (by decide) (Or.inr rfl) e2055), (w_p1 (by decide) (Or.inr rfl) e2056), (w_e1 _ _ _), by omega, (by intro i i0 i1; refine (eA_ti (((hF2123.2.1 60 (by decide)).trans ((hF2117.2.1 60 (by decide)).trans (hF2111.2.1 60 (by decide)))))).trans ?_; refine ((q2059 (i) (by omega) (by omega))).trans ?_; (first | rfl | exact eA_ix (by omega) | omega)), (by intro i i0 i1; refine (eA_ti (((hF2123.2.1 61 (by decide)).trans ((hF2117.2.1 61 (by decide)).trans (hF2111.2.1 61 (by decide)))))).trans ?_; refine ((q2060 (i) (by omega) (by omega))).trans ?_; (first | rfl | exact eA_ix (by omega) | omega)), (by intro i i0 i1; refine (eA_ti (((hF2123.2.1 62 (by decide)).trans ((hF2117.2.1 62 (by decide)).trans (hF2111.2.1 62 (by decide)))))).trans ?_; refine ((q2061 (i) (by omega) (by omega))).trans ?_; (first | rfl | exact eA_ix (by omega) | omega)), (by intro i i0 i1; refine (eA_ti (((hF2123.2.1 72 (by decide)).trans ((hF2117.2.1 72 (by decide)).trans (hF2111.2.1 72 (by decide)))))).trans ?_; refine ((q2062 (i) (by omega) (by omega))).trans ?_; (first | rfl | exact eA_ix (by omega) | omega)), (by intro i i0 i1; refine (eA_ti (((hF2123.2.1 73 (by decide)).trans ((hF2117.2.1 73 (by decide)).trans (hF2111.2.1 73 (by decide)))))).trans ?_; refine ((q2063 (i) (by omega) (by omega))).trans ?_; (first | rfl | exact eA_ix (by omega) | omega)), (by intro i i0 i1; refine (eA_ti (((hF2123.2.1 117 (by decide)).trans ((hF2117.2.1 117 (by decide)).trans (hF2111.2.1 117 (by decide)))))).trans ?_; refine ((q2064 (i) (by omega) (by omega))).trans ?_; (first | rfl | exact eA_ix (by omega) | omega)), (by intro i i0 i1; refine (eA_ti (((hF2123.2.1 118 (by decide)).trans ((hF2117.2.1 118 (by decide)).trans (hF2111.2.1 118 (by decide)))))).trans ?_; refine ((q2065 (i) (by omega) (by omega))).trans ?_; (first | rfl | exact eA_ix (by omega) | omega)), (by intro i i0 i1; refine (eA_ti (((hF2123.2.1 119 (by decide)).trans ((hF2117.2.1 119 (by decide)).trans (hF2111.2.1 119 (by decide)))))).trans ?_; refine ((q2066 (i) (by omega) (by omega))).trans ?_; (first | rfl | exact eA_ix (by omega) | omega)), (by intro i i0 i1; refine (eA_ti (((hF2123.2.1 129 (by decide)).trans ((hF2117.2.1 129 (by decide)).trans (hF2111.2.1 129 (by decide)))))).trans ?_; refine ((q2067 (i) (by omega) (by omega))).trans ?_; (first | rfl | exact eA_ix (by omega) | omega)), (by intro i i0 i1; refine (eA_ti (((hF2123.2.1 130 (by decide)).trans ((hF2117.2.1 130 (by decide)).trans (hF2111.2.1 130 (by decide)))))).trans ?_; refine ((q2068 (i) (by omega) (by omega))).trans ?_; (first | rfl | exact eA_ix (by omega) | omega))⟩ ⟨by omega, by omega⟩

def F_X10_back_0 : List (Nat × Nat) := [(0, 14), (0, 17), (1, 0), (1, 4), (1, 6), (1, 9), (1, 10), (1, 11), (1, 12), (7, 0), (7, 3), (7, 4), (16, 0), (16, 3), (16, 4), (23, 0), (23, 3), (23, 4), (30, 0), (30, 3), (30, 4), (37, 0), (37, 3), (37, 4), (44, 0), (44, 3), (44, 4), (51, 0), (51, 3), (51, 4), (65, 0), (65, 3), (65, 4), (74, 0), (74, 3), (74, 4), (81, 0), (81, 3), (81, 4), (88, 0), (88, 3), (88, 4), (95, 0), (95, 3), (95, 4), (102, 0), (102, 3), (102, 4), (109, 0), (109, 3), (109, 4), (122, 0), (122, 3), (122, 4), (131, 0), (131, 3), (131, 4), (138, 0), (138, 3), (138, 4), (145, 0), (145, 3), (145, 4), (152, 0), (152, 3), (152, 4), (159, 0), (159, 3), (159, 4), (166, 0), (166, 3), (166, 4), (177, 0), (177, 3), (177, 4), (220, 2), (222, 2), (223, 5), (223, 10)]
def A_X10_back_0 : List Nat := [2, 3, 4, 5, 8, 9, 10, 11, 12, 13, 14, 15, 17, 18, 19, 20, 21, 22, 24, 25, 26, 27, 28, 29, 31, 32, 33, 34, 35, 36, 38, 39, 40, 41, 42, 43, 45, 46, 47, 48, 49, 50, 52, 53, 54, 55, 56, 57, 66, 67, 68, 69, 70, 71, 75, 76, 77, 78, 79, 80, 82, 83, 84, 85, 86, 87, 89, 90, 91, 92, 93, 94, 96, 97, 98, 99, 100, 101, 103, 104, 105, 106, 107, 108, 110, 111, 112, 113, 114, 115, 123, 124, 125, 126, 127, 128, 132, 133, 134, 135, 136, 137, 139, 140, 141, 142, 143, 144, 146, 147, 148, 149, 150, 151, 153, 154, 155, 156, 157, 158, 160, 161, 162, 163, 164, 165, 167, 168, 169, 170, 171, 172, 178, 179, 180, 181, 182, 183, 230]
set_option maxRecDepth 100000 in
set_option maxHeartbeats 4000000 in
theorem T_X10_back_0 (d : Nat) {N : Nat} {g0 : List en_E} (hI0 : HI g0) (a1 : Int32) : Ev (d + 3) 141 [.ref 0, .int a1] (g0, N) (fun w h' => ∃ g', h' = (g', N) ∧ HI g' ∧ Fr F_X10_back_0 A_X10_back_0 g0 g' ∧ ∃ r : Int32, w = some (.int r) ∧ ((-2) ≤ r.toInt ∧ r.toInt ≤ 0) ∧ (((a1.toInt = 0 ∧ (eA g0 173 0).toInt ≠ 0 → r.toInt = 0 ∧ (gI g' 1 0).toInt = (gI g0 59 0).toInt ∧ (gI g' 1 12).toInt = (gI g0 59 12).toInt ∧ (gI g' 1 10).toInt = (gI g0 59 10).toInt ∧ (gI g' 1 11).toInt = (gI g0 59 11).toInt) ∧ (a1.toInt = 1 ∧ (eA g0 173 1).toInt ≠ 0 → r.toInt = 0 ∧ (gI g' 1 0).toInt = (gI g0 116 0).toInt ∧ (gI g' 1 12).toInt = (gI g0 116 12).toInt ∧ (gI g' 1 10).toInt = (gI g0 116 10).toInt ∧ (gI g' 1 11).toInt = (gI g0 116 11).toInt) ∧ (¬ (a1.toInt = 0 ∧ (eA g0 173 0).toInt ≠ 0) ∧ ¬ (a1.toInt = 1 ∧ (eA g0 173 1).toInt ≠ 0) → (gI g' 1 0).toInt = (gI g0 1 0).toInt ∧ (gI g' 1 12).toInt = (gI g0 1 12).toInt ∧ (gI g' 1 10).toInt = (gI g0 1 10).toInt ∧ (gI g' 1 11).toInt = (gI g0 1 11).toInt) ∧ (a1.toInt < 0 ∨ 1 < a1.toInt → r.toInt = -1) ∧ (0 ≤ a1.toInt ∧ a1.toInt ≤ 1 ∧ ¬ (a1.toInt = 0 ∧ (eA g0 173 0).toInt ≠ 0) ∧ ¬ (a1.toInt = 1 ∧ (eA g0 173 1).toInt ≠ 0) → r.toInt = -2)) ∧ (∀ i : Int, 0 ≤ i → i < 12 → (eA g' 2 (i)).toInt = if a1.toInt = 0 ∧ (eA g0 173 0).toInt ≠ 0 then (eA g0 60 (i)).toInt else if a1.toInt = 1 ∧ (eA g0 173 1).toInt ≠ 0 then (eA g0 117 (i)).toInt else (eA g0 2 (i)).toInt) ∧ (∀ i : Int, 0 ≤ i → i < 12 → (eA g' 3 (i)).toInt = if a1.toInt = 0 ∧ (eA g0 173 0).toInt ≠ 0 then (eA g0 61 (i)).toInt else if a1.toInt = 1 ∧ (eA g0 173 1).toInt ≠ 0 then (eA g0 118 (i)).toInt else (eA g0 3 (i)).toInt) ∧ (∀ i : Int, 0 ≤ i → i < 12 → (eA g' 4 (i)).toInt = if a1.toInt = 0 ∧ (eA g0 173 0).toInt ≠ 0 then (eA g0 62 (i)).toInt else if a1.toInt = 1 ∧ (eA g0 173 1).toInt ≠ 0 then (eA g0 119 (i)).toInt else (eA g0 4 (i)).toInt) ∧ (∀ i : Int, 0 ≤ i → i < 8 → (eA g' 14 (i)).toInt = if a1.toInt = 0 ∧ (eA g0 173 0).toInt ≠ 0 then (eA g0 72 (i)).toInt else if a1.toInt = 1 ∧ (eA g0 173 1).toInt ≠ 0 then (eA g0 129 (i)).toInt else (eA g0 14 (i)).toInt) ∧ (∀ i : Int, 0 ≤ i → i < 8 → (eA g' 15 (i)).toInt = if a1.toInt = 0 ∧ (eA g0 173 0).toInt ≠ 0 then (eA g0 73 (i)).toInt else if a1.toInt = 1 ∧ (eA g0 173 1).toInt ≠ 0 then (eA g0 130 (i)).toInt else (eA g0 15 (i)).toInt))) := by
  have hF0 : Fr F_X10_back_0 A_X10_back_0 g0 g0 := Fr.rf
  refine Ev.mk rfl rfl ⟨Nat.le_of_ble_eq_true rfl, Or.inr (q_rc hI0.1 kx_0 rfl)⟩ ?_
  show At _ none _ _ (0, [(0, .ref 0), (1, .int a1)], [], (_, _)) _
  refine At.enter rfl ?_
  refine r_aload_n rfl ?_
  refine r_iload_n rfl ?_
  refine q_inlV 5 rfl [.ref 0, .int a1] [] (Nat.le_of_ble_eq_true rfl) rfl ?_
  refine Ev.mk rfl rfl ⟨Nat.le_of_ble_eq_true rfl, Or.inr (q_rc hI0.1 kx_0 rfl)⟩ ?_
  show At _ none _ _ (0, [(0, .ref 0), (1, .int a1)], [], (_, _)) _
  refine At.enter rfl ?_
  refine r_iload_n rfl ?_
  refine r_iconst 0 rfl ?_
  refine r_iconst 1 rfl ?_
  refine q_inlS 6 rfl [.int a1, .int 0, .int 1] [] (Nat.le_of_ble_eq_true rfl) rfl ?_
  refine Ev.mk rfl rfl ⟨Nat.le_of_ble_eq_true rfl, Or.inl rfl⟩ ?_
  show At _ none _ _ (0, [(0, .int a1), (1, .int 0), (2, .int 1)], [], (_, _)) _
  refine At.enter rfl ?_
  refine r_iload_n rfl ?_
  refine r_iload_n rfl ?_
  refine r_ics 5 rfl (fun c1323 => ?_) (fun c1323 => ?_)
  · have c1323_ : a1.toInt < 0 := en_i_lt_t c1323
    refine At.enter rfl ?_
    refine r_iconst 0 rfl ?_
    refine Ar.fall 15 rfl ?_
    refine At.enter rfl ?_
    refine q_iretz (by decide) ?_
    refine At.enter rfl ?_
    refine r_ift (by decide) ?_
    refine At.enter rfl ?_
    refine r_null ?_
    refine Ar.fall 19 rfl ?_
    refine At.enter rfl ?_
    refine q_zret ?_
    refine At.enter rfl ?_
    refine r_zstore_n ([(2, .null), (0, .ref 0), (1, .int a1)]) rfl ?_
    refine r_zload_n rfl ?_
    refine r_nnz 10 rfl ?_
    refine At.enter rfl ?_
    refine r_aload_n rfl ?_
    refine r_iconst (-1) rfl ?_
    refine r_callV 15 rfl [.ref 0, .int (-1)] [] (Nat.le_of_ble_eq_true rfl) rfl (T_X10_refused_0 _ hI0 (-1) (by decide)) ?_
    rintro _ _ ⟨g1324, rfl, hI1325, hF1326, v1327, rfl, hr1328⟩
    refine At.sti ?_
    have hF1329 := Fr.tr hF0 hF1326 rfl rfl
    have zv1330 : ((-1) : Int32).toInt = (-1) := rfl
    refine At.enter rfl ?_
    refine r_ireti ?_
    obtain ⟨v1331, hv1331⟩ : ∃ v, gI g0 1 0 = v := ⟨_, rfl⟩
    have rv1331 := RgF.at hI0.2.1 (p := 1) (b := 0) rfl
    rw [hv1331] at rv1331
    dsimp only at rv1331
    have tv1331 := congrArg Int32.toInt hv1331
    have x1332 := HI.eqI hI0 (p := 1) (b := 0) (hv1331)
    obtain ⟨v1333, hv1333⟩ : ∃ v, gI g0 1 12 = v := ⟨_, rfl⟩
    have rv1333 := RgF.at hI0.2.1 (p := 1) (b := 12) rfl
    rw [hv1333] at rv1333
    dsimp only at rv1333
    have tv1333 := congrArg Int32.toInt hv1333
    have x1334 := HI.eqI hI0 (p := 1) (b := 12) (hv1333)
    obtain ⟨v1335, hv1335⟩ : ∃ v, gI g0 1 10 = v := ⟨_, rfl⟩
    have tv1335 := congrArg Int32.toInt hv1335
    have x1336 := HI.eqI hI0 (p := 1) (b := 10) (hv1335)
    obtain ⟨v1337, hv1337⟩ : ∃ v, gI g0 1 11 = v := ⟨_, rfl⟩
    have tv1337 := congrArg Int32.toInt hv1337
    have x1338 := HI.eqI hI0 (p := 1) (b := 11) (hv1337)
    obtain ⟨v1339, hv1339⟩ : ∃ v, gI g0 59 0 = v := ⟨_, rfl⟩
    have rv1339 := RgF.at hI0.2.1 (p := 59) (b := 0) rfl
    rw [hv1339] at rv1339
    dsimp only at rv1339
    have tv1339 := congrArg Int32.toInt hv1339
    have x1340 := HI.eqI hI0 (p := 59) (b := 0) (hv1339)
    obtain ⟨v1341, hv1341⟩ : ∃ v, gI g0 59 12 = v := ⟨_, rfl⟩
    have rv1341 := RgF.at hI0.2.1 (p := 59) (b := 12) rfl
    rw [hv1341] at rv1341
    dsimp only at rv1341
    have tv1341 := congrArg Int32.toInt hv1341
    have x1342 := HI.eqI hI0 (p := 59) (b := 12) (hv1341)
    obtain ⟨v1343, hv1343⟩ : ∃ v, gI g0 59 10 = v := ⟨_, rfl⟩
    have tv1343 := congrArg Int32.toInt hv1343
    have x1344 := HI.eqI hI0 (p := 59) (b := 10) (hv1343)
    obtain ⟨v1345, hv1345⟩ : ∃ v, gI g0 59 11 = v := ⟨_, rfl⟩
    have tv1345 := congrArg Int32.toInt hv1345
    have x1346 := HI.eqI hI0 (p := 59) (b := 11) (hv1345)
    obtain ⟨v1347, hv1347⟩ : ∃ v, gI g0 116 0 = v := ⟨_, rfl⟩
    have rv1347 := RgF.at hI0.2.1 (p := 116) (b := 0) rfl
    rw [hv1347] at rv1347
    dsimp only at rv1347
    have tv1347 := congrArg Int32.toInt hv1347
    have x1348 := HI.eqI hI0 (p := 116) (b := 0) (hv1347)
    obtain ⟨v1349, hv1349⟩ : ∃ v, gI g0 116 12 = v := ⟨_, rfl⟩
    have rv1349 := RgF.at hI0.2.1 (p := 116) (b := 12) rfl
    rw [hv1349] at rv1349
    dsimp only at rv1349
    have tv1349 := congrArg Int32.toInt hv1349
    have x1350 := HI.eqI hI0 (p := 116) (b := 12) (hv1349)
    obtain ⟨v1351, hv1351⟩ : ∃ v, gI g0 116 10 = v := ⟨_, rfl⟩
    have tv1351 := congrArg Int32.toInt hv1351
    have x1352 := HI.eqI hI0 (p := 116) (b := 10) (hv1351)
    obtain ⟨v1353, hv1353⟩ : ∃ v, gI g0 116 11 = v := ⟨_, rfl⟩
    have tv1353 := congrArg Int32.toInt hv1353
    have x1354 := HI.eqI hI0 (p := 116) (b := 11) (hv1353)
    obtain ⟨v1355, hv1355⟩ : ∃ v, eA g0 173 0 = v := ⟨_, rfl⟩
    have tv1355 := congrArg Int32.toInt hv1355
    have x1356 := HI.eqA hI0 (p := 173) (j := 0) (hv1355)
    obtain ⟨v1357, hv1357⟩ : ∃ v, eA g0 173 1 = v := ⟨_, rfl⟩
    have tv1357 := congrArg Int32.toInt hv1357
    have x1358 := HI.eqA hI0 (p := 173) (j := 1) (hv1357)
    have x1359 := HI.eqI hI1325 (p := 1) (b := 0) (((hF1326.1 1 0 (by decide)).trans hv1331))
    have x1360 := HI.eqI hI1325 (p := 1) (b := 12) (((hF1326.1 1 12 (by decide)).trans hv1333))
    have x1361 := HI.eqI hI1325 (p := 1) (b := 10) (((hF1326.1 1 10 (by decide)).trans hv1335))
    have x1362 := HI.eqI hI1325 (p := 1) (b := 11) (((hF1326.1 1 11 (by decide)).trans hv1337))
    have x1363 := HI.eqA hI0 (p := 173) (j := 0) (hv1355)
    have x1364 := HI.eqA hI0 (p := 173) (j := 1) (hv1357)
    exact ⟨_, rfl, hI1325, hF1329, _, rfl, by omega, ⟨⟨by omega, by omega, by omega, by omega, by omega⟩, (by intro i i0 i1; refine Eq.trans ?_ (if_neg (show ¬ (a1.toInt = 0 ∧ (eA g0 173 0).toInt ≠ 0) from by omega)).symm; refine Eq.trans ?_ (if_neg (show ¬ (a1.toInt = 1 ∧ (eA g0 173 1).toInt ≠ 0) from by omega)).symm; refine (eA_ti ((hF1326.2.1 2 (by decide)))).trans ?_; (first | rfl | exact eA_ix (by omega) | omega)), (by intro i i0 i1; refine Eq.trans ?_ (if_neg (show ¬ (a1.toInt = 0 ∧ (eA g0 173 0).toInt ≠ 0) from by omega)).symm; refine Eq.trans ?_ (if_neg (show ¬ (a1.toInt = 1 ∧ (eA g0 173 1).toInt ≠ 0) from by omega)).symm; refine (eA_ti ((hF1326.2.1 3 (by decide)))).trans ?_; (first | rfl | exact eA_ix (by omega) | omega)), (by intro i i0 i1; refine Eq.trans ?_ (if_neg (show ¬ (a1.toInt = 0 ∧ (eA g0 173 0).toInt ≠ 0) from by omega)).symm; refine Eq.trans ?_ (if_neg (show ¬ (a1.toInt = 1 ∧ (eA g0 173 1).toInt ≠ 0) from by omega)).symm; refine (eA_ti ((hF1326.2.1 4 (by decide)))).trans ?_; (first | rfl | exact eA_ix (by omega) | omega)), (by intro i i0 i1; refine Eq.trans ?_ (if_neg (show ¬ (a1.toInt = 0 ∧ (eA g0 173 0).toInt ≠ 0) from by omega)).symm; refine Eq.trans ?_ (if_neg (show ¬ (a1.toInt = 1 ∧ (eA g0 173 1).toInt ≠ 0) from by omega)).symm; refine (eA_ti ((hF1326.2.1 14 (by decide)))).trans ?_; (first | rfl | exact eA_ix (by omega) | omega)), (by intro i i0 i1; refine Eq.trans ?_ (if_neg (show ¬ (a1.toInt = 0 ∧ (eA g0 173 0).toInt ≠ 0) from by omega)).symm; refine Eq.trans ?_ (if_neg (show ¬ (a1.toInt = 1 ∧ (eA g0 173 1).toInt ≠ 0) from by omega)).symm; refine (eA_ti ((hF1326.2.1 15 (by decide)))).trans ?_; (first | rfl | exact eA_ix (by omega) | omega))⟩⟩
  · have c1323_ : a1.toInt ≥ 0 := en_i_lt_f c1323
    refine At.enter rfl ?_
    refine r_iload_n rfl ?_
    refine r_iload_n rfl ?_
    refine r_ics 10 rfl (fun c1365 => ?_) (fun c1365 => ?_)
    · have c1365_ : a1.toInt > 1 := en_i_gt_t c1365
      refine At.enter rfl ?_
      refine r_iconst 0 rfl ?_
      refine Ar.fall 15 rfl ?_
      refine At.enter rfl ?_
      refine q_iretz (by decide) ?_
      refine At.enter rfl ?_
      refine r_ift (by decide) ?_
      refine At.enter rfl ?_
      refine r_null ?_
      refine Ar.fall 19 rfl ?_
      refine At.enter rfl ?_
      refine q_zret ?_
      refine At.enter rfl ?_
      refine r_zstore_n ([(2, .null), (0, .ref 0), (1, .int a1)]) rfl ?_
      refine r_zload_n rfl ?_
      refine r_nnz 10 rfl ?_
      refine At.enter rfl ?_
      refine r_aload_n rfl ?_
      refine r_iconst (-1) rfl ?_
      refine r_callV 15 rfl [.ref 0, .int (-1)] [] (Nat.le_of_ble_eq_true rfl) rfl (T_X10_refused_0 _ hI0 (-1) (by decide)) ?_
      rintro _ _ ⟨g1366, rfl, hI1367, hF1368, v1369, rfl, hr1370⟩
      refine At.sti ?_
      have hF1371 := Fr.tr hF0 hF1368 rfl rfl
      have zv1372 : ((-1) : Int32).toInt = (-1) := rfl
      refine At.enter rfl ?_
      refine r_ireti ?_
      obtain ⟨v1373, hv1373⟩ : ∃ v, gI g0 1 0 = v := ⟨_, rfl⟩
      have rv1373 := RgF.at hI0.2.1 (p := 1) (b := 0) rfl
      rw [hv1373] at rv1373
      dsimp only at rv1373
      have tv1373 := congrArg Int32.toInt hv1373
      have x1374 := HI.eqI hI0 (p := 1) (b := 0) (hv1373)
      obtain ⟨v1375, hv1375⟩ : ∃ v, gI g0 1 12 = v := ⟨_, rfl⟩
      have rv1375 := RgF.at hI0.2.1 (p := 1) (b := 12) rfl
      rw [hv1375] at rv1375
      dsimp only at rv1375
      have tv1375 := congrArg Int32.toInt hv1375
      have x1376 := HI.eqI hI0 (p := 1) (b := 12) (hv1375)
      obtain ⟨v1377, hv1377⟩ : ∃ v, gI g0 1 10 = v := ⟨_, rfl⟩
      have tv1377 := congrArg Int32.toInt hv1377
      have x1378 := HI.eqI hI0 (p := 1) (b := 10) (hv1377)
      obtain ⟨v1379, hv1379⟩ : ∃ v, gI g0 1 11 = v := ⟨_, rfl⟩
      have tv1379 := congrArg Int32.toInt hv1379
      have x1380 := HI.eqI hI0 (p := 1) (b := 11) (hv1379)
      obtain ⟨v1381, hv1381⟩ : ∃ v, gI g0 59 0 = v := ⟨_, rfl⟩
      have rv1381 := RgF.at hI0.2.1 (p := 59) (b := 0) rfl
      rw [hv1381] at rv1381
      dsimp only at rv1381
      have tv1381 := congrArg Int32.toInt hv1381
      have x1382 := HI.eqI hI0 (p := 59) (b := 0) (hv1381)
      obtain ⟨v1383, hv1383⟩ : ∃ v, gI g0 59 12 = v := ⟨_, rfl⟩
      have rv1383 := RgF.at hI0.2.1 (p := 59) (b := 12) rfl
      rw [hv1383] at rv1383
      dsimp only at rv1383
      have tv1383 := congrArg Int32.toInt hv1383
      have x1384 := HI.eqI hI0 (p := 59) (b := 12) (hv1383)
      obtain ⟨v1385, hv1385⟩ : ∃ v, gI g0 59 10 = v := ⟨_, rfl⟩
      have tv1385 := congrArg Int32.toInt hv1385
      have x1386 := HI.eqI hI0 (p := 59) (b := 10) (hv1385)
      obtain ⟨v1387, hv1387⟩ : ∃ v, gI g0 59 11 = v := ⟨_, rfl⟩
      have tv1387 := congrArg Int32.toInt hv1387
      have x1388 := HI.eqI hI0 (p := 59) (b := 11) (hv1387)
      obtain ⟨v1389, hv1389⟩ : ∃ v, gI g0 116 0 = v := ⟨_, rfl⟩
      have rv1389 := RgF.at hI0.2.1 (p := 116) (b := 0) rfl
      rw [hv1389] at rv1389
      dsimp only at rv1389
      have tv1389 := congrArg Int32.toInt hv1389
      have x1390 := HI.eqI hI0 (p := 116) (b := 0) (hv1389)
      obtain ⟨v1391, hv1391⟩ : ∃ v, gI g0 116 12 = v := ⟨_, rfl⟩
      have rv1391 := RgF.at hI0.2.1 (p := 116) (b := 12) rfl
      rw [hv1391] at rv1391
      dsimp only at rv1391
      have tv1391 := congrArg Int32.toInt hv1391
      have x1392 := HI.eqI hI0 (p := 116) (b := 12) (hv1391)
      obtain ⟨v1393, hv1393⟩ : ∃ v, gI g0 116 10 = v := ⟨_, rfl⟩
      have tv1393 := congrArg Int32.toInt hv1393
      have x1394 := HI.eqI hI0 (p := 116) (b := 10) (hv1393)
      obtain ⟨v1395, hv1395⟩ : ∃ v, gI g0 116 11 = v := ⟨_, rfl⟩
      have tv1395 := congrArg Int32.toInt hv1395
      have x1396 := HI.eqI hI0 (p := 116) (b := 11) (hv1395)
      obtain ⟨v1397, hv1397⟩ : ∃ v, eA g0 173 0 = v := ⟨_, rfl⟩
      have tv1397 := congrArg Int32.toInt hv1397
      have x1398 := HI.eqA hI0 (p := 173) (j := 0) (hv1397)
      obtain ⟨v1399, hv1399⟩ : ∃ v, eA g0 173 1 = v := ⟨_, rfl⟩
      have tv1399 := congrArg Int32.toInt hv1399
      have x1400 := HI.eqA hI0 (p := 173) (j := 1) (hv1399)
      have x1401 := HI.eqI hI1367 (p := 1) (b := 0) (((hF1368.1 1 0 (by decide)).trans hv1373))
      have x1402 := HI.eqI hI1367 (p := 1) (b := 12) (((hF1368.1 1 12 (by decide)).trans hv1375))
      have x1403 := HI.eqI hI1367 (p := 1) (b := 10) (((hF1368.1 1 10 (by decide)).trans hv1377))
      have x1404 := HI.eqI hI1367 (p := 1) (b := 11) (((hF1368.1 1 11 (by decide)).trans hv1379))
      have x1405 := HI.eqA hI0 (p := 173) (j := 0) (hv1397)
      have x1406 := HI.eqA hI0 (p := 173) (j := 1) (hv1399)
      exact ⟨_, rfl, hI1367, hF1371, _, rfl, by omega, ⟨⟨by omega, by omega, by omega, by omega, by omega⟩, (by intro i i0 i1; refine Eq.trans ?_ (if_neg (show ¬ (a1.toInt = 0 ∧ (eA g0 173 0).toInt ≠ 0) from by omega)).symm; refine Eq.trans ?_ (if_neg (show ¬ (a1.toInt = 1 ∧ (eA g0 173 1).toInt ≠ 0) from by omega)).symm; refine (eA_ti ((hF1368.2.1 2 (by decide)))).trans ?_; (first | rfl | exact eA_ix (by omega) | omega)), (by intro i i0 i1; refine Eq.trans ?_ (if_neg (show ¬ (a1.toInt = 0 ∧ (eA g0 173 0).toInt ≠ 0) from by omega)).symm; refine Eq.trans ?_ (if_neg (show ¬ (a1.toInt = 1 ∧ (eA g0 173 1).toInt ≠ 0) from by omega)).symm; refine (eA_ti ((hF1368.2.1 3 (by decide)))).trans ?_; (first | rfl | exact eA_ix (by omega) | omega)), (by intro i i0 i1; refine Eq.trans ?_ (if_neg (show ¬ (a1.toInt = 0 ∧ (eA g0 173 0).toInt ≠ 0) from by omega)).symm; refine Eq.trans ?_ (if_neg (show ¬ (a1.toInt = 1 ∧ (eA g0 173 1).toInt ≠ 0) from by omega)).symm; refine (eA_ti ((hF1368.2.1 4 (by decide)))).trans ?_; (first | rfl | exact eA_ix (by omega) | omega)), (by intro i i0 i1; refine Eq.trans ?_ (if_neg (show ¬ (a1.toInt = 0 ∧ (eA g0 173 0).toInt ≠ 0) from by omega)).symm; refine Eq.trans ?_ (if_neg (show ¬ (a1.toInt = 1 ∧ (eA g0 173 1).toInt ≠ 0) from by omega)).symm; refine (eA_ti ((hF1368.2.1 14 (by decide)))).trans ?_; (first | rfl | exact eA_ix (by omega) | omega)), (by intro i i0 i1; refine Eq.trans ?_ (if_neg (show ¬ (a1.toInt = 0 ∧ (eA g0 173 0).toInt ≠ 0) from by omega)).symm; refine Eq.trans ?_ (if_neg (show ¬ (a1.toInt = 1 ∧ (eA g0 173 1).toInt ≠ 0) from by omega)).symm; refine (eA_ti ((hF1368.2.1 15 (by decide)))).trans ?_; (first | rfl | exact eA_ix (by omega) | omega))⟩⟩
    · have c1365_ : a1.toInt ≤ 1 := en_i_gt_f c1365
      refine At.enter rfl ?_
      refine r_iconst 1 rfl ?_
      refine r_goto ?_
      refine At.enter rfl ?_
      refine q_iretz (by decide) ?_
      refine At.enter rfl ?_
      refine r_iff 9 rfl (by decide) ?_
      refine At.enter rfl ?_
      refine r_aload_n rfl ?_
      refine q_getR (Sh.ref hI0.1 kx_0 rfl) ?_
      refine r_iload_n rfl ?_
      by_cases c1407_0 : a1.toInt = 0
      · refine q_aald (Sh.rar hI0.1 ka_58) (by decide) 0 (by omega) (by decide) (some 59) rfl ?_
        refine r_goto ?_
        refine At.enter rfl ?_
        refine q_aret ?_
        refine At.enter rfl ?_
        refine r_astore_n ([(2, .ref 59), (0, .ref 0), (1, .int a1)]) rfl ?_
        refine r_aload_n rfl ?_
        refine r_nnr ?_
        refine At.enter rfl ?_
        refine r_aload_n rfl ?_
        refine q_getR (Sh.ref hI0.1 kx_0 rfl) ?_
        refine r_iload_n rfl ?_
        obtain ⟨v1408, hv1408⟩ : ∃ v, eA g0 173 a1.toInt = v := ⟨_, rfl⟩
        refine q_bald (Sh.arr hI0.1 ka_173) a1.toInt rfl (by omega) v1408 hv1408 ?_
        refine r_ifs 25 rfl (fun c1409 => ?_) (fun c1409 => ?_)
        · have c1409_ : v1408.toInt ≠ 0 := en_k_ne_t c1409
          refine At.enter rfl ?_
          refine r_aload_n rfl ?_
          refine q_getR (Sh.ref hI0.1 kx_0 rfl) ?_
          refine r_aload_n rfl ?_
          refine q_inlV 40 rfl [.ref 1, .ref 59] [] (Nat.le_of_ble_eq_true rfl) rfl ?_
          refine Ev.mk rfl rfl ⟨Nat.le_of_ble_eq_true rfl, Or.inr (q_rc hI0.1 kx_1 rfl)⟩ ?_
          show At _ none _ _ (0, [(0, .ref 1), (1, .ref 59)], [], (_, _)) _
          refine At.enter rfl ?_
          refine r_aload_n rfl ?_
          refine r_aload_n rfl ?_
          obtain ⟨v1410, hv1410⟩ : ∃ v, gI g0 59 0 = v := ⟨_, rfl⟩
          have rv1410 := RgF.at hI0.2.1 (p := 59) (b := 0) rfl
          rw [hv1410] at rv1410
          dsimp only at rv1410
          refine q_getI (Sh.int hI0.1 kx_59 rfl) v1410 hv1410 ?_
          refine q_putI (Sh.int hI0.1 kx_1 rfl) rfl ?_
          have hI1411 := HI.wI1 hI0 kx_1 rfl (p := 1) (b := 0) (v := v1410) rfl (by dsimp only; omega)
          have hF1412 := Fr.wI (p := 1) (b := 0) (v := v1410) hF0 rfl
          refine r_aload_n rfl ?_
          refine q_getR (Sh.ref hI1411.1 kx_59 rfl) ?_
          refine r_iconst 0 rfl ?_
          refine r_aload_n rfl ?_
          refine q_getR (Sh.ref hI1411.1 kx_1 rfl) ?_
          refine r_iconst 0 rfl ?_
          refine r_bipush 12 rfl ?_
          have zv1413 : (0 : Int32).toInt = 0 := rfl
          have zv1414 : (0 : Int32).toInt = 0 := rfl
          have zv1415 : (12 : Int32).toInt = 12 := rfl
          refine q_cpy rfl (Nat.le_of_ble_eq_true rfl) (Sh.arr hI1411.1 ka_60) (Sh.arr hI1411.1 ka_2) ⟨by omega, by omega, by omega, by omega, by omega⟩ ?_
          have hI1416 := HI.cpy0 hI1411 ka_60 ka_2 rfl rfl ((0 : Int32).toInt.toNat) ((0 : Int32).toInt.toNat) ((12 : Int32).toInt.toNat) (by omega) (by omega)
          have hF1417 := Fr.cpy (p0 := 60) (p1 := 2) hF1412 rfl ((0 : Int32).toInt.toNat) ((0 : Int32).toInt.toNat) ((12 : Int32).toInt.toNat)
          refine r_aload_n rfl ?_
          refine q_getR (Sh.ref hI1416.1 kx_59 rfl) ?_
          refine r_iconst 0 rfl ?_
          refine r_aload_n rfl ?_
          refine q_getR (Sh.ref hI1416.1 kx_1 rfl) ?_
          refine r_iconst 0 rfl ?_
          refine r_bipush 12 rfl ?_
          have zv1418 : (0 : Int32).toInt = 0 := rfl
          have zv1419 : (0 : Int32).toInt = 0 := rfl
          have zv1420 : (12 : Int32).toInt = 12 := rfl
          refine q_cpy rfl (Nat.le_of_ble_eq_true rfl) (Sh.arr hI1416.1 ka_61) (Sh.arr hI1416.1 ka_3) ⟨by omega, by omega, by omega, by omega, by omega⟩ ?_
          have hI1421 := HI.cpy0 hI1416 ka_61 ka_3 rfl rfl ((0 : Int32).toInt.toNat) ((0 : Int32).toInt.toNat) ((12 : Int32).toInt.toNat) (by omega) (by omega)
          have hF1422 := Fr.cpy (p0 := 61) (p1 := 3) hF1417 rfl ((0 : Int32).toInt.toNat) ((0 : Int32).toInt.toNat) ((12 : Int32).toInt.toNat)
          refine r_aload_n rfl ?_
          refine q_getR (Sh.ref hI1421.1 kx_59 rfl) ?_
          refine r_iconst 0 rfl ?_
          refine r_aload_n rfl ?_
          refine q_getR (Sh.ref hI1421.1 kx_1 rfl) ?_
          refine r_iconst 0 rfl ?_
          refine r_bipush 12 rfl ?_
          have zv1423 : (0 : Int32).toInt = 0 := rfl
          have zv1424 : (0 : Int32).toInt = 0 := rfl
          have zv1425 : (12 : Int32).toInt = 12 := rfl
          refine q_cpy rfl (Nat.le_of_ble_eq_true rfl) (Sh.arr hI1421.1 ka_62) (Sh.arr hI1421.1 ka_4) ⟨by omega, by omega, by omega, by omega, by omega⟩ ?_
          have hI1426 := HI.cpy0 hI1421 ka_62 ka_4 rfl rfl ((0 : Int32).toInt.toNat) ((0 : Int32).toInt.toNat) ((12 : Int32).toInt.toNat) (by omega) (by omega)
          have hF1427 := Fr.cpy (p0 := 62) (p1 := 4) hF1422 rfl ((0 : Int32).toInt.toNat) ((0 : Int32).toInt.toNat) ((12 : Int32).toInt.toNat)
          refine r_aload_n rfl ?_
          refine r_aload_n rfl ?_
          obtain ⟨v1428, hv1428⟩ : ∃ v, gI g0 59 4 = v := ⟨_, rfl⟩
          have rv1428 := RgF.at hI0.2.1 (p := 59) (b := 4) rfl
          rw [hv1428] at rv1428
          dsimp only at rv1428
          refine q_getI (Sh.int hI1426.1 kx_59 rfl) v1428 (((gI_sW).trans ((gI_sW).trans ((gI_sW).trans (gI_sI_ne (by decide))))).trans hv1428) ?_
          refine q_putI (Sh.int hI1426.1 kx_1 rfl) rfl ?_
          have hI1429 := HI.wI1 hI1426 kx_1 rfl (p := 1) (b := 4) (v := v1428) rfl (by dsimp only; omega)
          have hF1430 := Fr.wI (p := 1) (b := 4) (v := v1428) hF1427 rfl
          refine r_aload_n rfl ?_
          refine q_getR (Sh.ref hI1429.1 kx_59 rfl) ?_
          refine r_iconst 0 rfl ?_
          refine r_aload_n rfl ?_
          refine q_getR (Sh.ref hI1429.1 kx_1 rfl) ?_
          refine r_iconst 0 rfl ?_
          refine r_bipush 48 rfl ?_
          have zv1431 : (0 : Int32).toInt = 0 := rfl
          have zv1432 : (0 : Int32).toInt = 0 := rfl
          have zv1433 : (48 : Int32).toInt = 48 := rfl
          refine q_cpy rfl (Nat.le_of_ble_eq_true rfl) (Sh.arr hI1429.1 ka_63) (Sh.arr hI1429.1 ka_5) ⟨by omega, by omega, by omega, by omega, by omega⟩ ?_
          have hI1434 := HI.cpy0 hI1429 ka_63 ka_5 rfl rfl ((0 : Int32).toInt.toNat) ((0 : Int32).toInt.toNat) ((48 : Int32).toInt.toNat) (by omega) (by omega)
          have hF1435 := Fr.cpy (p0 := 63) (p1 := 5) hF1430 rfl ((0 : Int32).toInt.toNat) ((0 : Int32).toInt.toNat) ((48 : Int32).toInt.toNat)
          refine r_aload_n rfl ?_
          refine r_aload_n rfl ?_
          obtain ⟨v1436, hv1436⟩ : ∃ v, gI g0 59 6 = v := ⟨_, rfl⟩
          have rv1436 := RgF.at hI0.2.1 (p := 59) (b := 6) rfl
          rw [hv1436] at rv1436
          dsimp only at rv1436
          refine q_getI (Sh.int hI1434.1 kx_59 rfl) v1436 (((gI_sW).trans ((gI_sI_ne (by decide)).trans ((gI_sW).trans ((gI_sW).trans ((gI_sW).trans (gI_sI_ne (by decide))))))).trans hv1436) ?_
          refine q_putI (Sh.int hI1434.1 kx_1 rfl) rfl ?_
          have hI1437 := HI.wI1 hI1434 kx_1 rfl (p := 1) (b := 6) (v := v1436) rfl (by dsimp only; omega)
          have hF1438 := Fr.wI (p := 1) (b := 6) (v := v1436) hF1435 rfl
          refine r_iconst 0 rfl ?_
          refine r_istore_n ([(2, .int 0), (0, .ref 1), (1, .ref 59)]) rfl ?_
          refine Ar.fall 86 rfl ?_
          have z_1670 : (0 : Int32).toInt = 0 := rfl
          refine w_loopI (fun n_ l_ g_ => ∃ x1653 : Int32, n_ = 6 - x1653.toInt ∧ HI g_ ∧ Fr F_X10_back_0 A_X10_back_0 g0 g_ ∧ gI g_ 1 0 = v1410 ∧ en_get 0 l_ = some (.ref 1) ∧ en_get 1 l_ = some (.ref 59) ∧ en_get 2 l_ = some (.int x1653) ∧ (0 ≤ x1653.toInt ∧ x1653.toInt ≤ 6) ∧ (∀ i : Int, 0 ≤ i → i < 12 → (eA g_ 2 (i)).toInt = (eA g0 60 (i)).toInt) ∧ (∀ i : Int, 0 ≤ i → i < 12 → (eA g_ 3 (i)).toInt = (eA g0 61 (i)).toInt) ∧ (∀ i : Int, 0 ≤ i → i < 12 → (eA g_ 4 (i)).toInt = (eA g0 62 (i)).toInt) ∧ (∀ i : Int, 0 ≤ i → i < 8 → (eA g_ 14 (i)).toInt = (eA g0 14 (i)).toInt) ∧ (∀ i : Int, 0 ≤ i → i < 8 → (eA g_ 15 (i)).toInt = (eA g0 15 (i)).toInt)) ?_ (6 - 0) ⟨0, by first | rfl | omega, hI1437, hF1438, ((gI_sI_ne (by decide)).trans ((gI_sW).trans ((gI_sI_ne (by decide)).trans ((gI_sW).trans ((gI_sW).trans ((gI_sW).trans (gI_sI_eq hI0.1 kx_1 rfl _))))))), rfl, rfl, rfl, by decide, (by intro i i0 i1; refine (eA_tq (((gA_sI).trans ((gA_sW_ne (by decide)).trans ((gA_sI).trans ((gA_sW_ne (by decide)).trans ((gA_sW_ne (by decide)).trans ((gA_cpF hI1411.1 ka_60 ka_2 (by decide) (by decide) (by decide)).trans (gA_sI))))))))).trans ?_; (first | rfl | exact eA_ix (by omega) | omega)), (by intro i i0 i1; refine (eA_tq (((gA_sI).trans ((gA_sW_ne (by decide)).trans ((gA_sI).trans ((gA_sW_ne (by decide)).trans ((gA_cpF hI1416.1 ka_61 ka_3 (by decide) (by decide) (by decide)).trans ((gA_sW_ne (by decide)).trans (gA_sI))))))))).trans ?_; (first | rfl | exact eA_ix (by omega) | omega)), (by intro i i0 i1; refine (eA_tq (((gA_sI).trans ((gA_sW_ne (by decide)).trans ((gA_sI).trans ((gA_cpF hI1421.1 ka_62 ka_4 (by decide) (by decide) (by decide)).trans ((gA_sW_ne (by decide)).trans ((gA_sW_ne (by decide)).trans (gA_sI))))))))).trans ?_; (first | rfl | exact eA_ix (by omega) | omega)), (by intro i i0 i1; refine (eA_ti (((gA_sI).trans ((gA_sW_ne (by decide)).trans ((gA_sI).trans ((gA_sW_ne (by decide)).trans ((gA_sW_ne (by decide)).trans ((gA_sW_ne (by decide)).trans (gA_sI))))))))).trans ?_; (first | rfl | exact eA_ix (by omega) | omega)), (by intro i i0 i1; refine (eA_ti (((gA_sI).trans ((gA_sW_ne (by decide)).trans ((gA_sI).trans ((gA_sW_ne (by decide)).trans ((gA_sW_ne (by decide)).trans ((gA_sW_ne (by decide)).trans (gA_sI))))))))).trans ?_; (first | rfl | exact eA_ix (by omega) | omega))⟩
          rintro n1658 l1657 g1654 ⟨x1653, hm1671, hI1655, hF1656, e1660, e1661, e1662, e1663, r1664, q1665, q1666, q1667, q1668, q1669⟩ ih1659
          have tv1672 := congrArg Int32.toInt e1660
          refine At.enter rfl ?_
          refine r_iload_n e1663 ?_
          refine r_bipush 6 rfl ?_
          refine r_ics 92 rfl (fun c1673 => ?_) (fun c1673 => ?_)
          · have c1673_ : x1653.toInt ≥ 6 := en_i_ge_t c1673
            refine At.enter rfl ?_
            refine r_aload_n e1661 ?_
            refine r_aload_n e1662 ?_
            obtain ⟨v1674, hv1674⟩ : ∃ v, gI g0 59 9 = v := ⟨_, rfl⟩
            refine q_getI (Sh.int hI1655.1 kx_59 rfl) v1674 ((hF1656.1 59 9 (by decide)).trans hv1674) ?_
            refine q_putI (Sh.int hI1655.1 kx_1 rfl) rfl ?_
            have hI1675 := HI.wI0 hI1655 kx_1 rfl (p := 1) (b := 9) (v := v1674) rfl
            have hF1676 := Fr.wI (p := 1) (b := 9) (v := v1674) hF1656 rfl
            refine r_aload_n e1661 ?_
            refine r_aload_n e1662 ?_
            obtain ⟨v1677, hv1677⟩ : ∃ v, gI g0 59 10 = v := ⟨_, rfl⟩
            refine q_getI (Sh.int hI1675.1 kx_59 rfl) v1677 (((gI_sI_ne (by decide)).trans (hF1656.1 59 10 (by decide))).trans hv1677) ?_
            refine q_putI (Sh.int hI1675.1 kx_1 rfl) rfl ?_
            have hI1678 := HI.wI0 hI1675 kx_1 rfl (p := 1) (b := 10) (v := v1677) rfl
            have hF1679 := Fr.wI (p := 1) (b := 10) (v := v1677) hF1676 rfl
            refine r_aload_n e1661 ?_
            refine r_aload_n e1662 ?_
            obtain ⟨v1680, hv1680⟩ : ∃ v, gI g0 59 11 = v := ⟨_, rfl⟩
            refine q_getI (Sh.int hI1678.1 kx_59 rfl) v1680 (((gI_sI_ne (by decide)).trans ((gI_sI_ne (by decide)).trans (hF1656.1 59 11 (by decide)))).trans hv1680) ?_
            refine q_putI (Sh.int hI1678.1 kx_1 rfl) rfl ?_
            have hI1681 := HI.wI0 hI1678 kx_1 rfl (p := 1) (b := 11) (v := v1680) rfl
            have hF1682 := Fr.wI (p := 1) (b := 11) (v := v1680) hF1679 rfl
            refine r_aload_n e1661 ?_
            refine r_aload_n e1662 ?_
            obtain ⟨v1683, hv1683⟩ : ∃ v, gI g0 59 12 = v := ⟨_, rfl⟩
            have rv1683 := RgF.at hI0.2.1 (p := 59) (b := 12) rfl
            rw [hv1683] at rv1683
            dsimp only at rv1683
            refine q_getI (Sh.int hI1681.1 kx_59 rfl) v1683 (((gI_sI_ne (by decide)).trans ((gI_sI_ne (by decide)).trans ((gI_sI_ne (by decide)).trans (hF1656.1 59 12 (by decide))))).trans hv1683) ?_
            refine q_putI (Sh.int hI1681.1 kx_1 rfl) rfl ?_
            have hI1684 := HI.wI1 hI1681 kx_1 rfl (p := 1) (b := 12) (v := v1683) rfl (by dsimp only; omega)
            have hF1685 := Fr.wI (p := 1) (b := 12) (v := v1683) hF1682 rfl
            refine r_aload_n e1662 ?_
            refine q_getR (Sh.ref hI1684.1 kx_59 rfl) ?_
            refine r_iconst 0 rfl ?_
            refine r_aload_n e1661 ?_
            refine q_getR (Sh.ref hI1684.1 kx_1 rfl) ?_
            refine r_iconst 0 rfl ?_
            refine r_bipush 8 rfl ?_
            have zv1686 : (0 : Int32).toInt = 0 := rfl
            have zv1687 : (0 : Int32).toInt = 0 := rfl
            have zv1688 : (8 : Int32).toInt = 8 := rfl
            refine q_cpy rfl (Nat.le_of_ble_eq_true rfl) (Sh.arr hI1684.1 ka_72) (Sh.arr hI1684.1 ka_14) ⟨by omega, by omega, by omega, by omega, by omega⟩ ?_
            have hI1689 := HI.cpy0 hI1684 ka_72 ka_14 rfl rfl ((0 : Int32).toInt.toNat) ((0 : Int32).toInt.toNat) ((8 : Int32).toInt.toNat) (by omega) (by omega)
            have hF1690 := Fr.cpy (p0 := 72) (p1 := 14) hF1685 rfl ((0 : Int32).toInt.toNat) ((0 : Int32).toInt.toNat) ((8 : Int32).toInt.toNat)
            refine r_aload_n e1662 ?_
            refine q_getR (Sh.ref hI1689.1 kx_59 rfl) ?_
            refine r_iconst 0 rfl ?_
            refine r_aload_n e1661 ?_
            refine q_getR (Sh.ref hI1689.1 kx_1 rfl) ?_
            refine r_iconst 0 rfl ?_
            refine r_bipush 8 rfl ?_
            have zv1691 : (0 : Int32).toInt = 0 := rfl
            have zv1692 : (0 : Int32).toInt = 0 := rfl
            have zv1693 : (8 : Int32).toInt = 8 := rfl
            refine q_cpy rfl (Nat.le_of_ble_eq_true rfl) (Sh.arr hI1689.1 ka_73) (Sh.arr hI1689.1 ka_15) ⟨by omega, by omega, by omega, by omega, by omega⟩ ?_
            have hI1694 := HI.cpy0 hI1689 ka_73 ka_15 rfl rfl ((0 : Int32).toInt.toNat) ((0 : Int32).toInt.toNat) ((8 : Int32).toInt.toNat) (by omega) (by omega)
            have hF1695 := Fr.cpy (p0 := 73) (p1 := 15) hF1690 rfl ((0 : Int32).toInt.toNat) ((0 : Int32).toInt.toNat) ((8 : Int32).toInt.toNat)
            refine q_vret ?_
            refine At.enter rfl ?_
            refine r_aload_n rfl ?_
            refine r_callV 44 rfl [.ref 0] [] (Nat.le_of_ble_eq_true rfl) rfl (T_X10_changed_0 _ hI1694) ?_
            rintro _ _ ⟨g1696, rfl, hI1697, hF1698, rfl⟩
            refine At.stn ?_
            have hF1701 := Fr.tr hF1695 hF1698 rfl rfl
            refine At.enter rfl ?_
            refine r_aload_n rfl ?_
            refine r_iconst 0 rfl ?_
            refine q_inlV 49 rfl [.ref 0, .int 0] [] (Nat.le_of_ble_eq_true rfl) rfl ?_
            refine Ev.mk rfl rfl ⟨Nat.le_of_ble_eq_true rfl, Or.inr (q_rc hI1697.1 kx_0 rfl)⟩ ?_
            show At _ none _ _ (0, [(0, .ref 0), (1, .int 0)], [], (_, _)) _
            refine At.enter rfl ?_
            refine r_aload_n rfl ?_
            refine r_iconst 0 rfl ?_
            refine q_putI (Sh.int hI1697.1 kx_0 rfl) rfl ?_
            have hI1702 := HI.wI0 hI1697 kx_0 rfl (p := 0) (b := 17) (v := 0) rfl
            have hF1703 := Fr.wI (p := 0) (b := 17) (v := 0) hF1701 rfl
            refine r_iload_n rfl ?_
            refine q_ireti ?_
            refine At.enter rfl ?_
            refine r_ireti ?_
            have zv1704 : (0 : Int32).toInt = 0 := rfl
            have e : a1.toInt = 0 := by omega
            have k1705_ : (eA g0 173 0).toInt = v1408.toInt := by rw [← hv1408, e]
            have k1705 : (eA g0 173 0).toInt ≠ 0 := by omega
            obtain ⟨v1706, hv1706⟩ : ∃ v, eA g0 173 0 = v := ⟨_, rfl⟩
            have tv1706 := congrArg Int32.toInt hv1706
            have x1707 := HI.eqA hI0 (p := 173) (j := 0) (hv1706)
            have y1708 : (eA g0 173 0).toInt = v1408.toInt := by rw [← hv1408, show a1.toInt = 0 by omega]
            obtain ⟨v1709, hv1709⟩ : ∃ v, eA g0 173 1 = v := ⟨_, rfl⟩
            have tv1709 := congrArg Int32.toInt hv1709
            have x1710 := HI.eqA hI0 (p := 173) (j := 1) (hv1709)
            exact ⟨_, rfl, hI1702, hF1703, _, rfl, by decide, ⟨⟨(fun _ => ⟨(by first | rfl | decide), (HI.eqI hI1702 (p := 1) (b := 0) ((((gI_sI_ne (by decide)).trans ((hF1698.1 1 0 (by decide)).trans ((gI_sW).trans ((gI_sW).trans ((gI_sI_ne (by decide)).trans ((gI_sI_ne (by decide)).trans ((gI_sI_ne (by decide)).trans (gI_sI_ne (by decide))))))))).trans e1660))).trans (HI.eqI hI0 (p := 59) (b := 0) (hv1410)).symm, (HI.eqI hI1702 (p := 1) (b := 12) (((gI_sI_ne (by decide)).trans ((hF1698.1 1 12 (by decide)).trans ((gI_sW).trans ((gI_sW).trans (gI_sI_eq hI1681.1 kx_1 rfl _))))))).trans (HI.eqI hI0 (p := 59) (b := 12) (hv1683)).symm, (HI.eqI hI1702 (p := 1) (b := 10) (((gI_sI_ne (by decide)).trans ((hF1698.1 1 10 (by decide)).trans ((gI_sW).trans ((gI_sW).trans ((gI_sI_ne (by decide)).trans ((gI_sI_ne (by decide)).trans (gI_sI_eq hI1675.1 kx_1 rfl _))))))))).trans (HI.eqI hI0 (p := 59) (b := 10) (hv1677)).symm, (HI.eqI hI1702 (p := 1) (b := 11) (((gI_sI_ne (by decide)).trans ((hF1698.1 1 11 (by decide)).trans ((gI_sW).trans ((gI_sW).trans ((gI_sI_ne (by decide)).trans (gI_sI_eq hI1678.1 kx_1 rfl _)))))))).trans (HI.eqI hI0 (p := 59) (b := 11) (hv1680)).symm⟩), (fun h => absurd (e.symm.trans h.1) (by decide)), (fun h => absurd ⟨e, k1705⟩ h.1), (fun h => False.elim (by omega)), (fun h => absurd ⟨e, k1705⟩ h.2.2.1)⟩, (by intro i i0 i1; exact (Decidable.em (a1.toInt = 0 ∧ (eA g0 173 0).toInt ≠ 0)).elim (fun k61_ => by refine Eq.trans ?_ (if_pos k61_).symm; refine (eA_ti (((gA_sI).trans ((hF1698.2.1 2 (by decide)).trans ((gA_sW_ne (by decide)).trans ((gA_sW_ne (by decide)).trans ((gA_sI).trans ((gA_sI).trans ((gA_sI).trans (gA_sI)))))))))).trans ?_; refine ((q1665 (i) (by omega) (by omega))).trans ?_; (first | rfl | exact eA_ix (by omega) | omega)) (fun k61_ => by refine Eq.trans ?_ (if_neg k61_).symm; exact (Decidable.em (a1.toInt = 1 ∧ (eA g0 173 1).toInt ≠ 0)).elim (fun k62_ => by refine Eq.trans ?_ (if_pos k62_).symm; refine (eA_ti (((gA_sI).trans ((hF1698.2.1 2 (by decide)).trans ((gA_sW_ne (by decide)).trans ((gA_sW_ne (by decide)).trans ((gA_sI).trans ((gA_sI).trans ((gA_sI).trans (gA_sI)))))))))).trans ?_; refine ((q1665 (i) (by omega) (by omega))).trans ?_; (first | rfl | exact eA_ix (by omega) | omega)) (fun k62_ => by refine Eq.trans ?_ (if_neg k62_).symm; refine (eA_ti (((gA_sI).trans ((hF1698.2.1 2 (by decide)).trans ((gA_sW_ne (by decide)).trans ((gA_sW_ne (by decide)).trans ((gA_sI).trans ((gA_sI).trans ((gA_sI).trans (gA_sI)))))))))).trans ?_; refine ((q1665 (i) (by omega) (by omega))).trans ?_; (first | rfl | exact eA_ix (by omega) | omega)))), (by intro i i0 i1; exact (Decidable.em (a1.toInt = 0 ∧ (eA g0 173 0).toInt ≠ 0)).elim (fun k63_ => by refine Eq.trans ?_ (if_pos k63_).symm; refine (eA_ti (((gA_sI).trans ((hF1698.2.1 3 (by decide)).trans ((gA_sW_ne (by decide)).trans ((gA_sW_ne (by decide)).trans ((gA_sI).trans ((gA_sI).trans ((gA_sI).trans (gA_sI)))))))))).trans ?_; refine ((q1666 (i) (by omega) (by omega))).trans ?_; (first | rfl | exact eA_ix (by omega) | omega)) (fun k63_ => by refine Eq.trans ?_ (if_neg k63_).symm; exact (Decidable.em (a1.toInt = 1 ∧ (eA g0 173 1).toInt ≠ 0)).elim (fun k64_ => by refine Eq.trans ?_ (if_pos k64_).symm; refine (eA_ti (((gA_sI).trans ((hF1698.2.1 3 (by decide)).trans ((gA_sW_ne (by decide)).trans ((gA_sW_ne (by decide)).trans ((gA_sI).trans ((gA_sI).trans ((gA_sI).trans (gA_sI)))))))))).trans ?_; refine ((q1666 (i) (by omega) (by omega))).trans ?_; (first | rfl | exact eA_ix (by omega) | omega)) (fun k64_ => by refine Eq.trans ?_ (if_neg k64_).symm; refine (eA_ti (((gA_sI).trans ((hF1698.2.1 3 (by decide)).trans ((gA_sW_ne (by decide)).trans ((gA_sW_ne (by decide)).trans ((gA_sI).trans ((gA_sI).trans ((gA_sI).trans (gA_sI)))))))))).trans ?_; refine ((q1666 (i) (by omega) (by omega))).trans ?_; (first | rfl | exact eA_ix (by omega) | omega)))), (by intro i i0 i1; exact (Decidable.em (a1.toInt = 0 ∧ (eA g0 173 0).toInt ≠ 0)).elim (fun k65_ => by refine Eq.trans ?_ (if_pos k65_).symm; refine (eA_ti (((gA_sI).trans ((hF1698.2.1 4 (by decide)).trans ((gA_sW_ne (by decide)).trans ((gA_sW_ne (by decide)).trans ((gA_sI).trans ((gA_sI).trans ((gA_sI).trans (gA_sI)))))))))).trans ?_; refine ((q1667 (i) (by omega) (by omega))).trans ?_; (first | rfl | exact eA_ix (by omega) | omega)) (fun k65_ => by refine Eq.trans ?_ (if_neg k65_).symm; exact (Decidable.em (a1.toInt = 1 ∧ (eA g0 173 1).toInt ≠ 0)).elim (fun k66_ => by refine Eq.trans ?_ (if_pos k66_).symm; refine (eA_ti (((gA_sI).trans ((hF1698.2.1 4 (by decide)).trans ((gA_sW_ne (by decide)).trans ((gA_sW_ne (by decide)).trans ((gA_sI).trans ((gA_sI).trans ((gA_sI).trans (gA_sI)))))))))).trans ?_; refine ((q1667 (i) (by omega) (by omega))).trans ?_; (first | rfl | exact eA_ix (by omega) | omega)) (fun k66_ => by refine Eq.trans ?_ (if_neg k66_).symm; refine (eA_ti (((gA_sI).trans ((hF1698.2.1 4 (by decide)).trans ((gA_sW_ne (by decide)).trans ((gA_sW_ne (by decide)).trans ((gA_sI).trans ((gA_sI).trans ((gA_sI).trans (gA_sI)))))))))).trans ?_; refine ((q1667 (i) (by omega) (by omega))).trans ?_; (first | rfl | exact eA_ix (by omega) | omega)))), (by intro i i0 i1; exact (Decidable.em (a1.toInt = 0 ∧ (eA g0 173 0).toInt ≠ 0)).elim (fun k67_ => by refine Eq.trans ?_ (if_pos k67_).symm; refine (eA_tq (((gA_sI).trans ((hF1698.2.1 14 (by decide)).trans ((gA_sW_ne (by decide)).trans ((gA_cpF hI1684.1 ka_72 ka_14 (by decide) (by decide) (by decide)).trans ((gA_sI).trans ((gA_sI).trans ((gA_sI).trans ((gA_sI).trans (hF1656.2.1 72 (by decide)))))))))))).trans ?_; (first | rfl | exact eA_ix (by omega) | omega)) (fun k67_ => by refine Eq.trans ?_ (if_neg k67_).symm; exact (Decidable.em (a1.toInt = 1 ∧ (eA g0 173 1).toInt ≠ 0)).elim (fun k68_ => by refine Eq.trans ?_ (if_pos k68_).symm; refine (eA_tq (((gA_sI).trans ((hF1698.2.1 14 (by decide)).trans ((gA_sW_ne (by decide)).trans ((gA_cpF hI1684.1 ka_72 ka_14 (by decide) (by decide) (by decide)).trans ((gA_sI).trans ((gA_sI).trans ((gA_sI).trans ((gA_sI).trans (hF1656.2.1 72 (by decide)))))))))))).trans ?_; (first | rfl | exact eA_ix (by omega) | omega)) (fun k68_ => by refine Eq.trans ?_ (if_neg k68_).symm; refine (eA_tq (((gA_sI).trans ((hF1698.2.1 14 (by decide)).trans ((gA_sW_ne (by decide)).trans ((gA_cpF hI1684.1 ka_72 ka_14 (by decide) (by decide) (by decide)).trans ((gA_sI).trans ((gA_sI).trans ((gA_sI).trans ((gA_sI).trans (hF1656.2.1 72 (by decide)))))))))))).trans ?_; (first | rfl | exact eA_ix (by omega) | omega)))), (by intro i i0 i1; exact (Decidable.em (a1.toInt = 0 ∧ (eA g0 173 0).toInt ≠ 0)).elim (fun k69_ => by refine Eq.trans ?_ (if_pos k69_).symm; refine (eA_tq (((gA_sI).trans ((hF1698.2.1 15 (by decide)).trans ((gA_cpF hI1689.1 ka_73 ka_15 (by decide) (by decide) (by decide)).trans ((gA_sW_ne (by decide)).trans ((gA_sI).trans ((gA_sI).trans ((gA_sI).trans ((gA_sI).trans (hF1656.2.1 73 (by decide)))))))))))).trans ?_; (first | rfl | exact eA_ix (by omega) | omega)) (fun k69_ => by refine Eq.trans ?_ (if_neg k69_).symm; exact (Decidable.em (a1.toInt = 1 ∧ (eA g0 173 1).toInt ≠ 0)).elim (fun k70_ => by refine Eq.trans ?_ (if_pos k70_).symm; refine (eA_tq (((gA_sI).trans ((hF1698.2.1 15 (by decide)).trans ((gA_cpF hI1689.1 ka_73 ka_15 (by decide) (by decide) (by decide)).trans ((gA_sW_ne (by decide)).trans ((gA_sI).trans ((gA_sI).trans ((gA_sI).trans ((gA_sI).trans (hF1656.2.1 73 (by decide)))))))))))).trans ?_; (first | rfl | exact eA_ix (by omega) | omega)) (fun k70_ => by refine Eq.trans ?_ (if_neg k70_).symm; refine (eA_tq (((gA_sI).trans ((hF1698.2.1 15 (by decide)).trans ((gA_cpF hI1689.1 ka_73 ka_15 (by decide) (by decide) (by decide)).trans ((gA_sW_ne (by decide)).trans ((gA_sI).trans ((gA_sI).trans ((gA_sI).trans ((gA_sI).trans (hF1656.2.1 73 (by decide)))))))))))).trans ?_; (first | rfl | exact eA_ix (by omega) | omega))))⟩⟩
          · have c1673_ : x1653.toInt < 6 := en_i_ge_f c1673
            refine At.enter rfl ?_
            refine r_aload_n e1661 ?_
            refine r_iload_n e1663 ?_
            refine r_callV 97 rfl [.ref 1, .int x1653] [] (Nat.le_of_ble_eq_true rfl) rfl (T_X0_lawAt_1 _ hI1655 x1653) ?_
            rintro _ _ ⟨g1711, rfl, hI1712, hF1713, v1714, rfl, hr1715⟩
            refine At.str ?_
            have hF1716 := Fr.tr hF1656 hF1713 rfl rfl
            refine At.enter rfl ?_
            refine r_aload_n e1662 ?_
            refine r_iload_n e1663 ?_
            refine r_callV 102 rfl [.ref 59, .int x1653] [.ref (v1714)] (Nat.le_of_ble_eq_true rfl) rfl (T_X0_lawAt_59 _ hI1712 x1653) ?_
            rintro _ _ ⟨g1717, rfl, hI1718, hF1719, v1720, rfl, hr1721⟩
            refine At.str ?_
            have hF1722 := Fr.tr hF1716 hF1719 rfl rfl
            refine At.enter rfl ?_
            refine r_callV 105 rfl [.ref (v1714), .ref (v1720)] [] (Nat.le_of_ble_eq_true rfl) rfl (T_X4_become_law _ hI1718 (v1714) hr1715 (v1720) hr1721) ?_
            rintro _ _ ⟨g1723, rfl, hI1724, hF1725, rfl⟩
            refine At.stn ?_
            have hF1728 := Fr.tr hF1722 hF1725 rfl rfl
            refine At.enter rfl ?_
            refine q_iinc e1663 (x1653.toInt + 1) rfl (by omega) (fun v1729 hv1729 => ?_)
            refine r_goto ?_
            exact ih1659 (6 - v1729.toInt) _ _ ⟨v1729, by first | rfl | omega, hI1724, hF1728, (((hF1725.1 1 0 (by decide)).trans ((hF1719.1 1 0 (by decide)).trans (hF1713.1 1 0 (by decide)))).trans e1660), (w_p1 (by decide) (Or.inr rfl) e1661), (w_p1 (by decide) (Or.inr rfl) e1662), (w_e1 _ _ _), by omega, (by intro i i0 i1; refine (eA_ti (((hF1725.2.1 2 (by decide)).trans ((hF1719.2.1 2 (by decide)).trans (hF1713.2.1 2 (by decide)))))).trans ?_; refine ((q1665 (i) (by omega) (by omega))).trans ?_; (first | rfl | exact eA_ix (by omega) | omega)), (by intro i i0 i1; refine (eA_ti (((hF1725.2.1 3 (by decide)).trans ((hF1719.2.1 3 (by decide)).trans (hF1713.2.1 3 (by decide)))))).trans ?_; refine ((q1666 (i) (by omega) (by omega))).trans ?_; (first | rfl | exact eA_ix (by omega) | omega)), (by intro i i0 i1; refine (eA_ti (((hF1725.2.1 4 (by decide)).trans ((hF1719.2.1 4 (by decide)).trans (hF1713.2.1 4 (by decide)))))).trans ?_; refine ((q1667 (i) (by omega) (by omega))).trans ?_; (first | rfl | exact eA_ix (by omega) | omega)), (by intro i i0 i1; refine (eA_ti (((hF1725.2.1 14 (by decide)).trans ((hF1719.2.1 14 (by decide)).trans (hF1713.2.1 14 (by decide)))))).trans ?_; refine ((q1668 (i) (by omega) (by omega))).trans ?_; (first | rfl | exact eA_ix (by omega) | omega)), (by intro i i0 i1; refine (eA_ti (((hF1725.2.1 15 (by decide)).trans ((hF1719.2.1 15 (by decide)).trans (hF1713.2.1 15 (by decide)))))).trans ?_; refine ((q1669 (i) (by omega) (by omega))).trans ?_; (first | rfl | exact eA_ix (by omega) | omega))⟩ ⟨by omega, by omega⟩
        · have c1409_ : v1408.toInt = 0 := en_k_ne_f c1409
          refine At.enter rfl ?_
          refine r_aload_n rfl ?_
          refine r_bipush (-2) rfl ?_
          refine r_callV 31 rfl [.ref 0, .int (-2)] [] (Nat.le_of_ble_eq_true rfl) rfl (T_X10_refused_0 _ hI0 (-2) (by decide)) ?_
          rintro _ _ ⟨g1730, rfl, hI1731, hF1732, v1733, rfl, hr1734⟩
          refine At.sti ?_
          have hF1735 := Fr.tr hF0 hF1732 rfl rfl
          have zv1736 : ((-2) : Int32).toInt = (-2) := rfl
          refine At.enter rfl ?_
          refine r_ireti ?_
          obtain ⟨v1737, hv1737⟩ : ∃ v, gI g0 1 0 = v := ⟨_, rfl⟩
          have rv1737 := RgF.at hI0.2.1 (p := 1) (b := 0) rfl
          rw [hv1737] at rv1737
          dsimp only at rv1737
          have tv1737 := congrArg Int32.toInt hv1737
          have x1738 := HI.eqI hI0 (p := 1) (b := 0) (hv1737)
          obtain ⟨v1739, hv1739⟩ : ∃ v, gI g0 1 12 = v := ⟨_, rfl⟩
          have rv1739 := RgF.at hI0.2.1 (p := 1) (b := 12) rfl
          rw [hv1739] at rv1739
          dsimp only at rv1739
          have tv1739 := congrArg Int32.toInt hv1739
          have x1740 := HI.eqI hI0 (p := 1) (b := 12) (hv1739)
          obtain ⟨v1741, hv1741⟩ : ∃ v, gI g0 1 10 = v := ⟨_, rfl⟩
          have tv1741 := congrArg Int32.toInt hv1741
          have x1742 := HI.eqI hI0 (p := 1) (b := 10) (hv1741)
          obtain ⟨v1743, hv1743⟩ : ∃ v, gI g0 1 11 = v := ⟨_, rfl⟩
          have tv1743 := congrArg Int32.toInt hv1743
          have x1744 := HI.eqI hI0 (p := 1) (b := 11) (hv1743)
          obtain ⟨v1745, hv1745⟩ : ∃ v, gI g0 59 0 = v := ⟨_, rfl⟩
          have rv1745 := RgF.at hI0.2.1 (p := 59) (b := 0) rfl
          rw [hv1745] at rv1745
          dsimp only at rv1745
          have tv1745 := congrArg Int32.toInt hv1745
          have x1746 := HI.eqI hI0 (p := 59) (b := 0) (hv1745)
          obtain ⟨v1747, hv1747⟩ : ∃ v, gI g0 59 12 = v := ⟨_, rfl⟩
          have rv1747 := RgF.at hI0.2.1 (p := 59) (b := 12) rfl
          rw [hv1747] at rv1747
          dsimp only at rv1747
          have tv1747 := congrArg Int32.toInt hv1747
          have x1748 := HI.eqI hI0 (p := 59) (b := 12) (hv1747)
          obtain ⟨v1749, hv1749⟩ : ∃ v, gI g0 59 10 = v := ⟨_, rfl⟩
          have tv1749 := congrArg Int32.toInt hv1749
          have x1750 := HI.eqI hI0 (p := 59) (b := 10) (hv1749)
          obtain ⟨v1751, hv1751⟩ : ∃ v, gI g0 59 11 = v := ⟨_, rfl⟩
          have tv1751 := congrArg Int32.toInt hv1751
          have x1752 := HI.eqI hI0 (p := 59) (b := 11) (hv1751)
          obtain ⟨v1753, hv1753⟩ : ∃ v, gI g0 116 0 = v := ⟨_, rfl⟩
          have rv1753 := RgF.at hI0.2.1 (p := 116) (b := 0) rfl
          rw [hv1753] at rv1753
          dsimp only at rv1753
          have tv1753 := congrArg Int32.toInt hv1753
          have x1754 := HI.eqI hI0 (p := 116) (b := 0) (hv1753)
          obtain ⟨v1755, hv1755⟩ : ∃ v, gI g0 116 12 = v := ⟨_, rfl⟩
          have rv1755 := RgF.at hI0.2.1 (p := 116) (b := 12) rfl
          rw [hv1755] at rv1755
          dsimp only at rv1755
          have tv1755 := congrArg Int32.toInt hv1755
          have x1756 := HI.eqI hI0 (p := 116) (b := 12) (hv1755)
          obtain ⟨v1757, hv1757⟩ : ∃ v, gI g0 116 10 = v := ⟨_, rfl⟩
          have tv1757 := congrArg Int32.toInt hv1757
          have x1758 := HI.eqI hI0 (p := 116) (b := 10) (hv1757)
          obtain ⟨v1759, hv1759⟩ : ∃ v, gI g0 116 11 = v := ⟨_, rfl⟩
          have tv1759 := congrArg Int32.toInt hv1759
          have x1760 := HI.eqI hI0 (p := 116) (b := 11) (hv1759)
          obtain ⟨v1761, hv1761⟩ : ∃ v, eA g0 173 0 = v := ⟨_, rfl⟩
          have tv1761 := congrArg Int32.toInt hv1761
          have x1762 := HI.eqA hI0 (p := 173) (j := 0) (hv1761)
          have y1763 : (eA g0 173 0).toInt = v1408.toInt := by rw [← hv1408, show a1.toInt = 0 by omega]
          obtain ⟨v1764, hv1764⟩ : ∃ v, eA g0 173 1 = v := ⟨_, rfl⟩
          have tv1764 := congrArg Int32.toInt hv1764
          have x1765 := HI.eqA hI0 (p := 173) (j := 1) (hv1764)
          have y1766 : a1.toInt = 0 → (eA g0 173 0).toInt = v1408.toInt := fun e => by rw [← hv1408, e]
          have e : a1.toInt = 0 := by omega
          have z1767 := HI.eqI hI1731 (p := 1) (b := 0) (((hF1732.1 1 0 (by decide)).trans hv1737))
          have z1768 := HI.eqI hI1731 (p := 1) (b := 12) (((hF1732.1 1 12 (by decide)).trans hv1739))
          have z1769 := HI.eqI hI1731 (p := 1) (b := 10) (((hF1732.1 1 10 (by decide)).trans hv1741))
          have z1770 := HI.eqI hI1731 (p := 1) (b := 11) (((hF1732.1 1 11 (by decide)).trans hv1743))
          have x1771 := HI.eqA hI0 (p := 173) (j := 0) (hv1761)
          have y1772 : (eA g0 173 0).toInt = v1408.toInt := by rw [← hv1408, show a1.toInt = 0 by omega]
          have x1773 := HI.eqA hI0 (p := 173) (j := 1) (hv1764)
          exact ⟨_, rfl, hI1731, hF1735, _, rfl, by omega, ⟨⟨by omega, by omega, by omega, by omega, by omega⟩, (by intro i i0 i1; refine Eq.trans ?_ (if_neg (show ¬ (a1.toInt = 0 ∧ (eA g0 173 0).toInt ≠ 0) from by omega)).symm; refine Eq.trans ?_ (if_neg (show ¬ (a1.toInt = 1 ∧ (eA g0 173 1).toInt ≠ 0) from by omega)).symm; refine (eA_ti ((hF1732.2.1 2 (by decide)))).trans ?_; (first | rfl | exact eA_ix (by omega) | omega)), (by intro i i0 i1; refine Eq.trans ?_ (if_neg (show ¬ (a1.toInt = 0 ∧ (eA g0 173 0).toInt ≠ 0) from by omega)).symm; refine Eq.trans ?_ (if_neg (show ¬ (a1.toInt = 1 ∧ (eA g0 173 1).toInt ≠ 0) from by omega)).symm; refine (eA_ti ((hF1732.2.1 3 (by decide)))).trans ?_; (first | rfl | exact eA_ix (by omega) | omega)), (by intro i i0 i1; refine Eq.trans ?_ (if_neg (show ¬ (a1.toInt = 0 ∧ (eA g0 173 0).toInt ≠ 0) from by omega)).symm; refine Eq.trans ?_ (if_neg (show ¬ (a1.toInt = 1 ∧ (eA g0 173 1).toInt ≠ 0) from by omega)).symm; refine (eA_ti ((hF1732.2.1 4 (by decide)))).trans ?_; (first | rfl | exact eA_ix (by omega) | omega)), (by intro i i0 i1; refine Eq.trans ?_ (if_neg (show ¬ (a1.toInt = 0 ∧ (eA g0 173 0).toInt ≠ 0) from by omega)).symm; refine Eq.trans ?_ (if_neg (show ¬ (a1.toInt = 1 ∧ (eA g0 173 1).toInt ≠ 0) from by omega)).symm; refine (eA_ti ((hF1732.2.1 14 (by decide)))).trans ?_; (first | rfl | exact eA_ix (by omega) | omega)), (by intro i i0 i1; refine Eq.trans ?_ (if_neg (show ¬ (a1.toInt = 0 ∧ (eA g0 173 0).toInt ≠ 0) from by omega)).symm; refine Eq.trans ?_ (if_neg (show ¬ (a1.toInt = 1 ∧ (eA g0 173 1).toInt ≠ 0) from by omega)).symm; refine (eA_ti ((hF1732.2.1 15 (by decide)))).trans ?_; (first | rfl | exact eA_ix (by omega) | omega))⟩⟩
      have c1407_1 : a1.toInt = 1 := by omega
      refine q_aald (Sh.rar hI0.1 ka_58) (by decide) 1 (by omega) (by decide) (some 116) rfl ?_
      refine r_goto ?_
      refine At.enter rfl ?_
      refine q_aret ?_
      refine At.enter rfl ?_
      refine r_astore_n ([(2, .ref 116), (0, .ref 0), (1, .int a1)]) rfl ?_
      refine r_aload_n rfl ?_
      refine r_nnr ?_
      refine At.enter rfl ?_
      refine r_aload_n rfl ?_
      refine q_getR (Sh.ref hI0.1 kx_0 rfl) ?_
      refine r_iload_n rfl ?_
      obtain ⟨v1774, hv1774⟩ : ∃ v, eA g0 173 a1.toInt = v := ⟨_, rfl⟩
      refine q_bald (Sh.arr hI0.1 ka_173) a1.toInt rfl (by omega) v1774 hv1774 ?_
      refine r_ifs 25 rfl (fun c1775 => ?_) (fun c1775 => ?_)
      · have c1775_ : v1774.toInt ≠ 0 := en_k_ne_t c1775
        refine At.enter rfl ?_
        refine r_aload_n rfl ?_
        refine q_getR (Sh.ref hI0.1 kx_0 rfl) ?_
        refine r_aload_n rfl ?_
        refine q_inlV 40 rfl [.ref 1, .ref 116] [] (Nat.le_of_ble_eq_true rfl) rfl ?_
        refine Ev.mk rfl rfl ⟨Nat.le_of_ble_eq_true rfl, Or.inr (q_rc hI0.1 kx_1 rfl)⟩ ?_
        show At _ none _ _ (0, [(0, .ref 1), (1, .ref 116)], [], (_, _)) _
        refine At.enter rfl ?_
        refine r_aload_n rfl ?_
        refine r_aload_n rfl ?_
        obtain ⟨v1776, hv1776⟩ : ∃ v, gI g0 116 0 = v := ⟨_, rfl⟩
        have rv1776 := RgF.at hI0.2.1 (p := 116) (b := 0) rfl
        rw [hv1776] at rv1776
        dsimp only at rv1776
        refine q_getI (Sh.int hI0.1 kx_116 rfl) v1776 hv1776 ?_
        refine q_putI (Sh.int hI0.1 kx_1 rfl) rfl ?_
        have hI1777 := HI.wI1 hI0 kx_1 rfl (p := 1) (b := 0) (v := v1776) rfl (by dsimp only; omega)
        have hF1778 := Fr.wI (p := 1) (b := 0) (v := v1776) hF0 rfl
        refine r_aload_n rfl ?_
        refine q_getR (Sh.ref hI1777.1 kx_116 rfl) ?_
        refine r_iconst 0 rfl ?_
        refine r_aload_n rfl ?_
        refine q_getR (Sh.ref hI1777.1 kx_1 rfl) ?_
        refine r_iconst 0 rfl ?_
        refine r_bipush 12 rfl ?_
        have zv1779 : (0 : Int32).toInt = 0 := rfl
        have zv1780 : (0 : Int32).toInt = 0 := rfl
        have zv1781 : (12 : Int32).toInt = 12 := rfl
        refine q_cpy rfl (Nat.le_of_ble_eq_true rfl) (Sh.arr hI1777.1 ka_117) (Sh.arr hI1777.1 ka_2) ⟨by omega, by omega, by omega, by omega, by omega⟩ ?_
        have hI1782 := HI.cpy0 hI1777 ka_117 ka_2 rfl rfl ((0 : Int32).toInt.toNat) ((0 : Int32).toInt.toNat) ((12 : Int32).toInt.toNat) (by omega) (by omega)
        have hF1783 := Fr.cpy (p0 := 117) (p1 := 2) hF1778 rfl ((0 : Int32).toInt.toNat) ((0 : Int32).toInt.toNat) ((12 : Int32).toInt.toNat)
        refine r_aload_n rfl ?_
        refine q_getR (Sh.ref hI1782.1 kx_116 rfl) ?_
        refine r_iconst 0 rfl ?_
        refine r_aload_n rfl ?_
        refine q_getR (Sh.ref hI1782.1 kx_1 rfl) ?_
        refine r_iconst 0 rfl ?_
        refine r_bipush 12 rfl ?_
        have zv1784 : (0 : Int32).toInt = 0 := rfl
        have zv1785 : (0 : Int32).toInt = 0 := rfl
        have zv1786 : (12 : Int32).toInt = 12 := rfl
        refine q_cpy rfl (Nat.le_of_ble_eq_true rfl) (Sh.arr hI1782.1 ka_118) (Sh.arr hI1782.1 ka_3) ⟨by omega, by omega, by omega, by omega, by omega⟩ ?_
        have hI1787 := HI.cpy0 hI1782 ka_118 ka_3 rfl rfl ((0 : Int32).toInt.toNat) ((0 : Int32).toInt.toNat) ((12 : Int32).toInt.toNat) (by omega) (by omega)
        have hF1788 := Fr.cpy (p0 := 118) (p1 := 3) hF1783 rfl ((0 : Int32).toInt.toNat) ((0 : Int32).toInt.toNat) ((12 : Int32).toInt.toNat)
        refine r_aload_n rfl ?_
        refine q_getR (Sh.ref hI1787.1 kx_116 rfl) ?_
        refine r_iconst 0 rfl ?_
        refine r_aload_n rfl ?_
        refine q_getR (Sh.ref hI1787.1 kx_1 rfl) ?_
        refine r_iconst 0 rfl ?_
        refine r_bipush 12 rfl ?_
        have zv1789 : (0 : Int32).toInt = 0 := rfl
        have zv1790 : (0 : Int32).toInt = 0 := rfl
        have zv1791 : (12 : Int32).toInt = 12 := rfl
        refine q_cpy rfl (Nat.le_of_ble_eq_true rfl) (Sh.arr hI1787.1 ka_119) (Sh.arr hI1787.1 ka_4) ⟨by omega, by omega, by omega, by omega, by omega⟩ ?_
        have hI1792 := HI.cpy0 hI1787 ka_119 ka_4 rfl rfl ((0 : Int32).toInt.toNat) ((0 : Int32).toInt.toNat) ((12 : Int32).toInt.toNat) (by omega) (by omega)
        have hF1793 := Fr.cpy (p0 := 119) (p1 := 4) hF1788 rfl ((0 : Int32).toInt.toNat) ((0 : Int32).toInt.toNat) ((12 : Int32).toInt.toNat)
        refine r_aload_n rfl ?_
        refine r_aload_n rfl ?_
        obtain ⟨v1794, hv1794⟩ : ∃ v, gI g0 116 4 = v := ⟨_, rfl⟩
        have rv1794 := RgF.at hI0.2.1 (p := 116) (b := 4) rfl
        rw [hv1794] at rv1794
        dsimp only at rv1794
        refine q_getI (Sh.int hI1792.1 kx_116 rfl) v1794 (((gI_sW).trans ((gI_sW).trans ((gI_sW).trans (gI_sI_ne (by decide))))).trans hv1794) ?_
        refine q_putI (Sh.int hI1792.1 kx_1 rfl) rfl ?_
        have hI1795 := HI.wI1 hI1792 kx_1 rfl (p := 1) (b := 4) (v := v1794) rfl (by dsimp only; omega)
        have hF1796 := Fr.wI (p := 1) (b := 4) (v := v1794) hF1793 rfl
        refine r_aload_n rfl ?_
        refine q_getR (Sh.ref hI1795.1 kx_116 rfl) ?_
        refine r_iconst 0 rfl ?_
        refine r_aload_n rfl ?_
        refine q_getR (Sh.ref hI1795.1 kx_1 rfl) ?_
        refine r_iconst 0 rfl ?_
        refine r_bipush 48 rfl ?_
        have zv1797 : (0 : Int32).toInt = 0 := rfl
        have zv1798 : (0 : Int32).toInt = 0 := rfl
        have zv1799 : (48 : Int32).toInt = 48 := rfl
        refine q_cpy rfl (Nat.le_of_ble_eq_true rfl) (Sh.arr hI1795.1 ka_120) (Sh.arr hI1795.1 ka_5) ⟨by omega, by omega, by omega, by omega, by omega⟩ ?_
        have hI1800 := HI.cpy0 hI1795 ka_120 ka_5 rfl rfl ((0 : Int32).toInt.toNat) ((0 : Int32).toInt.toNat) ((48 : Int32).toInt.toNat) (by omega) (by omega)
        have hF1801 := Fr.cpy (p0 := 120) (p1 := 5) hF1796 rfl ((0 : Int32).toInt.toNat) ((0 : Int32).toInt.toNat) ((48 : Int32).toInt.toNat)
        refine r_aload_n rfl ?_
        refine r_aload_n rfl ?_
        obtain ⟨v1802, hv1802⟩ : ∃ v, gI g0 116 6 = v := ⟨_, rfl⟩
        have rv1802 := RgF.at hI0.2.1 (p := 116) (b := 6) rfl
        rw [hv1802] at rv1802
        dsimp only at rv1802
        refine q_getI (Sh.int hI1800.1 kx_116 rfl) v1802 (((gI_sW).trans ((gI_sI_ne (by decide)).trans ((gI_sW).trans ((gI_sW).trans ((gI_sW).trans (gI_sI_ne (by decide))))))).trans hv1802) ?_
        refine q_putI (Sh.int hI1800.1 kx_1 rfl) rfl ?_
        have hI1803 := HI.wI1 hI1800 kx_1 rfl (p := 1) (b := 6) (v := v1802) rfl (by dsimp only; omega)
        have hF1804 := Fr.wI (p := 1) (b := 6) (v := v1802) hF1801 rfl
        refine r_iconst 0 rfl ?_
        refine r_istore_n ([(2, .int 0), (0, .ref 1), (1, .ref 116)]) rfl ?_
        refine Ar.fall 86 rfl ?_
        have z_2036 : (0 : Int32).toInt = 0 := rfl
        refine w_loopI (fun n_ l_ g_ => ∃ x2019 : Int32, n_ = 6 - x2019.toInt ∧ HI g_ ∧ Fr F_X10_back_0 A_X10_back_0 g0 g_ ∧ gI g_ 1 0 = v1776 ∧ en_get 0 l_ = some (.ref 1) ∧ en_get 1 l_ = some (.ref 116) ∧ en_get 2 l_ = some (.int x2019) ∧ (0 ≤ x2019.toInt ∧ x2019.toInt ≤ 6) ∧ (∀ i : Int, 0 ≤ i → i < 12 → (eA g_ 2 (i)).toInt = (eA g0 117 (i)).toInt) ∧ (∀ i : Int, 0 ≤ i → i < 12 → (eA g_ 3 (i)).toInt = (eA g0 118 (i)).toInt) ∧ (∀ i : Int, 0 ≤ i → i < 12 → (eA g_ 4 (i)).toInt = (eA g0 119 (i)).toInt) ∧ (∀ i : Int, 0 ≤ i → i < 8 → (eA g_ 14 (i)).toInt = (eA g0 14 (i)).toInt) ∧ (∀ i : Int, 0 ≤ i → i < 8 → (eA g_ 15 (i)).toInt = (eA g0 15 (i)).toInt)) ?_ (6 - 0) ⟨0, by first | rfl | omega, hI1803, hF1804, ((gI_sI_ne (by decide)).trans ((gI_sW).trans ((gI_sI_ne (by decide)).trans ((gI_sW).trans ((gI_sW).trans ((gI_sW).trans (gI_sI_eq hI0.1 kx_1 rfl _))))))), rfl, rfl, rfl, by decide, (by intro i i0 i1; refine (eA_tq (((gA_sI).trans ((gA_sW_ne (by decide)).trans ((gA_sI).trans ((gA_sW_ne (by decide)).trans ((gA_sW_ne (by decide)).trans ((gA_cpF hI1777.1 ka_117 ka_2 (by decide) (by decide) (by decide)).trans (gA_sI))))))))).trans ?_; (first | rfl | exact eA_ix (by omega) | omega)), (by intro i i0 i1; refine (eA_tq (((gA_sI).trans ((gA_sW_ne (by decide)).trans ((gA_sI).trans ((gA_sW_ne (by decide)).trans ((gA_cpF hI1782.1 ka_118 ka_3 (by decide) (by decide) (by decide)).trans ((gA_sW_ne (by decide)).trans (gA_sI))))))))).trans ?_; (first | rfl | exact eA_ix (by omega) | omega)), (by intro i i0 i1; refine (eA_tq (((gA_sI).trans ((gA_sW_ne (by decide)).trans ((gA_sI).trans ((gA_cpF hI1787.1 ka_119 ka_4 (by decide) (by decide) (by decide)).trans ((gA_sW_ne (by decide)).trans ((gA_sW_ne (by decide)).trans (gA_sI))))))))).trans ?_; (first | rfl | exact eA_ix (by omega) | omega)), (by intro i i0 i1; refine (eA_ti (((gA_sI).trans ((gA_sW_ne (by decide)).trans ((gA_sI).trans ((gA_sW_ne (by decide)).trans ((gA_sW_ne (by decide)).trans ((gA_sW_ne (by decide)).trans (gA_sI))))))))).trans ?_; (first | rfl | exact eA_ix (by omega) | omega)), (by intro i i0 i1; refine (eA_ti (((gA_sI).trans ((gA_sW_ne (by decide)).trans ((gA_sI).trans ((gA_sW_ne (by decide)).trans ((gA_sW_ne (by decide)).trans ((gA_sW_ne (by decide)).trans (gA_sI))))))))).trans ?_; (first | rfl | exact eA_ix (by omega) | omega))⟩
        rintro n2024 l2023 g2020 ⟨x2019, hm2037, hI2021, hF2022, e2026, e2027, e2028, e2029, r2030, q2031, q2032, q2033, q2034, q2035⟩ ih2025
        have tv2038 := congrArg Int32.toInt e2026
        refine At.enter rfl ?_
        refine r_iload_n e2029 ?_
        refine r_bipush 6 rfl ?_
        refine r_ics 92 rfl (fun c2039 => ?_) (fun c2039 => ?_)
        · have c2039_ : x2019.toInt ≥ 6 := en_i_ge_t c2039
          refine At.enter rfl ?_
          refine r_aload_n e2027 ?_
          refine r_aload_n e2028 ?_
          obtain ⟨v2040, hv2040⟩ : ∃ v, gI g0 116 9 = v := ⟨_, rfl⟩
          refine q_getI (Sh.int hI2021.1 kx_116 rfl) v2040 ((hF2022.1 116 9 (by decide)).trans hv2040) ?_
          refine q_putI (Sh.int hI2021.1 kx_1 rfl) rfl ?_
          have hI2041 := HI.wI0 hI2021 kx_1 rfl (p := 1) (b := 9) (v := v2040) rfl
          have hF2042 := Fr.wI (p := 1) (b := 9) (v := v2040) hF2022 rfl
          refine r_aload_n e2027 ?_
          refine r_aload_n e2028 ?_
          obtain ⟨v2043, hv2043⟩ : ∃ v, gI g0 116 10 = v := ⟨_, rfl⟩
          refine q_getI (Sh.int hI2041.1 kx_116 rfl) v2043 (((gI_sI_ne (by decide)).trans (hF2022.1 116 10 (by decide))).trans hv2043) ?_
          refine q_putI (Sh.int hI2041.1 kx_1 rfl) rfl ?_
          have hI2044 := HI.wI0 hI2041 kx_1 rfl (p := 1) (b := 10) (v := v2043) rfl
          have hF2045 := Fr.wI (p := 1) (b := 10) (v := v2043) hF2042 rfl
          refine r_aload_n e2027 ?_
          refine r_aload_n e2028 ?_
          obtain ⟨v2046, hv2046⟩ : ∃ v, gI g0 116 11 = v := ⟨_, rfl⟩
          refine q_getI (Sh.int hI2044.1 kx_116 rfl) v2046 (((gI_sI_ne (by decide)).trans ((gI_sI_ne (by decide)).trans (hF2022.1 116 11 (by decide)))).trans hv2046) ?_
          refine q_putI (Sh.int hI2044.1 kx_1 rfl) rfl ?_
          have hI2047 := HI.wI0 hI2044 kx_1 rfl (p := 1) (b := 11) (v := v2046) rfl
          have hF2048 := Fr.wI (p := 1) (b := 11) (v := v2046) hF2045 rfl
          refine r_aload_n e2027 ?_
          refine r_aload_n e2028 ?_
          obtain ⟨v2049, hv2049⟩ : ∃ v, gI g0 116 12 = v := ⟨_, rfl⟩
          have rv2049 := RgF.at hI0.2.1 (p := 116) (b := 12) rfl
          rw [hv2049] at rv2049
          dsimp only at rv2049
          refine q_getI (Sh.int hI2047.1 kx_116 rfl) v2049 (((gI_sI_ne (by decide)).trans ((gI_sI_ne (by decide)).trans ((gI_sI_ne (by decide)).trans (hF2022.1 116 12 (by decide))))).trans hv2049) ?_
          refine q_putI (Sh.int hI2047.1 kx_1 rfl) rfl ?_
          have hI2050 := HI.wI1 hI2047 kx_1 rfl (p := 1) (b := 12) (v := v2049) rfl (by dsimp only; omega)
          have hF2051 := Fr.wI (p := 1) (b := 12) (v := v2049) hF2048 rfl
          refine r_aload_n e2028 ?_
          refine q_getR (Sh.ref hI2050.1 kx_116 rfl) ?_
          refine r_iconst 0 rfl ?_
          refine r_aload_n e2027 ?_
          refine q_getR (Sh.ref hI2050.1 kx_1 rfl) ?_
          refine r_iconst 0 rfl ?_
          refine r_bipush 8 rfl ?_
          have zv2052 : (0 : Int32).toInt = 0 := rfl
          have zv2053 : (0 : Int32).toInt = 0 := rfl
          have zv2054 : (8 : Int32).toInt = 8 := rfl
          refine q_cpy rfl (Nat.le_of_ble_eq_true rfl) (Sh.arr hI2050.1 ka_129) (Sh.arr hI2050.1 ka_14) ⟨by omega, by omega, by omega, by omega, by omega⟩ ?_
          have hI2055 := HI.cpy0 hI2050 ka_129 ka_14 rfl rfl ((0 : Int32).toInt.toNat) ((0 : Int32).toInt.toNat) ((8 : Int32).toInt.toNat) (by omega) (by omega)
          have hF2056 := Fr.cpy (p0 := 129) (p1 := 14) hF2051 rfl ((0 : Int32).toInt.toNat) ((0 : Int32).toInt.toNat) ((8 : Int32).toInt.toNat)
          refine r_aload_n e2028 ?_
          refine q_getR (Sh.ref hI2055.1 kx_116 rfl) ?_
          refine r_iconst 0 rfl ?_
          refine r_aload_n e2027 ?_
          refine q_getR (Sh.ref hI2055.1 kx_1 rfl) ?_
          refine r_iconst 0 rfl ?_
          refine r_bipush 8 rfl ?_
          have zv2057 : (0 : Int32).toInt = 0 := rfl
          have zv2058 : (0 : Int32).toInt = 0 := rfl
          have zv2059 : (8 : Int32).toInt = 8 := rfl
          refine q_cpy rfl (Nat.le_of_ble_eq_true rfl) (Sh.arr hI2055.1 ka_130) (Sh.arr hI2055.1 ka_15) ⟨by omega, by omega, by omega, by omega, by omega⟩ ?_
          have hI2060 := HI.cpy0 hI2055 ka_130 ka_15 rfl rfl ((0 : Int32).toInt.toNat) ((0 : Int32).toInt.toNat) ((8 : Int32).toInt.toNat) (by omega) (by omega)
          have hF2061 := Fr.cpy (p0 := 130) (p1 := 15) hF2056 rfl ((0 : Int32).toInt.toNat) ((0 : Int32).toInt.toNat) ((8 : Int32).toInt.toNat)
          refine q_vret ?_
          refine At.enter rfl ?_
          refine r_aload_n rfl ?_
          refine r_callV 44 rfl [.ref 0] [] (Nat.le_of_ble_eq_true rfl) rfl (T_X10_changed_0 _ hI2060) ?_
          rintro _ _ ⟨g2062, rfl, hI2063, hF2064, rfl⟩
          refine At.stn ?_
          have hF2067 := Fr.tr hF2061 hF2064 rfl rfl
          refine At.enter rfl ?_
          refine r_aload_n rfl ?_
          refine r_iconst 0 rfl ?_
          refine q_inlV 49 rfl [.ref 0, .int 0] [] (Nat.le_of_ble_eq_true rfl) rfl ?_
          refine Ev.mk rfl rfl ⟨Nat.le_of_ble_eq_true rfl, Or.inr (q_rc hI2063.1 kx_0 rfl)⟩ ?_
          show At _ none _ _ (0, [(0, .ref 0), (1, .int 0)], [], (_, _)) _
          refine At.enter rfl ?_
          refine r_aload_n rfl ?_
          refine r_iconst 0 rfl ?_
          refine q_putI (Sh.int hI2063.1 kx_0 rfl) rfl ?_
          have hI2068 := HI.wI0 hI2063 kx_0 rfl (p := 0) (b := 17) (v := 0) rfl
          have hF2069 := Fr.wI (p := 0) (b := 17) (v := 0) hF2067 rfl
          refine r_iload_n rfl ?_
          refine q_ireti ?_
          refine At.enter rfl ?_
          refine r_ireti ?_
          have zv2070 : (0 : Int32).toInt = 0 := rfl
          have e : a1.toInt = 1 := by omega
          have k2071_ : (eA g0 173 1).toInt = v1774.toInt := by rw [← hv1774, e]
          have k2071 : (eA g0 173 1).toInt ≠ 0 := by omega
          obtain ⟨v2072, hv2072⟩ : ∃ v, eA g0 173 0 = v := ⟨_, rfl⟩
          have tv2072 := congrArg Int32.toInt hv2072
          have x2073 := HI.eqA hI0 (p := 173) (j := 0) (hv2072)
          obtain ⟨v2074, hv2074⟩ : ∃ v, eA g0 173 1 = v := ⟨_, rfl⟩
          have tv2074 := congrArg Int32.toInt hv2074
          have x2075 := HI.eqA hI0 (p := 173) (j := 1) (hv2074)
          have y2076 : (eA g0 173 1).toInt = v1774.toInt := by rw [← hv1774, show a1.toInt = 1 by omega]
          exact ⟨_, rfl, hI2068, hF2069, _, rfl, by decide, ⟨⟨(fun h => absurd (e.symm.trans h.1) (by decide)), (fun _ => ⟨(by first | rfl | decide), (HI.eqI hI2068 (p := 1) (b := 0) ((((gI_sI_ne (by decide)).trans ((hF2064.1 1 0 (by decide)).trans ((gI_sW).trans ((gI_sW).trans ((gI_sI_ne (by decide)).trans ((gI_sI_ne (by decide)).trans ((gI_sI_ne (by decide)).trans (gI_sI_ne (by decide))))))))).trans e2026))).trans (HI.eqI hI0 (p := 116) (b := 0) (hv1776)).symm, (HI.eqI hI2068 (p := 1) (b := 12) (((gI_sI_ne (by decide)).trans ((hF2064.1 1 12 (by decide)).trans ((gI_sW).trans ((gI_sW).trans (gI_sI_eq hI2047.1 kx_1 rfl _))))))).trans (HI.eqI hI0 (p := 116) (b := 12) (hv2049)).symm, (HI.eqI hI2068 (p := 1) (b := 10) (((gI_sI_ne (by decide)).trans ((hF2064.1 1 10 (by decide)).trans ((gI_sW).trans ((gI_sW).trans ((gI_sI_ne (by decide)).trans ((gI_sI_ne (by decide)).trans (gI_sI_eq hI2041.1 kx_1 rfl _))))))))).trans (HI.eqI hI0 (p := 116) (b := 10) (hv2043)).symm, (HI.eqI hI2068 (p := 1) (b := 11) (((gI_sI_ne (by decide)).trans ((hF2064.1 1 11 (by decide)).trans ((gI_sW).trans ((gI_sW).trans ((gI_sI_ne (by decide)).trans (gI_sI_eq hI2044.1 kx_1 rfl _)))))))).trans (HI.eqI hI0 (p := 116) (b := 11) (hv2046)).symm⟩), (fun h => absurd ⟨e, k2071⟩ h.2), (fun h => False.elim (by omega)), (fun h => absurd ⟨e, k2071⟩ h.2.2.2)⟩, (by intro i i0 i1; exact (Decidable.em (a1.toInt = 0 ∧ (eA g0 173 0).toInt ≠ 0)).elim (fun k71_ => by refine Eq.trans ?_ (if_pos k71_).symm; refine (eA_ti (((gA_sI).trans ((hF2064.2.1 2 (by decide)).trans ((gA_sW_ne (by decide)).trans ((gA_sW_ne (by decide)).trans ((gA_sI).trans ((gA_sI).trans ((gA_sI).trans (gA_sI)))))))))).trans ?_; refine ((q2031 (i) (by omega) (by omega))).trans ?_; (first | rfl | exact eA_ix (by omega) | omega)) (fun k71_ => by refine Eq.trans ?_ (if_neg k71_).symm; exact (Decidable.em (a1.toInt = 1 ∧ (eA g0 173 1).toInt ≠ 0)).elim (fun k72_ => by refine Eq.trans ?_ (if_pos k72_).symm; refine (eA_ti (((gA_sI).trans ((hF2064.2.1 2 (by decide)).trans ((gA_sW_ne (by decide)).trans ((gA_sW_ne (by decide)).trans ((gA_sI).trans ((gA_sI).trans ((gA_sI).trans (gA_sI)))))))))).trans ?_; refine ((q2031 (i) (by omega) (by omega))).trans ?_; (first | rfl | exact eA_ix (by omega) | omega)) (fun k72_ => by refine Eq.trans ?_ (if_neg k72_).symm; refine (eA_ti (((gA_sI).trans ((hF2064.2.1 2 (by decide)).trans ((gA_sW_ne (by decide)).trans ((gA_sW_ne (by decide)).trans ((gA_sI).trans ((gA_sI).trans ((gA_sI).trans (gA_sI)))))))))).trans ?_; refine ((q2031 (i) (by omega) (by omega))).trans ?_; (first | rfl | exact eA_ix (by omega) | omega)))), (by intro i i0 i1; exact (Decidable.em (a1.toInt = 0 ∧ (eA g0 173 0).toInt ≠ 0)).elim (fun k73_ => by refine Eq.trans ?_ (if_pos k73_).symm; refine (eA_ti (((gA_sI).trans ((hF2064.2.1 3 (by decide)).trans ((gA_sW_ne (by decide)).trans ((gA_sW_ne (by decide)).trans ((gA_sI).trans ((gA_sI).trans ((gA_sI).trans (gA_sI)))))))))).trans ?_; refine ((q2032 (i) (by omega) (by omega))).trans ?_; (first | rfl | exact eA_ix (by omega) | omega)) (fun k73_ => by refine Eq.trans ?_ (if_neg k73_).symm; exact (Decidable.em (a1.toInt = 1 ∧ (eA g0 173 1).toInt ≠ 0)).elim (fun k74_ => by refine Eq.trans ?_ (if_pos k74_).symm; refine (eA_ti (((gA_sI).trans ((hF2064.2.1 3 (by decide)).trans ((gA_sW_ne (by decide)).trans ((gA_sW_ne (by decide)).trans ((gA_sI).trans ((gA_sI).trans ((gA_sI).trans (gA_sI)))))))))).trans ?_; refine ((q2032 (i) (by omega) (by omega))).trans ?_; (first | rfl | exact eA_ix (by omega) | omega)) (fun k74_ => by refine Eq.trans ?_ (if_neg k74_).symm; refine (eA_ti (((gA_sI).trans ((hF2064.2.1 3 (by decide)).trans ((gA_sW_ne (by decide)).trans ((gA_sW_ne (by decide)).trans ((gA_sI).trans ((gA_sI).trans ((gA_sI).trans (gA_sI)))))))))).trans ?_; refine ((q2032 (i) (by omega) (by omega))).trans ?_; (first | rfl | exact eA_ix (by omega) | omega)))), (by intro i i0 i1; exact (Decidable.em (a1.toInt = 0 ∧ (eA g0 173 0).toInt ≠ 0)).elim (fun k75_ => by refine Eq.trans ?_ (if_pos k75_).symm; refine (eA_ti (((gA_sI).trans ((hF2064.2.1 4 (by decide)).trans ((gA_sW_ne (by decide)).trans ((gA_sW_ne (by decide)).trans ((gA_sI).trans ((gA_sI).trans ((gA_sI).trans (gA_sI)))))))))).trans ?_; refine ((q2033 (i) (by omega) (by omega))).trans ?_; (first | rfl | exact eA_ix (by omega) | omega)) (fun k75_ => by refine Eq.trans ?_ (if_neg k75_).symm; exact (Decidable.em (a1.toInt = 1 ∧ (eA g0 173 1).toInt ≠ 0)).elim (fun k76_ => by refine Eq.trans ?_ (if_pos k76_).symm; refine (eA_ti (((gA_sI).trans ((hF2064.2.1 4 (by decide)).trans ((gA_sW_ne (by decide)).trans ((gA_sW_ne (by decide)).trans ((gA_sI).trans ((gA_sI).trans ((gA_sI).trans (gA_sI)))))))))).trans ?_; refine ((q2033 (i) (by omega) (by omega))).trans ?_; (first | rfl | exact eA_ix (by omega) | omega)) (fun k76_ => by refine Eq.trans ?_ (if_neg k76_).symm; refine (eA_ti (((gA_sI).trans ((hF2064.2.1 4 (by decide)).trans ((gA_sW_ne (by decide)).trans ((gA_sW_ne (by decide)).trans ((gA_sI).trans ((gA_sI).trans ((gA_sI).trans (gA_sI)))))))))).trans ?_; refine ((q2033 (i) (by omega) (by omega))).trans ?_; (first | rfl | exact eA_ix (by omega) | omega)))), (by intro i i0 i1; exact (Decidable.em (a1.toInt = 0 ∧ (eA g0 173 0).toInt ≠ 0)).elim (fun k77_ => by refine Eq.trans ?_ (if_pos k77_).symm; refine (eA_tq (((gA_sI).trans ((hF2064.2.1 14 (by decide)).trans ((gA_sW_ne (by decide)).trans ((gA_cpF hI2050.1 ka_129 ka_14 (by decide) (by decide) (by decide)).trans ((gA_sI).trans ((gA_sI).trans ((gA_sI).trans ((gA_sI).trans (hF2022.2.1 129 (by decide)))))))))))).trans ?_; (first | rfl | exact eA_ix (by omega) | omega)) (fun k77_ => by refine Eq.trans ?_ (if_neg k77_).symm; exact (Decidable.em (a1.toInt = 1 ∧ (eA g0 173 1).toInt ≠ 0)).elim (fun k78_ => by refine Eq.trans ?_ (if_pos k78_).symm; refine (eA_tq (((gA_sI).trans ((hF2064.2.1 14 (by decide)).trans ((gA_sW_ne (by decide)).trans ((gA_cpF hI2050.1 ka_129 ka_14 (by decide) (by decide) (by decide)).trans ((gA_sI).trans ((gA_sI).trans ((gA_sI).trans ((gA_sI).trans (hF2022.2.1 129 (by decide)))))))))))).trans ?_; (first | rfl | exact eA_ix (by omega) | omega)) (fun k78_ => by refine Eq.trans ?_ (if_neg k78_).symm; refine (eA_tq (((gA_sI).trans ((hF2064.2.1 14 (by decide)).trans ((gA_sW_ne (by decide)).trans ((gA_cpF hI2050.1 ka_129 ka_14 (by decide) (by decide) (by decide)).trans ((gA_sI).trans ((gA_sI).trans ((gA_sI).trans ((gA_sI).trans (hF2022.2.1 129 (by decide)))))))))))).trans ?_; (first | rfl | exact eA_ix (by omega) | omega)))), (by intro i i0 i1; exact (Decidable.em (a1.toInt = 0 ∧ (eA g0 173 0).toInt ≠ 0)).elim (fun k79_ => by refine Eq.trans ?_ (if_pos k79_).symm; refine (eA_tq (((gA_sI).trans ((hF2064.2.1 15 (by decide)).trans ((gA_cpF hI2055.1 ka_130 ka_15 (by decide) (by decide) (by decide)).trans ((gA_sW_ne (by decide)).trans ((gA_sI).trans ((gA_sI).trans ((gA_sI).trans ((gA_sI).trans (hF2022.2.1 130 (by decide)))))))))))).trans ?_; (first | rfl | exact eA_ix (by omega) | omega)) (fun k79_ => by refine Eq.trans ?_ (if_neg k79_).symm; exact (Decidable.em (a1.toInt = 1 ∧ (eA g0 173 1).toInt ≠ 0)).elim (fun k80_ => by refine Eq.trans ?_ (if_pos k80_).symm; refine (eA_tq (((gA_sI).trans ((hF2064.2.1 15 (by decide)).trans ((gA_cpF hI2055.1 ka_130 ka_15 (by decide) (by decide) (by decide)).trans ((gA_sW_ne (by decide)).trans ((gA_sI).trans ((gA_sI).trans ((gA_sI).trans ((gA_sI).trans (hF2022.2.1 130 (by decide)))))))))))).trans ?_; (first | rfl | exact eA_ix (by omega) | omega)) (fun k80_ => by refine Eq.trans ?_ (if_neg k80_).symm; refine (eA_tq (((gA_sI).trans ((hF2064.2.1 15 (by decide)).trans ((gA_cpF hI2055.1 ka_130 ka_15 (by decide) (by decide) (by decide)).trans ((gA_sW_ne (by decide)).trans ((gA_sI).trans ((gA_sI).trans ((gA_sI).trans ((gA_sI).trans (hF2022.2.1 130 (by decide)))))))))))).trans ?_; (first | rfl | exact eA_ix (by omega) | omega))))⟩⟩
        · have c2039_ : x2019.toInt < 6 := en_i_ge_f c2039
          refine At.enter rfl ?_
          refine r_aload_n e2027 ?_
          refine r_iload_n e2029 ?_
          refine r_callV 97 rfl [.ref 1, .int x2019] [] (Nat.le_of_ble_eq_true rfl) rfl (T_X0_lawAt_1 _ hI2021 x2019) ?_
          rintro _ _ ⟨g2077, rfl, hI2078, hF2079, v2080, rfl, hr2081⟩
          refine At.str ?_
          have hF2082 := Fr.tr hF2022 hF2079 rfl rfl
          refine At.enter rfl ?_
          refine r_aload_n e2028 ?_
          refine r_iload_n e2029 ?_
          refine r_callV 102 rfl [.ref 116, .int x2019] [.ref (v2080)] (Nat.le_of_ble_eq_true rfl) rfl (T_X0_lawAt_116 _ hI2078 x2019) ?_
          rintro _ _ ⟨g2083, rfl, hI2084, hF2085, v2086, rfl, hr2087⟩
          refine At.str ?_
          have hF2088 := Fr.tr hF2082 hF2085 rfl rfl
          refine At.enter rfl ?_
          refine r_callV 105 rfl [.ref (v2080), .ref (v2086)] [] (Nat.le_of_ble_eq_true rfl) rfl (T_X4_become_law _ hI2084 (v2080) hr2081 (v2086) hr2087) ?_
          rintro _ _ ⟨g2089, rfl, hI2090, hF2091, rfl⟩
          refine At.stn ?_
          have hF2094 := Fr.tr hF2088 hF2091 rfl rfl
          refine At.enter rfl ?_
          refine q_iinc e2029 (x2019.toInt + 1) rfl (by omega) (fun v2095 hv2095 => ?_)
          refine r_goto ?_
          exact ih2025 (6 - v2095.toInt) _ _ ⟨v2095, by first | rfl | omega, hI2090, hF2094, (((hF2091.1 1 0 (by decide)).trans ((hF2085.1 1 0 (by decide)).trans (hF2079.1 1 0 (by decide)))).trans e2026), (w_p1 (by decide) (Or.inr rfl) e2027), (w_p1 (by decide) (Or.inr rfl) e2028), (w_e1 _ _ _), by omega, (by intro i i0 i1; refine (eA_ti (((hF2091.2.1 2 (by decide)).trans ((hF2085.2.1 2 (by decide)).trans (hF2079.2.1 2 (by decide)))))).trans ?_; refine ((q2031 (i) (by omega) (by omega))).trans ?_; (first | rfl | exact eA_ix (by omega) | omega)), (by intro i i0 i1; refine (eA_ti (((hF2091.2.1 3 (by decide)).trans ((hF2085.2.1 3 (by decide)).trans (hF2079.2.1 3 (by decide)))))).trans ?_; refine ((q2032 (i) (by omega) (by omega))).trans ?_; (first | rfl | exact eA_ix (by omega) | omega)), (by intro i i0 i1; refine (eA_ti (((hF2091.2.1 4 (by decide)).trans ((hF2085.2.1 4 (by decide)).trans (hF2079.2.1 4 (by decide)))))).trans ?_; refine ((q2033 (i) (by omega) (by omega))).trans ?_; (first | rfl | exact eA_ix (by omega) | omega)), (by intro i i0 i1; refine (eA_ti (((hF2091.2.1 14 (by decide)).trans ((hF2085.2.1 14 (by decide)).trans (hF2079.2.1 14 (by decide)))))).trans ?_; refine ((q2034 (i) (by omega) (by omega))).trans ?_; (first | rfl | exact eA_ix (by omega) | omega)), (by intro i i0 i1; refine (eA_ti (((hF2091.2.1 15 (by decide)).trans ((hF2085.2.1 15 (by decide)).trans (hF2079.2.1 15 (by decide)))))).trans ?_; refine ((q2035 (i) (by omega) (by omega))).trans ?_; (first | rfl | exact eA_ix (by omega) | omega))⟩ ⟨by omega, by omega⟩
      · have c1775_ : v1774.toInt = 0 := en_k_ne_f c1775
        refine At.enter rfl ?_
        refine r_aload_n rfl ?_
        refine r_bipush (-2) rfl ?_
        refine r_callV 31 rfl [.ref 0, .int (-2)] [] (Nat.le_of_ble_eq_true rfl) rfl (T_X10_refused_0 _ hI0 (-2) (by decide)) ?_
        rintro _ _ ⟨g2096, rfl, hI2097, hF2098, v2099, rfl, hr2100⟩
        refine At.sti ?_
        have hF2101 := Fr.tr hF0 hF2098 rfl rfl
        have zv2102 : ((-2) : Int32).toInt = (-2) := rfl
        refine At.enter rfl ?_
        refine r_ireti ?_
        obtain ⟨v2103, hv2103⟩ : ∃ v, gI g0 1 0 = v := ⟨_, rfl⟩
        have rv2103 := RgF.at hI0.2.1 (p := 1) (b := 0) rfl
        rw [hv2103] at rv2103
        dsimp only at rv2103
        have tv2103 := congrArg Int32.toInt hv2103
        have x2104 := HI.eqI hI0 (p := 1) (b := 0) (hv2103)
        obtain ⟨v2105, hv2105⟩ : ∃ v, gI g0 1 12 = v := ⟨_, rfl⟩
        have rv2105 := RgF.at hI0.2.1 (p := 1) (b := 12) rfl
        rw [hv2105] at rv2105
        dsimp only at rv2105
        have tv2105 := congrArg Int32.toInt hv2105
        have x2106 := HI.eqI hI0 (p := 1) (b := 12) (hv2105)
        obtain ⟨v2107, hv2107⟩ : ∃ v, gI g0 1 10 = v := ⟨_, rfl⟩
        have tv2107 := congrArg Int32.toInt hv2107
        have x2108 := HI.eqI hI0 (p := 1) (b := 10) (hv2107)
        obtain ⟨v2109, hv2109⟩ : ∃ v, gI g0 1 11 = v := ⟨_, rfl⟩
        have tv2109 := congrArg Int32.toInt hv2109
        have x2110 := HI.eqI hI0 (p := 1) (b := 11) (hv2109)
        obtain ⟨v2111, hv2111⟩ : ∃ v, gI g0 59 0 = v := ⟨_, rfl⟩
        have rv2111 := RgF.at hI0.2.1 (p := 59) (b := 0) rfl
        rw [hv2111] at rv2111
        dsimp only at rv2111
        have tv2111 := congrArg Int32.toInt hv2111
        have x2112 := HI.eqI hI0 (p := 59) (b := 0) (hv2111)
        obtain ⟨v2113, hv2113⟩ : ∃ v, gI g0 59 12 = v := ⟨_, rfl⟩
        have rv2113 := RgF.at hI0.2.1 (p := 59) (b := 12) rfl
        rw [hv2113] at rv2113
        dsimp only at rv2113
        have tv2113 := congrArg Int32.toInt hv2113
        have x2114 := HI.eqI hI0 (p := 59) (b := 12) (hv2113)
        obtain ⟨v2115, hv2115⟩ : ∃ v, gI g0 59 10 = v := ⟨_, rfl⟩
        have tv2115 := congrArg Int32.toInt hv2115
        have x2116 := HI.eqI hI0 (p := 59) (b := 10) (hv2115)
        obtain ⟨v2117, hv2117⟩ : ∃ v, gI g0 59 11 = v := ⟨_, rfl⟩
        have tv2117 := congrArg Int32.toInt hv2117
        have x2118 := HI.eqI hI0 (p := 59) (b := 11) (hv2117)
        obtain ⟨v2119, hv2119⟩ : ∃ v, gI g0 116 0 = v := ⟨_, rfl⟩
        have rv2119 := RgF.at hI0.2.1 (p := 116) (b := 0) rfl
        rw [hv2119] at rv2119
        dsimp only at rv2119
        have tv2119 := congrArg Int32.toInt hv2119
        have x2120 := HI.eqI hI0 (p := 116) (b := 0) (hv2119)
        obtain ⟨v2121, hv2121⟩ : ∃ v, gI g0 116 12 = v := ⟨_, rfl⟩
        have rv2121 := RgF.at hI0.2.1 (p := 116) (b := 12) rfl
        rw [hv2121] at rv2121
        dsimp only at rv2121
        have tv2121 := congrArg Int32.toInt hv2121
        have x2122 := HI.eqI hI0 (p := 116) (b := 12) (hv2121)
        obtain ⟨v2123, hv2123⟩ : ∃ v, gI g0 116 10 = v := ⟨_, rfl⟩
        have tv2123 := congrArg Int32.toInt hv2123
        have x2124 := HI.eqI hI0 (p := 116) (b := 10) (hv2123)
        obtain ⟨v2125, hv2125⟩ : ∃ v, gI g0 116 11 = v := ⟨_, rfl⟩
        have tv2125 := congrArg Int32.toInt hv2125
        have x2126 := HI.eqI hI0 (p := 116) (b := 11) (hv2125)
        obtain ⟨v2127, hv2127⟩ : ∃ v, eA g0 173 0 = v := ⟨_, rfl⟩
        have tv2127 := congrArg Int32.toInt hv2127
        have x2128 := HI.eqA hI0 (p := 173) (j := 0) (hv2127)
        obtain ⟨v2129, hv2129⟩ : ∃ v, eA g0 173 1 = v := ⟨_, rfl⟩
        have tv2129 := congrArg Int32.toInt hv2129
        have x2130 := HI.eqA hI0 (p := 173) (j := 1) (hv2129)
        have y2131 : (eA g0 173 1).toInt = v1774.toInt := by rw [← hv1774, show a1.toInt = 1 by omega]
        have y2132 : a1.toInt = 1 → (eA g0 173 1).toInt = v1774.toInt := fun e => by rw [← hv1774, e]
        have e : a1.toInt = 1 := by omega
        have z2133 := HI.eqI hI2097 (p := 1) (b := 0) (((hF2098.1 1 0 (by decide)).trans hv2103))
        have z2134 := HI.eqI hI2097 (p := 1) (b := 12) (((hF2098.1 1 12 (by decide)).trans hv2105))
        have z2135 := HI.eqI hI2097 (p := 1) (b := 10) (((hF2098.1 1 10 (by decide)).trans hv2107))
        have z2136 := HI.eqI hI2097 (p := 1) (b := 11) (((hF2098.1 1 11 (by decide)).trans hv2109))
        have x2137 := HI.eqA hI0 (p := 173) (j := 0) (hv2127)
        have x2138 := HI.eqA hI0 (p := 173) (j := 1) (hv2129)
        have y2139 : (eA g0 173 1).toInt = v1774.toInt := by rw [← hv1774, show a1.toInt = 1 by omega]
        exact ⟨_, rfl, hI2097, hF2101, _, rfl, by omega, ⟨⟨by omega, by omega, by omega, by omega, by omega⟩, (by intro i i0 i1; refine Eq.trans ?_ (if_neg (show ¬ (a1.toInt = 0 ∧ (eA g0 173 0).toInt ≠ 0) from by omega)).symm; refine Eq.trans ?_ (if_neg (show ¬ (a1.toInt = 1 ∧ (eA g0 173 1).toInt ≠ 0) from by omega)).symm; refine (eA_ti ((hF2098.2.1 2 (by decide)))).trans ?_; (first | rfl | exact eA_ix (by omega) | omega)), (by intro i i0 i1; refine Eq.trans ?_ (if_neg (show ¬ (a1.toInt = 0 ∧ (eA g0 173 0).toInt ≠ 0) from by omega)).symm; refine Eq.trans ?_ (if_neg (show ¬ (a1.toInt = 1 ∧ (eA g0 173 1).toInt ≠ 0) from by omega)).symm; refine (eA_ti ((hF2098.2.1 3 (by decide)))).trans ?_; (first | rfl | exact eA_ix (by omega) | omega)), (by intro i i0 i1; refine Eq.trans ?_ (if_neg (show ¬ (a1.toInt = 0 ∧ (eA g0 173 0).toInt ≠ 0) from by omega)).symm; refine Eq.trans ?_ (if_neg (show ¬ (a1.toInt = 1 ∧ (eA g0 173 1).toInt ≠ 0) from by omega)).symm; refine (eA_ti ((hF2098.2.1 4 (by decide)))).trans ?_; (first | rfl | exact eA_ix (by omega) | omega)), (by intro i i0 i1; refine Eq.trans ?_ (if_neg (show ¬ (a1.toInt = 0 ∧ (eA g0 173 0).toInt ≠ 0) from by omega)).symm; refine Eq.trans ?_ (if_neg (show ¬ (a1.toInt = 1 ∧ (eA g0 173 1).toInt ≠ 0) from by omega)).symm; refine (eA_ti ((hF2098.2.1 14 (by decide)))).trans ?_; (first | rfl | exact eA_ix (by omega) | omega)), (by intro i i0 i1; refine Eq.trans ?_ (if_neg (show ¬ (a1.toInt = 0 ∧ (eA g0 173 0).toInt ≠ 0) from by omega)).symm; refine Eq.trans ?_ (if_neg (show ¬ (a1.toInt = 1 ∧ (eA g0 173 1).toInt ≠ 0) from by omega)).symm; refine (eA_ti ((hF2098.2.1 15 (by decide)))).trans ?_; (first | rfl | exact eA_ix (by omega) | omega))⟩⟩
