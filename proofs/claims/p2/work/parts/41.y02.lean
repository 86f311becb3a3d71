def F_X10_rests_0 : List (Nat × Nat) := [(185, 3), (223, 5), (223, 6), (223, 7), (223, 8), (223, 9), (223, 10), (223, 11)]
def A_X10_rests_0 : List Nat := [224, 225, 226, 227]
set_option maxRecDepth 100000 in
set_option maxHeartbeats 4000000 in
theorem T_X10_rests_0 (d : Nat) {N : Nat} {g0 : List en_E} (hI0 : HI g0) (a1 : Int32) : Ev (d + 8) 132 [.ref 0, .int a1] (g0, N) (fun w h' => ∃ g', h' = (g', N) ∧ HI g' ∧ Fr F_X10_rests_0 A_X10_rests_0 g0 g' ∧ ∃ r : Int32, w = some (.int r) ∧ True) := by
  have hF0 : Fr F_X10_rests_0 A_X10_rests_0 g0 g0 := Fr.rf
  refine Ev.mk rfl rfl ⟨Nat.le_of_ble_eq_true rfl, Or.inr (q_rc hI0.1 kx_0 rfl)⟩ ?_
  show At _ none _ _ (0, [(0, .ref 0), (1, .int a1)], [], (_, _)) _
  refine At.enter rfl ?_
  refine r_iload_n rfl ?_
  refine r_iconst (-1) rfl ?_
  refine r_ics 5 rfl (fun c61 => ?_) (fun c61 => ?_)
  · have c61_ : a1.toInt = (-1) := en_i_eq_t c61
    refine At.enter rfl ?_
    refine r_aload_n rfl ?_
    refine q_getR (Sh.ref hI0.1 kx_0 rfl) ?_
    refine r_callV 25 rfl [.ref 223] [] (Nat.le_of_ble_eq_true rfl) rfl (T_X2_settle_223 _ hI0) ?_
    rintro _ _ ⟨g62, rfl, hI63, hF64, rfl⟩
    refine At.stn ?_
    have hF67 := Fr.tr hF0 hF64 rfl rfl
    refine At.enter rfl ?_
    refine r_aload_n rfl ?_
    refine q_getR (Sh.ref hI63.1 kx_0 rfl) ?_
    refine r_iload_n rfl ?_
    refine r_callV 33 rfl [.ref 223, .int a1] [] (Nat.le_of_ble_eq_true rfl) rfl (T_X2_settled_223 _ hI63 a1) ?_
    rintro _ _ ⟨g68, rfl, hI69, hF70, v71, rfl, hr72⟩
    refine At.sti ?_
    have hF73 := Fr.tr hF67 hF70 rfl rfl
    refine At.enter rfl ?_
    refine r_ireti ?_
    exact ⟨_, rfl, hI69, hF73, _, rfl, trivial⟩
  · have c61_ : a1.toInt ≠ (-1) := en_i_eq_f c61
    refine At.enter rfl ?_
    refine r_aload_n rfl ?_
    refine q_getR (Sh.ref hI0.1 kx_0 rfl) ?_
    refine r_iload_n rfl ?_
    refine q_inlV 13 rfl [.ref 1, .int a1] [] (Nat.le_of_ble_eq_true rfl) rfl ?_
    refine Ev.mk rfl rfl ⟨Nat.le_of_ble_eq_true rfl, Or.inr (q_rc hI0.1 kx_1 rfl)⟩ ?_
    show At _ none _ _ (0, [(0, .ref 1), (1, .int a1)], [], (_, _)) _
    refine At.enter rfl ?_
    refine r_iload_n rfl ?_
    refine r_ifs 4 rfl (fun c74 => ?_) (fun c74 => ?_)
    · have c74_ : a1.toInt < 0 := en_k_lt_t c74
      refine At.enter rfl ?_
      refine r_iconst 0 rfl ?_
      refine Ar.fall 17 rfl ?_
      refine At.enter rfl ?_
      refine q_iretz (by decide) ?_
      refine At.enter rfl ?_
      refine r_iff 16 rfl (by decide) ?_
      refine At.enter rfl ?_
      refine r_iconst (-1) rfl ?_
      refine r_ireti ?_
      exact ⟨_, rfl, hI0, hF0, _, rfl, trivial⟩
    · have c74_ : a1.toInt ≥ 0 := en_k_lt_f c74
      refine At.enter rfl ?_
      refine r_iload_n rfl ?_
      refine r_aload_n rfl ?_
      obtain ⟨v75, hv75⟩ : ∃ v, gI g0 1 0 = v := ⟨_, rfl⟩
      have rv75 := RgF.at hI0.2.1 (p := 1) (b := 0) rfl
      rw [hv75] at rv75
      dsimp only at rv75
      refine q_getI (Sh.int hI0.1 kx_1 rfl) v75 hv75 ?_
      have bv77 := q_bnd a1
      have bv78 := q_bnd v75
      refine r_ics 12 rfl (fun c76 => ?_) (fun c76 => ?_)
      · have c76_ : a1.toInt ≥ v75.toInt := en_i_ge_t c76
        refine At.enter rfl ?_
        refine r_iconst 0 rfl ?_
        refine Ar.fall 17 rfl ?_
        refine At.enter rfl ?_
        refine q_iretz (by decide) ?_
        refine At.enter rfl ?_
        refine r_iff 16 rfl (by decide) ?_
        refine At.enter rfl ?_
        refine r_iconst (-1) rfl ?_
        refine r_ireti ?_
        exact ⟨_, rfl, hI0, hF0, _, rfl, trivial⟩
      · have c76_ : a1.toInt < v75.toInt := en_i_ge_f c76
        refine At.enter rfl ?_
        refine r_iconst 1 rfl ?_
        refine r_goto ?_
        refine At.enter rfl ?_
        refine q_iretz (by decide) ?_
        refine At.enter rfl ?_
        refine r_ift (by decide) ?_
        refine At.enter rfl ?_
        refine r_aload_n rfl ?_
        refine q_getR (Sh.ref hI0.1 kx_0 rfl) ?_
        refine r_callV 25 rfl [.ref 223] [] (Nat.le_of_ble_eq_true rfl) rfl (T_X2_settle_223 _ hI0) ?_
        rintro _ _ ⟨g79, rfl, hI80, hF81, rfl⟩
        refine At.stn ?_
        have hF84 := Fr.tr hF0 hF81 rfl rfl
        refine At.enter rfl ?_
        refine r_aload_n rfl ?_
        refine q_getR (Sh.ref hI80.1 kx_0 rfl) ?_
        refine r_iload_n rfl ?_
        refine r_callV 33 rfl [.ref 223, .int a1] [] (Nat.le_of_ble_eq_true rfl) rfl (T_X2_settled_223 _ hI80 a1) ?_
        rintro _ _ ⟨g85, rfl, hI86, hF87, v88, rfl, hr89⟩
        refine At.sti ?_
        have hF90 := Fr.tr hF84 hF87 rfl rfl
        refine At.enter rfl ?_
        refine r_ireti ?_
        exact ⟨_, rfl, hI86, hF90, _, rfl, trivial⟩

def F_X10_pieces_0 : List (Nat × Nat) := []
def A_X10_pieces_0 : List Nat := []
set_option maxRecDepth 100000 in
set_option maxHeartbeats 4000000 in
theorem T_X10_pieces_0 (d : Nat) {N : Nat} {g0 : List en_E} (hI0 : HI g0) (a1 : Int32) : Ev (d + 5) 133 [.ref 0, .int a1] (g0, N) (fun w h' => ∃ g', h' = (g', N) ∧ HI g' ∧ Fr F_X10_pieces_0 A_X10_pieces_0 g0 g' ∧ ∃ r : Int32, w = some (.int r) ∧ True) := by
  have hF0 : Fr F_X10_pieces_0 A_X10_pieces_0 g0 g0 := Fr.rf
  refine Ev.mk rfl rfl ⟨Nat.le_of_ble_eq_true rfl, Or.inr (q_rc hI0.1 kx_0 rfl)⟩ ?_
  show At _ none _ _ (0, [(0, .ref 0), (1, .int a1)], [], (_, _)) _
  refine At.enter rfl ?_
  refine r_aload_n rfl ?_
  refine q_getR (Sh.ref hI0.1 kx_0 rfl) ?_
  refine r_iload_n rfl ?_
  refine q_inlV 8 rfl [.ref 1, .int a1] [] (Nat.le_of_ble_eq_true rfl) rfl ?_
  refine Ev.mk rfl rfl ⟨Nat.le_of_ble_eq_true rfl, Or.inr (q_rc hI0.1 kx_1 rfl)⟩ ?_
  show At _ none _ _ (0, [(0, .ref 1), (1, .int a1)], [], (_, _)) _
  refine At.enter rfl ?_
  refine r_iload_n rfl ?_
  refine r_ifs 4 rfl (fun c23 => ?_) (fun c23 => ?_)
  · have c23_ : a1.toInt < 0 := en_k_lt_t c23
    refine At.enter rfl ?_
    refine r_iconst 0 rfl ?_
    refine Ar.fall 17 rfl ?_
    refine At.enter rfl ?_
    refine q_iretz (by decide) ?_
    refine At.enter rfl ?_
    refine r_ift (by decide) ?_
    refine At.enter rfl ?_
    refine r_iconst (-1) rfl ?_
    refine Ar.fall 23 rfl ?_
    refine At.enter rfl ?_
    refine r_ireti ?_
    exact ⟨_, rfl, hI0, hF0, _, rfl, trivial⟩
  · have c23_ : a1.toInt ≥ 0 := en_k_lt_f c23
    refine At.enter rfl ?_
    refine r_iload_n rfl ?_
    refine r_aload_n rfl ?_
    obtain ⟨v24, hv24⟩ : ∃ v, gI g0 1 4 = v := ⟨_, rfl⟩
    have rv24 := RgF.at hI0.2.1 (p := 1) (b := 4) rfl
    rw [hv24] at rv24
    dsimp only at rv24
    refine q_getI (Sh.int hI0.1 kx_1 rfl) v24 hv24 ?_
    have bv26 := q_bnd a1
    have bv27 := q_bnd v24
    refine r_ics 12 rfl (fun c25 => ?_) (fun c25 => ?_)
    · have c25_ : a1.toInt ≥ v24.toInt := en_i_ge_t c25
      refine At.enter rfl ?_
      refine r_iconst 0 rfl ?_
      refine Ar.fall 17 rfl ?_
      refine At.enter rfl ?_
      refine q_iretz (by decide) ?_
      refine At.enter rfl ?_
      refine r_ift (by decide) ?_
      refine At.enter rfl ?_
      refine r_iconst (-1) rfl ?_
      refine Ar.fall 23 rfl ?_
      refine At.enter rfl ?_
      refine r_ireti ?_
      exact ⟨_, rfl, hI0, hF0, _, rfl, trivial⟩
    · have c25_ : a1.toInt < v24.toInt := en_i_ge_f c25
      refine At.enter rfl ?_
      refine r_iconst 1 rfl ?_
      refine r_goto ?_
      refine At.enter rfl ?_
      refine q_iretz (by decide) ?_
      refine At.enter rfl ?_
      refine r_iff 11 rfl (by decide) ?_
      refine At.enter rfl ?_
      refine r_aload_n rfl ?_
      refine q_getR (Sh.ref hI0.1 kx_0 rfl) ?_
      refine r_iload_n rfl ?_
      refine r_callV 19 rfl [.ref 184, .int a1] [] (Nat.le_of_ble_eq_true rfl) rfl (T_X9_minutesInPieces_184 _ hI0 a1) ?_
      rintro _ _ ⟨g28, rfl, hI29, hF30, v31, rfl, hr32⟩
      refine At.sti ?_
      have hF33 := Fr.tr hF0 hF30 rfl rfl
      refine At.enter rfl ?_
      refine r_goto ?_
      refine At.enter rfl ?_
      refine r_ireti ?_
      exact ⟨_, rfl, hI29, hF33, _, rfl, trivial⟩

def F_X10_sign_0 : List (Nat × Nat) := [(0, 17), (1, 12)]
def A_X10_sign_0 : List Nat := [14, 15, 230]
set_option maxRecDepth 100000 in
set_option maxHeartbeats 4000000 in
theorem T_X10_sign_0 (d : Nat) {N : Nat} {g0 : List en_E} (hI0 : HI g0) (a1 : Int32) (a2 : Int32) : Ev (d + 3) 134 [.ref 0, .int a1, .int a2] (g0, N) (fun w h' => ∃ g', h' = (g', N) ∧ HI g' ∧ Fr F_X10_sign_0 A_X10_sign_0 g0 g' ∧ ∃ r : Int32, w = some (.int r) ∧ ((-5) ≤ r.toInt ∧ r.toInt ≤ 8)) := by
  have hF0 : Fr F_X10_sign_0 A_X10_sign_0 g0 g0 := Fr.rf
  refine Ev.mk rfl rfl ⟨Nat.le_of_ble_eq_true rfl, Or.inr (q_rc hI0.1 kx_0 rfl)⟩ ?_
  show At _ none _ _ (0, [(0, .ref 0), (1, .int a1), (2, .int a2)], [], (_, _)) _
  refine At.enter rfl ?_
  refine r_iload_n rfl ?_
  refine r_iconst 0 rfl ?_
  refine r_bipush 99 rfl ?_
  refine q_inlS 7 rfl [.int a2, .int 0, .int 99] [] (Nat.le_of_ble_eq_true rfl) rfl ?_
  refine Ev.mk rfl rfl ⟨Nat.le_of_ble_eq_true rfl, Or.inl rfl⟩ ?_
  show At _ none _ _ (0, [(0, .int a2), (1, .int 0), (2, .int 99)], [], (_, _)) _
  refine At.enter rfl ?_
  refine r_iload_n rfl ?_
  refine r_iload_n rfl ?_
  refine r_ics 5 rfl (fun c107 => ?_) (fun c107 => ?_)
  · have c107_ : a2.toInt < 0 := en_i_lt_t c107
    refine At.enter rfl ?_
    refine r_iconst 0 rfl ?_
    refine Ar.fall 15 rfl ?_
    refine At.enter rfl ?_
    refine q_iretz (by decide) ?_
    refine At.enter rfl ?_
    refine r_iff 10 rfl (by decide) ?_
    refine At.enter rfl ?_
    refine r_aload_n rfl ?_
    refine r_iconst (-1) rfl ?_
    refine r_callV 15 rfl [.ref 0, .int (-1)] [] (Nat.le_of_ble_eq_true rfl) rfl (T_X10_refused_0 _ hI0 (-1) (by decide)) ?_
    rintro _ _ ⟨g108, rfl, hI109, hF110, v111, rfl, hr112⟩
    refine At.sti ?_
    have hF113 := Fr.tr hF0 hF110 rfl rfl
    have zv114 : ((-1) : Int32).toInt = (-1) := rfl
    refine At.enter rfl ?_
    refine r_ireti ?_
    exact ⟨_, rfl, hI109, hF113, _, rfl, by omega⟩
  · have c107_ : a2.toInt ≥ 0 := en_i_lt_f c107
    refine At.enter rfl ?_
    refine r_iload_n rfl ?_
    refine r_iload_n rfl ?_
    refine r_ics 10 rfl (fun c115 => ?_) (fun c115 => ?_)
    · have c115_ : a2.toInt > 99 := en_i_gt_t c115
      refine At.enter rfl ?_
      refine r_iconst 0 rfl ?_
      refine Ar.fall 15 rfl ?_
      refine At.enter rfl ?_
      refine q_iretz (by decide) ?_
      refine At.enter rfl ?_
      refine r_iff 10 rfl (by decide) ?_
      refine At.enter rfl ?_
      refine r_aload_n rfl ?_
      refine r_iconst (-1) rfl ?_
      refine r_callV 15 rfl [.ref 0, .int (-1)] [] (Nat.le_of_ble_eq_true rfl) rfl (T_X10_refused_0 _ hI0 (-1) (by decide)) ?_
      rintro _ _ ⟨g116, rfl, hI117, hF118, v119, rfl, hr120⟩
      refine At.sti ?_
      have hF121 := Fr.tr hF0 hF118 rfl rfl
      have zv122 : ((-1) : Int32).toInt = (-1) := rfl
      refine At.enter rfl ?_
      refine r_ireti ?_
      exact ⟨_, rfl, hI117, hF121, _, rfl, by omega⟩
    · have c115_ : a2.toInt ≤ 99 := en_i_gt_f c115
      refine At.enter rfl ?_
      refine r_iconst 1 rfl ?_
      refine r_goto ?_
      refine At.enter rfl ?_
      refine q_iretz (by decide) ?_
      refine At.enter rfl ?_
      refine r_ift (by decide) ?_
      refine At.enter rfl ?_
      refine r_aload_n rfl ?_
      refine q_getR (Sh.ref hI0.1 kx_0 rfl) ?_
      refine r_iload_n rfl ?_
      refine q_inlV 24 rfl [.ref 1, .int a1] [] (Nat.le_of_ble_eq_true rfl) rfl ?_
      refine Ev.mk rfl rfl ⟨Nat.le_of_ble_eq_true rfl, Or.inr (q_rc hI0.1 kx_1 rfl)⟩ ?_
      show At _ none _ _ (0, [(0, .ref 1), (1, .int a1)], [], (_, _)) _
      refine At.enter rfl ?_
      refine r_iload_n rfl ?_
      refine r_ifs 4 rfl (fun c123 => ?_) (fun c123 => ?_)
      · have c123_ : a1.toInt < 0 := en_k_lt_t c123
        refine At.enter rfl ?_
        refine r_iconst 0 rfl ?_
        refine Ar.fall 17 rfl ?_
        refine At.enter rfl ?_
        refine q_iretz (by decide) ?_
        refine At.enter rfl ?_
        refine r_iff 27 rfl (by decide) ?_
        refine At.enter rfl ?_
        refine r_aload_n rfl ?_
        refine r_bipush (-2) rfl ?_
        refine r_callV 33 rfl [.ref 0, .int (-2)] [] (Nat.le_of_ble_eq_true rfl) rfl (T_X10_refused_0 _ hI0 (-2) (by decide)) ?_
        rintro _ _ ⟨g124, rfl, hI125, hF126, v127, rfl, hr128⟩
        refine At.sti ?_
        have hF129 := Fr.tr hF0 hF126 rfl rfl
        have zv130 : ((-2) : Int32).toInt = (-2) := rfl
        refine At.enter rfl ?_
        refine r_ireti ?_
        exact ⟨_, rfl, hI125, hF129, _, rfl, by omega⟩
      · have c123_ : a1.toInt ≥ 0 := en_k_lt_f c123
        refine At.enter rfl ?_
        refine r_iload_n rfl ?_
        refine r_aload_n rfl ?_
        obtain ⟨v131, hv131⟩ : ∃ v, gI g0 1 0 = v := ⟨_, rfl⟩
        have rv131 := RgF.at hI0.2.1 (p := 1) (b := 0) rfl
        rw [hv131] at rv131
        dsimp only at rv131
        refine q_getI (Sh.int hI0.1 kx_1 rfl) v131 hv131 ?_
        have bv133 := q_bnd a1
        have bv134 := q_bnd v131
        refine r_ics 12 rfl (fun c132 => ?_) (fun c132 => ?_)
        · have c132_ : a1.toInt ≥ v131.toInt := en_i_ge_t c132
          refine At.enter rfl ?_
          refine r_iconst 0 rfl ?_
          refine Ar.fall 17 rfl ?_
          refine At.enter rfl ?_
          refine q_iretz (by decide) ?_
          refine At.enter rfl ?_
          refine r_iff 27 rfl (by decide) ?_
          refine At.enter rfl ?_
          refine r_aload_n rfl ?_
          refine r_bipush (-2) rfl ?_
          refine r_callV 33 rfl [.ref 0, .int (-2)] [] (Nat.le_of_ble_eq_true rfl) rfl (T_X10_refused_0 _ hI0 (-2) (by decide)) ?_
          rintro _ _ ⟨g135, rfl, hI136, hF137, v138, rfl, hr139⟩
          refine At.sti ?_
          have hF140 := Fr.tr hF0 hF137 rfl rfl
          have zv141 : ((-2) : Int32).toInt = (-2) := rfl
          refine At.enter rfl ?_
          refine r_ireti ?_
          exact ⟨_, rfl, hI136, hF140, _, rfl, by omega⟩
        · have c132_ : a1.toInt < v131.toInt := en_i_ge_f c132
          refine At.enter rfl ?_
          refine r_iconst 1 rfl ?_
          refine r_goto ?_
          refine At.enter rfl ?_
          refine q_iretz (by decide) ?_
          refine At.enter rfl ?_
          refine r_ift (by decide) ?_
          refine At.enter rfl ?_
          refine r_aload_n rfl ?_
          refine q_getR (Sh.ref hI0.1 kx_0 rfl) ?_
          obtain ⟨v142, hv142⟩ : ∃ v, gI g0 1 12 = v := ⟨_, rfl⟩
          have rv142 := RgF.at hI0.2.1 (p := 1) (b := 12) rfl
          rw [hv142] at rv142
          dsimp only at rv142
          refine q_getI (Sh.int hI0.1 kx_1 rfl) v142 hv142 ?_
          refine r_bipush 8 rfl ?_
          refine r_ics 46 rfl (fun c143 => ?_) (fun c143 => ?_)
          · have c143_ : v142.toInt < 8 := en_i_lt_t c143
            refine At.enter rfl ?_
            refine r_aload_n rfl ?_
            refine q_getR (Sh.ref hI0.1 kx_0 rfl) ?_
            refine q_getR (Sh.ref hI0.1 kx_1 rfl) ?_
            refine r_aload_n rfl ?_
            refine q_getR (Sh.ref hI0.1 kx_0 rfl) ?_
            refine q_getI (Sh.int hI0.1 kx_1 rfl) v142 hv142 ?_
            refine r_iload_n rfl ?_
            refine q_iast (Sh.arr hI0.1 ka_14) (v142.toInt) rfl (by omega) ?_
            have hI144 := HI.wA0 hI0 ka_14 (p := 14) rfl rfl (v142.toInt) (a1)
            have hF145 := Fr.wA (p := 14) (j := v142.toInt) (v := a1) hF0 rfl
            refine r_aload_n rfl ?_
            refine q_getR (Sh.ref hI144.1 kx_0 rfl) ?_
            refine q_getR (Sh.ref hI144.1 kx_1 rfl) ?_
            refine r_aload_n rfl ?_
            refine q_getR (Sh.ref hI144.1 kx_0 rfl) ?_
            refine q_getI (Sh.int hI144.1 kx_1 rfl) v142 ((gI_sW).trans hv142) ?_
            refine r_iload_n rfl ?_
            refine q_iast (Sh.arr hI144.1 ka_15) (v142.toInt) rfl (by omega) ?_
            have hI146 := HI.wA0 hI144 ka_15 (p := 15) rfl rfl (v142.toInt) (a2)
            have hF147 := Fr.wA (p := 15) (j := v142.toInt) (v := a2) hF145 rfl
            refine r_aload_n rfl ?_
            refine q_getR (Sh.ref hI146.1 kx_0 rfl) ?_
            refine r_dup rfl ?_
            refine q_getI (Sh.int hI146.1 kx_1 rfl) v142 (((gI_sW).trans (gI_sW)).trans hv142) ?_
            refine r_iconst 1 rfl ?_
            refine q_iadd (v142.toInt + 1) rfl (by omega) (fun v148 hv148 => ?_)
            refine q_putI (Sh.int hI146.1 kx_1 rfl) rfl ?_
            have hI149 := HI.wI1 hI146 kx_1 rfl (p := 1) (b := 12) (v := v148) rfl (by dsimp only; omega)
            have hF150 := Fr.wI (p := 1) (b := 12) (v := v148) hF147 rfl
            refine r_aload_n rfl ?_
            refine r_aload_n rfl ?_
            refine q_getR (Sh.ref hI149.1 kx_0 rfl) ?_
            refine q_getI (Sh.int hI149.1 kx_1 rfl) v148 (gI_sI_eq hI146.1 kx_1 rfl _) ?_
            refine q_inlV 109 rfl [.ref 0, .int v148] [] (Nat.le_of_ble_eq_true rfl) rfl ?_
            refine Ev.mk rfl rfl ⟨Nat.le_of_ble_eq_true rfl, Or.inr (q_rc hI149.1 kx_0 rfl)⟩ ?_
            show At _ none _ _ (0, [(0, .ref 0), (1, .int v148)], [], (_, _)) _
            refine At.enter rfl ?_
            refine r_aload_n rfl ?_
            refine r_iconst 0 rfl ?_
            refine q_putI (Sh.int hI149.1 kx_0 rfl) rfl ?_
            have hI151 := HI.wI0 hI149 kx_0 rfl (p := 0) (b := 17) (v := 0) rfl
            have hF152 := Fr.wI (p := 0) (b := 17) (v := 0) hF150 rfl
            refine r_iload_n rfl ?_
            refine q_ireti ?_
            refine At.enter rfl ?_
            refine r_ireti ?_
            exact ⟨_, rfl, hI151, hF152, _, rfl, by omega⟩
          · have c143_ : v142.toInt ≥ 8 := en_i_lt_f c143
            refine At.enter rfl ?_
            refine r_aload_n rfl ?_
            refine r_bipush (-5) rfl ?_
            refine r_callV 52 rfl [.ref 0, .int (-5)] [] (Nat.le_of_ble_eq_true rfl) rfl (T_X10_refused_0 _ hI0 (-5) (by decide)) ?_
            rintro _ _ ⟨g153, rfl, hI154, hF155, v156, rfl, hr157⟩
            refine At.sti ?_
            have hF158 := Fr.tr hF0 hF155 rfl rfl
            have zv159 : ((-5) : Int32).toInt = (-5) := rfl
            refine At.enter rfl ?_
            refine r_ireti ?_
            exact ⟨_, rfl, hI154, hF158, _, rfl, by omega⟩

def F_X10_clear_0 : List (Nat × Nat) := [(1, 12)]
def A_X10_clear_0 : List Nat := []
set_option maxRecDepth 100000 in
set_option maxHeartbeats 4000000 in
theorem T_X10_clear_0 (d : Nat) {N : Nat} {g0 : List en_E} (hI0 : HI g0) : Ev (d + 1) 135 [.ref 0] (g0, N) (fun w h' => ∃ g', h' = (g', N) ∧ HI g' ∧ Fr F_X10_clear_0 A_X10_clear_0 g0 g' ∧ ∃ r : Int32, w = some (.int r) ∧ (0 ≤ r.toInt ∧ r.toInt ≤ 8)) := by
  have hF0 : Fr F_X10_clear_0 A_X10_clear_0 g0 g0 := Fr.rf
  refine Ev.mk rfl rfl ⟨Nat.le_of_ble_eq_true rfl, Or.inr (q_rc hI0.1 kx_0 rfl)⟩ ?_
  show At _ none _ _ (0, [(0, .ref 0)], [], (_, _)) _
  refine At.enter rfl ?_
  refine r_aload_n rfl ?_
  refine q_getR (Sh.ref hI0.1 kx_0 rfl) ?_
  obtain ⟨v7, hv7⟩ : ∃ v, gI g0 1 12 = v := ⟨_, rfl⟩
  have rv7 := RgF.at hI0.2.1 (p := 1) (b := 12) rfl
  rw [hv7] at rv7
  dsimp only at rv7
  refine q_getI (Sh.int hI0.1 kx_1 rfl) v7 hv7 ?_
  refine r_istore_n ([(1, .int v7), (0, .ref 0)]) rfl ?_
  refine r_aload_n rfl ?_
  refine q_getR (Sh.ref hI0.1 kx_0 rfl) ?_
  refine r_iconst 0 rfl ?_
  refine q_putI (Sh.int hI0.1 kx_1 rfl) rfl ?_
  have hI8 := HI.wI1 hI0 kx_1 rfl (p := 1) (b := 12) (v := 0) rfl (by decide)
  have hF9 := Fr.wI (p := 1) (b := 12) (v := 0) hF0 rfl
  refine r_iload_n rfl ?_
  refine r_ireti ?_
  exact ⟨_, rfl, hI8, hF9, _, rfl, by omega⟩

def F_X10_thieves_0 : List (Nat × Nat) := []
def A_X10_thieves_0 : List Nat := []
set_option maxRecDepth 100000 in
set_option maxHeartbeats 4000000 in
theorem T_X10_thieves_0 (d : Nat) {N : Nat} {g0 : List en_E} (hI0 : HI g0) : Ev (d + 6) 136 [.ref 0] (g0, N) (fun w h' => ∃ g', h' = (g', N) ∧ HI g' ∧ Fr F_X10_thieves_0 A_X10_thieves_0 g0 g' ∧ ∃ r : Int32, w = some (.int r) ∧ True) := by
  have hF0 : Fr F_X10_thieves_0 A_X10_thieves_0 g0 g0 := Fr.rf
  refine Ev.mk rfl rfl ⟨Nat.le_of_ble_eq_true rfl, Or.inr (q_rc hI0.1 kx_0 rfl)⟩ ?_
  show At _ none _ _ (0, [(0, .ref 0)], [], (_, _)) _
  refine At.enter rfl ?_
  refine r_aload_n rfl ?_
  refine q_getR (Sh.ref hI0.1 kx_0 rfl) ?_
  refine r_callV 7 rfl [.ref 184] [] (Nat.le_of_ble_eq_true rfl) rfl (T_X9_suspects_184 _ hI0) ?_
  rintro _ _ ⟨g13, rfl, hI14, hF15, v16, rfl, hr17⟩
  refine At.sti ?_
  have hF18 := Fr.tr hF0 hF15 rfl rfl
  refine At.enter rfl ?_
  refine r_ireti ?_
  exact ⟨_, rfl, hI14, hF18, _, rfl, trivial⟩

def F_X10_meet_0 : List (Nat × Nat) := []
def A_X10_meet_0 : List Nat := []
set_option maxRecDepth 100000 in
set_option maxHeartbeats 4000000 in
theorem T_X10_meet_0 (d : Nat) {N : Nat} {g0 : List en_E} (hI0 : HI g0) (a1 : Int32) (a2 : Int32) (a3 : Int32) : Ev (d + 4) 137 [.ref 0, .int a1, .int a2, .int a3] (g0, N) (fun w h' => ∃ g', h' = (g', N) ∧ HI g' ∧ Fr F_X10_meet_0 A_X10_meet_0 g0 g' ∧ ∃ r : Int32, w = some (.int r) ∧ True) := by
  have hF0 : Fr F_X10_meet_0 A_X10_meet_0 g0 g0 := Fr.rf
  refine Ev.mk rfl rfl ⟨Nat.le_of_ble_eq_true rfl, Or.inr (q_rc hI0.1 kx_0 rfl)⟩ ?_
  show At _ none _ _ (0, [(0, .ref 0), (1, .int a1), (2, .int a2), (3, .int a3)], [], (_, _)) _
  refine At.enter rfl ?_
  refine r_aload_n rfl ?_
  refine q_getR (Sh.ref hI0.1 kx_0 rfl) ?_
  refine r_iload_n rfl ?_
  refine q_inlV 8 rfl [.ref 1, .int a1] [] (Nat.le_of_ble_eq_true rfl) rfl ?_
  refine Ev.mk rfl rfl ⟨Nat.le_of_ble_eq_true rfl, Or.inr (q_rc hI0.1 kx_1 rfl)⟩ ?_
  show At _ none _ _ (0, [(0, .ref 1), (1, .int a1)], [], (_, _)) _
  refine At.enter rfl ?_
  refine r_iload_n rfl ?_
  refine r_ifs 4 rfl (fun c33 => ?_) (fun c33 => ?_)
  · have c33_ : a1.toInt < 0 := en_k_lt_t c33
    refine At.enter rfl ?_
    refine r_iconst 0 rfl ?_
    refine Ar.fall 17 rfl ?_
    refine At.enter rfl ?_
    refine q_iretz (by decide) ?_
    refine At.enter rfl ?_
    refine r_ift (by decide) ?_
    refine At.enter rfl ?_
    refine r_iconst (-1) rfl ?_
    refine r_ireti ?_
    exact ⟨_, rfl, hI0, hF0, _, rfl, trivial⟩
  · have c33_ : a1.toInt ≥ 0 := en_k_lt_f c33
    refine At.enter rfl ?_
    refine r_iload_n rfl ?_
    refine r_aload_n rfl ?_
    obtain ⟨v34, hv34⟩ : ∃ v, gI g0 1 0 = v := ⟨_, rfl⟩
    have rv34 := RgF.at hI0.2.1 (p := 1) (b := 0) rfl
    rw [hv34] at rv34
    dsimp only at rv34
    refine q_getI (Sh.int hI0.1 kx_1 rfl) v34 hv34 ?_
    have bv36 := q_bnd a1
    have bv37 := q_bnd v34
    refine r_ics 12 rfl (fun c35 => ?_) (fun c35 => ?_)
    · have c35_ : a1.toInt ≥ v34.toInt := en_i_ge_t c35
      refine At.enter rfl ?_
      refine r_iconst 0 rfl ?_
      refine Ar.fall 17 rfl ?_
      refine At.enter rfl ?_
      refine q_iretz (by decide) ?_
      refine At.enter rfl ?_
      refine r_ift (by decide) ?_
      refine At.enter rfl ?_
      refine r_iconst (-1) rfl ?_
      refine r_ireti ?_
      exact ⟨_, rfl, hI0, hF0, _, rfl, trivial⟩
    · have c35_ : a1.toInt < v34.toInt := en_i_ge_f c35
      refine At.enter rfl ?_
      refine r_iconst 1 rfl ?_
      refine r_goto ?_
      refine At.enter rfl ?_
      refine q_iretz (by decide) ?_
      refine At.enter rfl ?_
      refine r_iff 11 rfl (by decide) ?_
      refine At.enter rfl ?_
      refine r_aload_n rfl ?_
      refine q_getR (Sh.ref hI0.1 kx_0 rfl) ?_
      refine r_iload_n rfl ?_
      refine q_inlV 19 rfl [.ref 1, .int a2] [] (Nat.le_of_ble_eq_true rfl) rfl ?_
      refine Ev.mk rfl rfl ⟨Nat.le_of_ble_eq_true rfl, Or.inr (q_rc hI0.1 kx_1 rfl)⟩ ?_
      show At _ none _ _ (0, [(0, .ref 1), (1, .int a2)], [], (_, _)) _
      refine At.enter rfl ?_
      refine r_iload_n rfl ?_
      refine r_ifs 4 rfl (fun c38 => ?_) (fun c38 => ?_)
      · have c38_ : a2.toInt < 0 := en_k_lt_t c38
        refine At.enter rfl ?_
        refine r_iconst 0 rfl ?_
        refine Ar.fall 17 rfl ?_
        refine At.enter rfl ?_
        refine q_iretz (by decide) ?_
        refine At.enter rfl ?_
        refine r_ift (by decide) ?_
        refine At.enter rfl ?_
        refine r_iconst (-1) rfl ?_
        refine r_ireti ?_
        exact ⟨_, rfl, hI0, hF0, _, rfl, trivial⟩
      · have c38_ : a2.toInt ≥ 0 := en_k_lt_f c38
        refine At.enter rfl ?_
        refine r_iload_n rfl ?_
        refine r_aload_n rfl ?_
        refine q_getI (Sh.int hI0.1 kx_1 rfl) v34 hv34 ?_
        have bv40 := q_bnd a2
        refine r_ics 12 rfl (fun c39 => ?_) (fun c39 => ?_)
        · have c39_ : a2.toInt ≥ v34.toInt := en_i_ge_t c39
          refine At.enter rfl ?_
          refine r_iconst 0 rfl ?_
          refine Ar.fall 17 rfl ?_
          refine At.enter rfl ?_
          refine q_iretz (by decide) ?_
          refine At.enter rfl ?_
          refine r_ift (by decide) ?_
          refine At.enter rfl ?_
          refine r_iconst (-1) rfl ?_
          refine r_ireti ?_
          exact ⟨_, rfl, hI0, hF0, _, rfl, trivial⟩
        · have c39_ : a2.toInt < v34.toInt := en_i_ge_f c39
          refine At.enter rfl ?_
          refine r_iconst 1 rfl ?_
          refine r_goto ?_
          refine At.enter rfl ?_
          refine q_iretz (by decide) ?_
          refine At.enter rfl ?_
          refine r_iff 22 rfl (by decide) ?_
          refine At.enter rfl ?_
          refine r_iload_n rfl ?_
          refine r_iconst 0 rfl ?_
          refine r_iconst 1 rfl ?_
          refine q_inlS 28 rfl [.int a3, .int 0, .int 1] [] (Nat.le_of_ble_eq_true rfl) rfl ?_
          refine Ev.mk rfl rfl ⟨Nat.le_of_ble_eq_true rfl, Or.inl rfl⟩ ?_
          show At _ none _ _ (0, [(0, .int a3), (1, .int 0), (2, .int 1)], [], (_, _)) _
          refine At.enter rfl ?_
          refine r_iload_n rfl ?_
          refine r_iload_n rfl ?_
          refine r_ics 5 rfl (fun c41 => ?_) (fun c41 => ?_)
          · have c41_ : a3.toInt < 0 := en_i_lt_t c41
            refine At.enter rfl ?_
            refine r_iconst 0 rfl ?_
            refine Ar.fall 15 rfl ?_
            refine At.enter rfl ?_
            refine q_iretz (by decide) ?_
            refine At.enter rfl ?_
            refine r_iff 31 rfl (by decide) ?_
            refine At.enter rfl ?_
            refine r_iconst (-1) rfl ?_
            refine r_ireti ?_
            exact ⟨_, rfl, hI0, hF0, _, rfl, trivial⟩
          · have c41_ : a3.toInt ≥ 0 := en_i_lt_f c41
            refine At.enter rfl ?_
            refine r_iload_n rfl ?_
            refine r_iload_n rfl ?_
            refine r_ics 10 rfl (fun c42 => ?_) (fun c42 => ?_)
            · have c42_ : a3.toInt > 1 := en_i_gt_t c42
              refine At.enter rfl ?_
              refine r_iconst 0 rfl ?_
              refine Ar.fall 15 rfl ?_
              refine At.enter rfl ?_
              refine q_iretz (by decide) ?_
              refine At.enter rfl ?_
              refine r_iff 31 rfl (by decide) ?_
              refine At.enter rfl ?_
              refine r_iconst (-1) rfl ?_
              refine r_ireti ?_
              exact ⟨_, rfl, hI0, hF0, _, rfl, trivial⟩
            · have c42_ : a3.toInt ≤ 1 := en_i_gt_f c42
              refine At.enter rfl ?_
              refine r_iconst 1 rfl ?_
              refine r_goto ?_
              refine At.enter rfl ?_
              refine q_iretz (by decide) ?_
              refine At.enter rfl ?_
              refine r_ift (by decide) ?_
              refine At.enter rfl ?_
              refine r_aload_n rfl ?_
              refine q_getR (Sh.ref hI0.1 kx_0 rfl) ?_
              refine r_iload_n rfl ?_
              refine r_iload_n rfl ?_
              refine r_iload_n rfl ?_
              refine r_callV 43 rfl [.ref 184, .int a1, .int a2, .int a3] [] (Nat.le_of_ble_eq_true rfl) rfl (T_X9_meeting_184 _ hI0 a1 a2 a3) ?_
              rintro _ _ ⟨g43, rfl, hI44, hF45, v46, rfl, hr47⟩
              refine At.sti ?_
              have hF48 := Fr.tr hF0 hF45 rfl rfl
              refine At.enter rfl ?_
              refine r_ireti ?_
              exact ⟨_, rfl, hI44, hF48, _, rfl, trivial⟩

def F_X10_draw_0 : List (Nat × Nat) := [(0, 15), (0, 17), (185, 3), (204, 16), (204, 18)]
def A_X10_draw_0 : List Nat := [205, 206, 207, 208, 209, 210, 211, 212, 213, 214, 215, 216, 218, 219, 228, 229, 230]
set_option maxRecDepth 100000 in
set_option maxHeartbeats 4000000 in
theorem T_X10_draw_0 (d : Nat) {N : Nat} {g0 : List en_E} (hI0 : HI g0) (a1 : Int32) : Ev (d + 6) 138 [.ref 0, .int a1] (g0, N) (fun w h' => ∃ g', h' = (g', N) ∧ HI g' ∧ Fr F_X10_draw_0 A_X10_draw_0 g0 g' ∧ ∃ r : Int32, w = some (.int r) ∧ True) := by
  have hF0 : Fr F_X10_draw_0 A_X10_draw_0 g0 g0 := Fr.rf
  refine Ev.mk rfl rfl ⟨Nat.le_of_ble_eq_true rfl, Or.inr (q_rc hI0.1 kx_0 rfl)⟩ ?_
  show At _ none _ _ (0, [(0, .ref 0), (1, .int a1)], [], (_, _)) _
  refine At.enter rfl ?_
  refine r_iload_n rfl ?_
  refine r_iconst 0 rfl ?_
  refine r_ldcw 1000000 rfl ?_
  refine q_inlS 8 rfl [.int a1, .int 0, .int 1000000] [] (Nat.le_of_ble_eq_true rfl) rfl ?_
  refine Ev.mk rfl rfl ⟨Nat.le_of_ble_eq_true rfl, Or.inl rfl⟩ ?_
  show At _ none _ _ (0, [(0, .int a1), (1, .int 0), (2, .int 1000000)], [], (_, _)) _
  refine At.enter rfl ?_
  refine r_iload_n rfl ?_
  refine r_iload_n rfl ?_
  refine r_ics 5 rfl (fun c7925 => ?_) (fun c7925 => ?_)
  · have c7925_ : a1.toInt < 0 := en_i_lt_t c7925
    refine At.enter rfl ?_
    refine r_iconst 0 rfl ?_
    refine Ar.fall 15 rfl ?_
    refine At.enter rfl ?_
    refine q_iretz (by decide) ?_
    refine At.enter rfl ?_
    refine r_iff 11 rfl (by decide) ?_
    refine At.enter rfl ?_
    refine r_aload_n rfl ?_
    refine r_iconst (-1) rfl ?_
    refine r_callV 16 rfl [.ref 0, .int (-1)] [] (Nat.le_of_ble_eq_true rfl) rfl (T_X10_refused_0 _ hI0 (-1) (by decide)) ?_
    rintro _ _ ⟨g7926, rfl, hI7927, hF7928, v7929, rfl, hr7930⟩
    refine At.sti ?_
    have hF7931 := Fr.tr hF0 hF7928 rfl rfl
    have zv7932 : ((-1) : Int32).toInt = (-1) := rfl
    refine At.enter rfl ?_
    refine r_ireti ?_
    exact ⟨_, rfl, hI7927, hF7931, _, rfl, trivial⟩
  · have c7925_ : a1.toInt ≥ 0 := en_i_lt_f c7925
    refine At.enter rfl ?_
    refine r_iload_n rfl ?_
    refine r_iload_n rfl ?_
    refine r_ics 10 rfl (fun c7933 => ?_) (fun c7933 => ?_)
    · have c7933_ : a1.toInt > 1000000 := en_i_gt_t c7933
      refine At.enter rfl ?_
      refine r_iconst 0 rfl ?_
      refine Ar.fall 15 rfl ?_
      refine At.enter rfl ?_
      refine q_iretz (by decide) ?_
      refine At.enter rfl ?_
      refine r_iff 11 rfl (by decide) ?_
      refine At.enter rfl ?_
      refine r_aload_n rfl ?_
      refine r_iconst (-1) rfl ?_
      refine r_callV 16 rfl [.ref 0, .int (-1)] [] (Nat.le_of_ble_eq_true rfl) rfl (T_X10_refused_0 _ hI0 (-1) (by decide)) ?_
      rintro _ _ ⟨g7934, rfl, hI7935, hF7936, v7937, rfl, hr7938⟩
      refine At.sti ?_
      have hF7939 := Fr.tr hF0 hF7936 rfl rfl
      have zv7940 : ((-1) : Int32).toInt = (-1) := rfl
      refine At.enter rfl ?_
      refine r_ireti ?_
      exact ⟨_, rfl, hI7935, hF7939, _, rfl, trivial⟩
    · have c7933_ : a1.toInt ≤ 1000000 := en_i_gt_f c7933
      refine At.enter rfl ?_
      refine r_iconst 1 rfl ?_
      refine r_goto ?_
      refine At.enter rfl ?_
      refine q_iretz (by decide) ?_
      refine At.enter rfl ?_
      refine r_ift (by decide) ?_
      refine At.enter rfl ?_
      refine r_aload_n rfl ?_
      refine q_getR (Sh.ref hI0.1 kx_0 rfl) ?_
      refine r_iconst 0 rfl ?_
      refine r_callV 25 rfl [.ref 204, .int 0] [] (Nat.le_of_ble_eq_true rfl) rfl (T_X1_layOut_204 _ hI0 0) ?_
      rintro _ _ ⟨g7941, rfl, hI7942, hF7943, rfl⟩
      refine At.stn ?_
      have hF7946 := Fr.tr hF0 hF7943 rfl rfl
      refine At.enter rfl ?_
      refine r_iload_n rfl ?_
      refine r_istore_n ([(2, .int a1), (0, .ref 0), (1, .int a1)]) rfl ?_
      refine r_iconst 0 rfl ?_
      refine r_istore_n ([(3, .int 0), (2, .int a1), (0, .ref 0), (1, .int a1)]) rfl ?_
      refine Ar.fall 29 rfl ?_
      have z_11362 : (0 : Int32).toInt = 0 := rfl
      refine w_loopI (fun n_ l_ g_ => ∃ x11349 : Int32, ∃ x11350 : Int32, n_ = 8 - x11350.toInt ∧ HI g_ ∧ Fr F_X10_draw_0 A_X10_draw_0 g0 g_ ∧ en_get 0 l_ = some (.ref 0) ∧ en_get 1 l_ = some (.int a1) ∧ en_get 2 l_ = some (.int x11349) ∧ en_get 3 l_ = some (.int x11350) ∧ (0 ≤ x11350.toInt ∧ x11350.toInt ≤ 8)) ?_ (8 - 0) ⟨a1, 0, by first | rfl | omega, hI7942, hF7946, rfl, rfl, rfl, rfl, by decide⟩
      rintro n11355 l11354 g11351 ⟨x11349, x11350, hm11363, hI11352, hF11353, e11357, e11358, e11359, e11360, r11361⟩ ih11356
      refine At.enter rfl ?_
      refine r_iload_n e11360 ?_
      refine r_aload_n e11357 ?_
      refine q_getR (Sh.ref hI11352.1 kx_0 rfl) ?_
      obtain ⟨v11364, hv11364⟩ : ∃ v, gI g0 1 4 = v := ⟨_, rfl⟩
      have rv11364 := RgF.at hI0.2.1 (p := 1) (b := 4) rfl
      rw [hv11364] at rv11364
      dsimp only at rv11364
      refine q_getI (Sh.int hI11352.1 kx_1 rfl) v11364 ((hF11353.1 1 4 (by decide)).trans hv11364) ?_
      have bv11366 := q_bnd x11350
      have bv11367 := q_bnd v11364
      refine r_ics 40 rfl (fun c11365 => ?_) (fun c11365 => ?_)
      · have c11365_ : x11350.toInt ≥ v11364.toInt := en_i_ge_t c11365
        refine At.enter rfl ?_
        refine r_iconst 0 rfl ?_
        refine r_istore_n _ rfl ?_
        refine Ar.fall 66 rfl ?_
        have z_11795 : (0 : Int32).toInt = 0 := rfl
        refine w_loopI (fun n_ l_ g_ => ∃ x11782 : Int32, ∃ x11783 : Int32, n_ = 12 - x11783.toInt ∧ HI g_ ∧ Fr F_X10_draw_0 A_X10_draw_0 g0 g_ ∧ en_get 0 l_ = some (.ref 0) ∧ en_get 1 l_ = some (.int a1) ∧ en_get 2 l_ = some (.int x11782) ∧ en_get 3 l_ = some (.int x11783) ∧ (0 ≤ x11783.toInt ∧ x11783.toInt ≤ 12)) ?_ (12 - 0) ⟨x11349, 0, by first | rfl | omega, hI11352, hF11353, (w_p1 (by decide) (Or.inr rfl) e11357), (w_p1 (by decide) (Or.inr rfl) e11358), (w_p1 (by decide) (Or.inr rfl) e11359), (w_e1 _ _ _), by decide⟩
        rintro n11788 l11787 g11784 ⟨x11782, x11783, hm11796, hI11785, hF11786, e11790, e11791, e11792, e11793, r11794⟩ ih11789
        refine At.enter rfl ?_
        refine r_iload_n e11793 ?_
        refine r_aload_n e11790 ?_
        refine q_getR (Sh.ref hI11785.1 kx_0 rfl) ?_
        obtain ⟨v11797, hv11797⟩ : ∃ v, gI g0 1 0 = v := ⟨_, rfl⟩
        have rv11797 := RgF.at hI0.2.1 (p := 1) (b := 0) rfl
        rw [hv11797] at rv11797
        dsimp only at rv11797
        refine q_getI (Sh.int hI11785.1 kx_1 rfl) v11797 ((hF11786.1 1 0 (by decide)).trans hv11797) ?_
        have bv11799 := q_bnd x11783
        have bv11800 := q_bnd v11797
        refine r_ics 77 rfl (fun c11798 => ?_) (fun c11798 => ?_)
        · have c11798_ : x11783.toInt ≥ v11797.toInt := en_i_ge_t c11798
          refine At.enter rfl ?_
          refine r_aload_n e11790 ?_
          refine q_getR (Sh.ref hI11785.1 kx_0 rfl) ?_
          refine r_callV 125 rfl [.ref 204] [] (Nat.le_of_ble_eq_true rfl) rfl (T_X1_runWhole_204 _ hI11785) ?_
          rintro _ _ ⟨g11801, rfl, hI11802, hF11803, rfl⟩
          refine At.stn ?_
          have hF11806 := Fr.tr hF11786 hF11803 rfl rfl
          refine At.enter rfl ?_
          refine r_aload_n e11790 ?_
          refine r_aload_n e11790 ?_
          refine q_getR (Sh.ref hI11802.1 kx_0 rfl) ?_
          refine q_getI (Sh.int hI11802.1 kx_1 rfl) v11364 (((hF11803.1 1 4 (by decide)).trans (hF11786.1 1 4 (by decide))).trans hv11364) ?_
          refine q_putI (Sh.int hI11802.1 kx_0 rfl) rfl ?_
          have hI11807 := HI.wI1 hI11802 kx_0 rfl (p := 0) (b := 15) (v := v11364) rfl (by dsimp only; omega)
          have hF11808 := Fr.wI (p := 0) (b := 15) (v := v11364) hF11806 rfl
          refine r_aload_n e11790 ?_
          refine q_getR (Sh.ref hI11807.1 kx_0 rfl) ?_
          refine q_getR (Sh.ref hI11807.1 kx_204 rfl) ?_
          refine r_iconst 0 rfl ?_
          refine r_aload_n e11790 ?_
          refine q_getR (Sh.ref hI11807.1 kx_0 rfl) ?_
          refine r_iconst 0 rfl ?_
          refine r_bipush 8 rfl ?_
          have zv11809 : (0 : Int32).toInt = 0 := rfl
          have zv11810 : (0 : Int32).toInt = 0 := rfl
          have zv11811 : (8 : Int32).toInt = 8 := rfl
          refine q_cpy rfl (Nat.le_of_ble_eq_true rfl) (Sh.arr hI11807.1 ka_212) (Sh.arr hI11807.1 ka_228) ⟨by omega, by omega, by omega, by omega, by omega⟩ ?_
          have hI11812 := HI.cpy0 hI11807 ka_212 ka_228 rfl rfl ((0 : Int32).toInt.toNat) ((0 : Int32).toInt.toNat) ((8 : Int32).toInt.toNat) (by omega) (by omega)
          have hF11813 := Fr.cpy (p0 := 212) (p1 := 228) hF11808 rfl ((0 : Int32).toInt.toNat) ((0 : Int32).toInt.toNat) ((8 : Int32).toInt.toNat)
          refine r_aload_n e11790 ?_
          refine q_getR (Sh.ref hI11812.1 kx_0 rfl) ?_
          refine q_getR (Sh.ref hI11812.1 kx_204 rfl) ?_
          refine r_iconst 0 rfl ?_
          refine r_aload_n e11790 ?_
          refine q_getR (Sh.ref hI11812.1 kx_0 rfl) ?_
          refine r_iconst 0 rfl ?_
          refine r_bipush 8 rfl ?_
          have zv11814 : (0 : Int32).toInt = 0 := rfl
          have zv11815 : (0 : Int32).toInt = 0 := rfl
          have zv11816 : (8 : Int32).toInt = 8 := rfl
          refine q_cpy rfl (Nat.le_of_ble_eq_true rfl) (Sh.arr hI11812.1 ka_207) (Sh.arr hI11812.1 ka_229) ⟨by omega, by omega, by omega, by omega, by omega⟩ ?_
          have hI11817 := HI.cpy0 hI11812 ka_207 ka_229 rfl rfl ((0 : Int32).toInt.toNat) ((0 : Int32).toInt.toNat) ((8 : Int32).toInt.toNat) (by omega) (by omega)
          have hF11818 := Fr.cpy (p0 := 207) (p1 := 229) hF11813 rfl ((0 : Int32).toInt.toNat) ((0 : Int32).toInt.toNat) ((8 : Int32).toInt.toNat)
          refine r_aload_n e11790 ?_
          refine r_aload_n e11790 ?_
          refine q_getR (Sh.ref hI11817.1 kx_0 rfl) ?_
          refine r_callV 180 rfl [.ref 204] [.ref 0] (Nat.le_of_ble_eq_true rfl) rfl (T_X1_comeByNoon_204 _ hI11817) ?_
          rintro _ _ ⟨g11819, rfl, hI11820, hF11821, v11822, rfl, hr11823⟩
          refine At.sti ?_
          have hF11824 := Fr.tr hF11818 hF11821 rfl rfl
          refine At.enter rfl ?_
          refine q_inlV 183 rfl [.ref 0, .int v11822] [] (Nat.le_of_ble_eq_true rfl) rfl ?_
          refine Ev.mk rfl rfl ⟨Nat.le_of_ble_eq_true rfl, Or.inr (q_rc hI11820.1 kx_0 rfl)⟩ ?_
          show At _ none _ _ (0, [(0, .ref 0), (1, .int v11822)], [], (_, _)) _
          refine At.enter rfl ?_
          refine r_aload_n rfl ?_
          refine r_iconst 0 rfl ?_
          refine q_putI (Sh.int hI11820.1 kx_0 rfl) rfl ?_
          have hI11825 := HI.wI0 hI11820 kx_0 rfl (p := 0) (b := 17) (v := 0) rfl
          have hF11826 := Fr.wI (p := 0) (b := 17) (v := 0) hF11824 rfl
          refine r_iload_n rfl ?_
          refine q_ireti ?_
          refine At.enter rfl ?_
          refine r_ireti ?_
          exact ⟨_, rfl, hI11825, hF11826, _, rfl, trivial⟩
        · have c11798_ : x11783.toInt < v11797.toInt := en_i_ge_f c11798
          refine At.enter rfl ?_
          refine r_iload_n e11792 ?_
          refine q_inlS 81 rfl [.int x11782] [] (Nat.le_of_ble_eq_true rfl) rfl ?_
          refine Ev.mk rfl rfl ⟨Nat.le_of_ble_eq_true rfl, Or.inl rfl⟩ ?_
          show At _ none _ _ (0, [(0, .int x11782)], [], (_, _)) _
          refine At.enter rfl ?_
          refine r_iload_n rfl ?_
          refine r_sipush 1103 rfl ?_
          refine q_imulO (fun v11827 _ => ?_)
          refine r_sipush 12345 rfl ?_
          refine q_iaddO (fun v11828 _ => ?_)
          refine r_ldcw 1000003 rfl ?_
          refine q_iremO (by decide) (fun v11829 _ => ?_)
          refine q_ireti ?_
          refine At.enter rfl ?_
          refine r_istore_n _ rfl ?_
          refine r_iload_n (w_e1 _ _ _) ?_
          refine r_iconst 3 rfl ?_
          refine q_iremO (by decide) (fun v11830 _ => ?_)
          refine r_ifs 88 rfl (fun c11831 => ?_) (fun c11831 => ?_)
          · have c11831_ : v11830.toInt ≠ 0 := en_k_ne_t c11831
            refine At.enter rfl ?_
            refine q_iinc (w_p1 (by decide) (Or.inr rfl) e11793) (x11783.toInt + 1) rfl (by omega) (fun v11832 hv11832 => ?_)
            refine r_goto ?_
            have bv11833 := q_bnd v11829
            exact ih11789 (12 - v11832.toInt) _ _ ⟨v11829, v11832, by first | rfl | omega, hI11785, hF11786, (w_p1 (by decide) (Or.inr rfl) (w_p1 (by decide) (Or.inr rfl) e11790)), (w_p1 (by decide) (Or.inr rfl) (w_p1 (by decide) (Or.inr rfl) e11791)), (w_p1 (by decide) (Or.inr rfl) (w_e1 _ _ _)), (w_e1 _ _ _), by omega⟩ ⟨by omega, by omega⟩
          · have c11831_ : v11830.toInt = 0 := en_k_ne_f c11831
            refine At.enter rfl ?_
            refine r_aload_n (w_p1 (by decide) (Or.inr rfl) e11790) ?_
            refine q_getR (Sh.ref hI11785.1 kx_0 rfl) ?_
            refine q_getR (Sh.ref hI11785.1 kx_204 rfl) ?_
            refine r_iload_n (w_p1 (by decide) (Or.inr rfl) e11793) ?_
            refine r_iconst 1 rfl ?_
            refine r_aload_n (w_p1 (by decide) (Or.inr rfl) e11790) ?_
            refine q_getR (Sh.ref hI11785.1 kx_0 rfl) ?_
            refine q_getR (Sh.ref hI11785.1 kx_204 rfl) ?_
            refine r_iload_n (w_p1 (by decide) (Or.inr rfl) e11793) ?_
            obtain ⟨v11834, hv11834⟩ : ∃ v, eA g11784 205 x11783.toInt = v := ⟨_, rfl⟩
            refine q_iald (Sh.arr hI11785.1 ka_205) x11783.toInt rfl (by omega) v11834 hv11834 ?_
            refine r_iconst 1 rfl ?_
            refine q_isubO (fun v11835 _ => ?_)
            refine q_mmax rfl (Nat.le_of_ble_eq_true rfl) (fun v11836 hv11836 => ?_)
            have zv11837 : (1 : Int32).toInt = 1 := rfl
            refine q_iast (Sh.arr hI11785.1 ka_205) (x11783.toInt) rfl (by omega) ?_
            have hI11838 := HI.wA0 hI11785 ka_205 (p := 205) rfl rfl (x11783.toInt) (v11836)
            have hF11839 := Fr.wA (p := 205) (j := x11783.toInt) (v := v11836) hF11786 rfl
            refine Ar.fall 112 rfl ?_
            refine At.enter rfl ?_
            refine q_iinc (w_p1 (by decide) (Or.inr rfl) e11793) (x11783.toInt + 1) rfl (by omega) (fun v11840 hv11840 => ?_)
            refine r_goto ?_
            have bv11841 := q_bnd v11829
            exact ih11789 (12 - v11840.toInt) _ _ ⟨v11829, v11840, by first | rfl | omega, hI11838, hF11839, (w_p1 (by decide) (Or.inr rfl) (w_p1 (by decide) (Or.inr rfl) e11790)), (w_p1 (by decide) (Or.inr rfl) (w_p1 (by decide) (Or.inr rfl) e11791)), (w_p1 (by decide) (Or.inr rfl) (w_e1 _ _ _)), (w_e1 _ _ _), by omega⟩ ⟨by omega, by omega⟩
      · have c11365_ : x11350.toInt < v11364.toInt := en_i_ge_f c11365
        refine At.enter rfl ?_
        refine r_iload_n e11359 ?_
        refine q_inlS 44 rfl [.int x11349] [] (Nat.le_of_ble_eq_true rfl) rfl ?_
        refine Ev.mk rfl rfl ⟨Nat.le_of_ble_eq_true rfl, Or.inl rfl⟩ ?_
        show At _ none _ _ (0, [(0, .int x11349)], [], (_, _)) _
        refine At.enter rfl ?_
        refine r_iload_n rfl ?_
        refine r_sipush 1103 rfl ?_
        refine q_imulO (fun v11842 _ => ?_)
        refine r_sipush 12345 rfl ?_
        refine q_iaddO (fun v11843 _ => ?_)
        refine r_ldcw 1000003 rfl ?_
        refine q_iremO (by decide) (fun v11844 _ => ?_)
        refine q_ireti ?_
        refine At.enter rfl ?_
        refine r_istore_n _ rfl ?_
        refine r_aload_n (w_p1 (by decide) (Or.inr rfl) e11357) ?_
        refine q_getR (Sh.ref hI11352.1 kx_0 rfl) ?_
        refine q_getR (Sh.ref hI11352.1 kx_204 rfl) ?_
        refine r_iload_n (w_p1 (by decide) (Or.inr rfl) e11360) ?_
        refine r_iload_n (w_e1 _ _ _) ?_
        refine r_bipush 30 rfl ?_
        refine q_iremO (by decide) (fun v11845 _ => ?_)
        refine q_iast (Sh.arr hI11352.1 ka_207) (x11350.toInt) rfl (by omega) ?_
        have hI11846 := HI.wA0 hI11352 ka_207 (p := 207) rfl rfl (x11350.toInt) (v11845)
        have hF11847 := Fr.wA (p := 207) (j := x11350.toInt) (v := v11845) hF11353 rfl
        refine q_iinc (w_p1 (by decide) (Or.inr rfl) e11360) (x11350.toInt + 1) rfl (by omega) (fun v11848 hv11848 => ?_)
        refine r_goto ?_
        have bv11849 := q_bnd v11844
        exact ih11356 (8 - v11848.toInt) _ _ ⟨v11844, v11848, by first | rfl | omega, hI11846, hF11847, (w_p1 (by decide) (Or.inr rfl) (w_p1 (by decide) (Or.inr rfl) e11357)), (w_p1 (by decide) (Or.inr rfl) (w_p1 (by decide) (Or.inr rfl) e11358)), (w_p1 (by decide) (Or.inr rfl) (w_e1 _ _ _)), (w_e1 _ _ _), by omega⟩ ⟨by omega, by omega⟩

def F_X10_drawn_0 : List (Nat × Nat) := []
def A_X10_drawn_0 : List Nat := []
set_option maxRecDepth 100000 in
set_option maxHeartbeats 4000000 in
theorem T_X10_drawn_0 (d : Nat) {N : Nat} {g0 : List en_E} (hI0 : HI g0) (a1 : Int32) (a2 : Int32) : Ev (d + 2) 139 [.ref 0, .int a1, .int a2] (g0, N) (fun w h' => ∃ g', h' = (g', N) ∧ HI g' ∧ Fr F_X10_drawn_0 A_X10_drawn_0 g0 g' ∧ ∃ r : Int32, w = some (.int r) ∧ True) := by
  have hF0 : Fr F_X10_drawn_0 A_X10_drawn_0 g0 g0 := Fr.rf
  refine Ev.mk rfl rfl ⟨Nat.le_of_ble_eq_true rfl, Or.inr (q_rc hI0.1 kx_0 rfl)⟩ ?_
  show At _ none _ _ (0, [(0, .ref 0), (1, .int a1), (2, .int a2)], [], (_, _)) _
  refine At.enter rfl ?_
  refine r_iload_n rfl ?_
  refine r_iconst 0 rfl ?_
  refine r_aload_n rfl ?_
  obtain ⟨v23, hv23⟩ : ∃ v, gI g0 0 15 = v := ⟨_, rfl⟩
  have rv23 := RgF.at hI0.2.1 (p := 0) (b := 15) rfl
  rw [hv23] at rv23
  dsimp only at rv23
  refine q_getI (Sh.int hI0.1 kx_0 rfl) v23 hv23 ?_
  refine r_iconst 1 rfl ?_
  refine q_isub (v23.toInt - 1) rfl (by omega) (fun v24 hv24 => ?_)
  refine q_inlS 11 rfl [.int a1, .int 0, .int v24] [] (Nat.le_of_ble_eq_true rfl) rfl ?_
  refine Ev.mk rfl rfl ⟨Nat.le_of_ble_eq_true rfl, Or.inl rfl⟩ ?_
  show At _ none _ _ (0, [(0, .int a1), (1, .int 0), (2, .int v24)], [], (_, _)) _
  refine At.enter rfl ?_
  refine r_iload_n rfl ?_
  refine r_iload_n rfl ?_
  refine r_ics 5 rfl (fun c25 => ?_) (fun c25 => ?_)
  · have c25_ : a1.toInt < 0 := en_i_lt_t c25
    refine At.enter rfl ?_
    refine r_iconst 0 rfl ?_
    refine Ar.fall 15 rfl ?_
    refine At.enter rfl ?_
    refine q_iretz (by decide) ?_
    refine At.enter rfl ?_
    refine r_ift (by decide) ?_
    refine At.enter rfl ?_
    refine r_iconst (-1) rfl ?_
    refine r_ireti ?_
    exact ⟨_, rfl, hI0, hF0, _, rfl, trivial⟩
  · have c25_ : a1.toInt ≥ 0 := en_i_lt_f c25
    refine At.enter rfl ?_
    refine r_iload_n rfl ?_
    refine r_iload_n rfl ?_
    have bv27 := q_bnd a1
    have bv28 := q_bnd v24
    refine r_ics 10 rfl (fun c26 => ?_) (fun c26 => ?_)
    · have c26_ : a1.toInt > v24.toInt := en_i_gt_t c26
      refine At.enter rfl ?_
      refine r_iconst 0 rfl ?_
      refine Ar.fall 15 rfl ?_
      refine At.enter rfl ?_
      refine q_iretz (by decide) ?_
      refine At.enter rfl ?_
      refine r_ift (by decide) ?_
      refine At.enter rfl ?_
      refine r_iconst (-1) rfl ?_
      refine r_ireti ?_
      exact ⟨_, rfl, hI0, hF0, _, rfl, trivial⟩
    · have c26_ : a1.toInt ≤ v24.toInt := en_i_gt_f c26
      refine At.enter rfl ?_
      refine r_iconst 1 rfl ?_
      refine r_goto ?_
      refine At.enter rfl ?_
      refine q_iretz (by decide) ?_
      refine At.enter rfl ?_
      refine r_iff 14 rfl (by decide) ?_
      refine At.enter rfl ?_
      refine r_iload_n rfl ?_
      refine r_iconst 0 rfl ?_
      refine r_iconst 1 rfl ?_
      refine q_inlS 20 rfl [.int a2, .int 0, .int 1] [] (Nat.le_of_ble_eq_true rfl) rfl ?_
      refine Ev.mk rfl rfl ⟨Nat.le_of_ble_eq_true rfl, Or.inl rfl⟩ ?_
      show At _ none _ _ (0, [(0, .int a2), (1, .int 0), (2, .int 1)], [], (_, _)) _
      refine At.enter rfl ?_
      refine r_iload_n rfl ?_
      refine r_iload_n rfl ?_
      refine r_ics 5 rfl (fun c29 => ?_) (fun c29 => ?_)
      · have c29_ : a2.toInt < 0 := en_i_lt_t c29
        refine At.enter rfl ?_
        refine r_iconst 0 rfl ?_
        refine Ar.fall 15 rfl ?_
        refine At.enter rfl ?_
        refine q_iretz (by decide) ?_
        refine At.enter rfl ?_
        refine r_iff 23 rfl (by decide) ?_
        refine At.enter rfl ?_
        refine r_iconst (-1) rfl ?_
        refine r_ireti ?_
        exact ⟨_, rfl, hI0, hF0, _, rfl, trivial⟩
      · have c29_ : a2.toInt ≥ 0 := en_i_lt_f c29
        refine At.enter rfl ?_
        refine r_iload_n rfl ?_
        refine r_iload_n rfl ?_
        refine r_ics 10 rfl (fun c30 => ?_) (fun c30 => ?_)
        · have c30_ : a2.toInt > 1 := en_i_gt_t c30
          refine At.enter rfl ?_
          refine r_iconst 0 rfl ?_
          refine Ar.fall 15 rfl ?_
          refine At.enter rfl ?_
          refine q_iretz (by decide) ?_
          refine At.enter rfl ?_
          refine r_iff 23 rfl (by decide) ?_
          refine At.enter rfl ?_
          refine r_iconst (-1) rfl ?_
          refine r_ireti ?_
          exact ⟨_, rfl, hI0, hF0, _, rfl, trivial⟩
        · have c30_ : a2.toInt ≤ 1 := en_i_gt_f c30
          refine At.enter rfl ?_
          refine r_iconst 1 rfl ?_
          refine r_goto ?_
          refine At.enter rfl ?_
          refine q_iretz (by decide) ?_
          refine At.enter rfl ?_
          refine r_ift (by decide) ?_
          refine At.enter rfl ?_
          refine r_iload_n rfl ?_
          refine r_ifs 29 rfl (fun c31 => ?_) (fun c31 => ?_)
          · have c31_ : a2.toInt ≠ 0 := en_k_ne_t c31
            refine At.enter rfl ?_
            refine r_aload_n rfl ?_
            refine q_getR (Sh.ref hI0.1 kx_0 rfl) ?_
            refine r_iload_n rfl ?_
            obtain ⟨v32, hv32⟩ : ∃ v, eA g0 229 a1.toInt = v := ⟨_, rfl⟩
            refine q_iald (Sh.arr hI0.1 ka_229) a1.toInt rfl (by omega) v32 hv32 ?_
            refine Ar.fall 44 rfl ?_
            refine At.enter rfl ?_
            refine r_ireti ?_
            exact ⟨_, rfl, hI0, hF0, _, rfl, trivial⟩
          · have c31_ : a2.toInt = 0 := en_k_ne_f c31
            refine At.enter rfl ?_
            refine r_aload_n rfl ?_
            refine q_getR (Sh.ref hI0.1 kx_0 rfl) ?_
            refine r_iload_n rfl ?_
            obtain ⟨v33, hv33⟩ : ∃ v, eA g0 228 a1.toInt = v := ⟨_, rfl⟩
            refine q_iald (Sh.arr hI0.1 ka_228) a1.toInt rfl (by omega) v33 hv33 ?_
            refine r_goto ?_
            refine At.enter rfl ?_
            refine r_ireti ?_
            exact ⟨_, rfl, hI0, hF0, _, rfl, trivial⟩

def F_X10_image_0 : List (Nat × Nat) := [(0, 17), (7, 0), (7, 3), (7, 4), (16, 0), (16, 3), (16, 4), (23, 0), (23, 3), (23, 4), (30, 0), (30, 3), (30, 4), (37, 0), (37, 3), (37, 4), (44, 0), (44, 3), (44, 4), (51, 0), (51, 3), (51, 4), (59, 0), (59, 4), (59, 6), (59, 9), (59, 10), (59, 11), (59, 12), (65, 0), (65, 3), (65, 4), (74, 0), (74, 3), (74, 4), (81, 0), (81, 3), (81, 4), (88, 0), (88, 3), (88, 4), (95, 0), (95, 3), (95, 4), (102, 0), (102, 3), (102, 4), (109, 0), (109, 3), (109, 4), (116, 0), (116, 4), (116, 6), (116, 9), (116, 10), (116, 11), (116, 12), (122, 0), (122, 3), (122, 4), (131, 0), (131, 3), (131, 4), (138, 0), (138, 3), (138, 4), (145, 0), (145, 3), (145, 4), (152, 0), (152, 3), (152, 4), (159, 0), (159, 3), (159, 4), (166, 0), (166, 3), (166, 4), (177, 0), (177, 3), (177, 4)]
def A_X10_image_0 : List Nat := [8, 9, 10, 11, 12, 13, 17, 18, 19, 20, 21, 22, 24, 25, 26, 27, 28, 29, 31, 32, 33, 34, 35, 36, 38, 39, 40, 41, 42, 43, 45, 46, 47, 48, 49, 50, 52, 53, 54, 55, 56, 57, 60, 61, 62, 63, 66, 67, 68, 69, 70, 71, 72, 73, 75, 76, 77, 78, 79, 80, 82, 83, 84, 85, 86, 87, 89, 90, 91, 92, 93, 94, 96, 97, 98, 99, 100, 101, 103, 104, 105, 106, 107, 108, 110, 111, 112, 113, 114, 115, 117, 118, 119, 120, 123, 124, 125, 126, 127, 128, 129, 130, 132, 133, 134, 135, 136, 137, 139, 140, 141, 142, 143, 144, 146, 147, 148, 149, 150, 151, 153, 154, 155, 156, 157, 158, 160, 161, 162, 163, 164, 165, 167, 168, 169, 170, 171, 172, 173, 178, 179, 180, 181, 182, 183, 230]
set_option maxRecDepth 100000 in
set_option maxHeartbeats 4000000 in
theorem T_X10_image_0 (d : Nat) {N : Nat} {g0 : List en_E} (hI0 : HI g0) (a1 : Int32) : Ev (d + 3) 140 [.ref 0, .int a1] (g0, N) (fun w h' => ∃ g', h' = (g', N) ∧ HI g' ∧ Fr F_X10_image_0 A_X10_image_0 g0 g' ∧ ∃ r : Int32, w = some (.int r) ∧ ((-1) ≤ r.toInt ∧ r.toInt ≤ 0) ∧ ((a1.toInt = 0 → (gI g' 59 0).toInt = (gI g0 1 0).toInt ∧ (eA g' 173 0).toInt = 1) ∧ (a1.toInt ≠ 0 → (gI g' 59 0).toInt = (gI g0 59 0).toInt ∧ (eA g' 173 0).toInt = (eA g0 173 0).toInt) ∧ (a1.toInt = 1 → (gI g' 116 0).toInt = (gI g0 1 0).toInt ∧ (eA g' 173 1).toInt = 1) ∧ (a1.toInt ≠ 1 → (gI g' 116 0).toInt = (gI g0 116 0).toInt ∧ (eA g' 173 1).toInt = (eA g0 173 1).toInt))) := by
  have hF0 : Fr F_X10_image_0 A_X10_image_0 g0 g0 := Fr.rf
  refine Ev.mk rfl rfl ⟨Nat.le_of_ble_eq_true rfl, Or.inr (q_rc hI0.1 kx_0 rfl)⟩ ?_
  show At _ none _ _ (0, [(0, .ref 0), (1, .int a1)], [], (_, _)) _
  refine At.enter rfl ?_
  refine r_aload_n rfl ?_
  refine r_iload_n rfl ?_
  refine q_inlV 5 rfl [.ref 0, .int a1] [] (Nat.le_of_ble_eq_true rfl) rfl ?_
  refine Ev.mk rfl rfl ⟨Nat.le_of_ble_eq_true rfl, Or.inr (q_rc hI0.1 kx_0 rfl)⟩ ?_
  show At _ none _ _ (0, [(0, .ref 0), (1, .int a1)], [], (_, _)) _
  refine At.enter rfl ?_
  refine r_iload_n rfl ?_
  refine r_iconst 0 rfl ?_
  refine r_iconst 1 rfl ?_
  refine q_inlS 6 rfl [.int a1, .int 0, .int 1] [] (Nat.le_of_ble_eq_true rfl) rfl ?_
  refine Ev.mk rfl rfl ⟨Nat.le_of_ble_eq_true rfl, Or.inl rfl⟩ ?_
  show At _ none _ _ (0, [(0, .int a1), (1, .int 0), (2, .int 1)], [], (_, _)) _
  refine At.enter rfl ?_
  refine r_iload_n rfl ?_
  refine r_iload_n rfl ?_
  refine r_ics 5 rfl (fun c1255 => ?_) (fun c1255 => ?_)
  · have c1255_ : a1.toInt < 0 := en_i_lt_t c1255
    refine At.enter rfl ?_
    refine r_iconst 0 rfl ?_
    refine Ar.fall 15 rfl ?_
    refine At.enter rfl ?_
    refine q_iretz (by decide) ?_
    refine At.enter rfl ?_
    refine r_ift (by decide) ?_
    refine At.enter rfl ?_
    refine r_null ?_
    refine Ar.fall 19 rfl ?_
    refine At.enter rfl ?_
    refine q_zret ?_
    refine At.enter rfl ?_
    refine r_zstore_n ([(2, .null), (0, .ref 0), (1, .int a1)]) rfl ?_
    refine r_zload_n rfl ?_
    refine r_nnz 10 rfl ?_
    refine At.enter rfl ?_
    refine r_aload_n rfl ?_
    refine r_iconst (-1) rfl ?_
    refine r_callV 15 rfl [.ref 0, .int (-1)] [] (Nat.le_of_ble_eq_true rfl) rfl (T_X10_refused_0 _ hI0 (-1) (by decide)) ?_
    rintro _ _ ⟨g1256, rfl, hI1257, hF1258, v1259, rfl, hr1260⟩
    refine At.sti ?_
    have hF1261 := Fr.tr hF0 hF1258 rfl rfl
    have zv1262 : ((-1) : Int32).toInt = (-1) := rfl
    refine At.enter rfl ?_
    refine r_ireti ?_
    obtain ⟨v1263, hv1263⟩ : ∃ v, gI g0 59 0 = v := ⟨_, rfl⟩
    have rv1263 := RgF.at hI0.2.1 (p := 59) (b := 0) rfl
    rw [hv1263] at rv1263
    dsimp only at rv1263
    have tv1263 := congrArg Int32.toInt hv1263
    have x1264 := HI.eqI hI0 (p := 59) (b := 0) (hv1263)
    obtain ⟨v1265, hv1265⟩ : ∃ v, gI g0 116 0 = v := ⟨_, rfl⟩
    have rv1265 := RgF.at hI0.2.1 (p := 116) (b := 0) rfl
    rw [hv1265] at rv1265
    dsimp only at rv1265
    have tv1265 := congrArg Int32.toInt hv1265
    have x1266 := HI.eqI hI0 (p := 116) (b := 0) (hv1265)
    obtain ⟨v1267, hv1267⟩ : ∃ v, eA g0 173 0 = v := ⟨_, rfl⟩
    have tv1267 := congrArg Int32.toInt hv1267
    have x1268 := HI.eqA hI0 (p := 173) (j := 0) (hv1267)
    obtain ⟨v1269, hv1269⟩ : ∃ v, eA g0 173 1 = v := ⟨_, rfl⟩
    have tv1269 := congrArg Int32.toInt hv1269
    have x1270 := HI.eqA hI0 (p := 173) (j := 1) (hv1269)
    obtain ⟨v1271, hv1271⟩ : ∃ v, gI g0 1 0 = v := ⟨_, rfl⟩
    have rv1271 := RgF.at hI0.2.1 (p := 1) (b := 0) rfl
    rw [hv1271] at rv1271
    dsimp only at rv1271
    have tv1271 := congrArg Int32.toInt hv1271
    have x1272 := HI.eqI hI0 (p := 1) (b := 0) (hv1271)
    have x1273 := HI.eqI hI1257 (p := 59) (b := 0) (((hF1258.1 59 0 (by decide)).trans hv1263))
    have x1274 := HI.eqI hI1257 (p := 116) (b := 0) (((hF1258.1 116 0 (by decide)).trans hv1265))
    have x1275 := HI.eqA hI1257 (p := 173) (j := 0) (((eA_c (hF1258.2.1 173 (by decide))).trans hv1267))
    have x1276 := HI.eqA hI1257 (p := 173) (j := 1) (((eA_c (hF1258.2.1 173 (by decide))).trans hv1269))
    exact ⟨_, rfl, hI1257, hF1261, _, rfl, by omega, (by omega)⟩
  · have c1255_ : a1.toInt ≥ 0 := en_i_lt_f c1255
    refine At.enter rfl ?_
    refine r_iload_n rfl ?_
    refine r_iload_n rfl ?_
    refine r_ics 10 rfl (fun c1277 => ?_) (fun c1277 => ?_)
    · have c1277_ : a1.toInt > 1 := en_i_gt_t c1277
      refine At.enter rfl ?_
      refine r_iconst 0 rfl ?_
      refine Ar.fall 15 rfl ?_
      refine At.enter rfl ?_
      refine q_iretz (by decide) ?_
      refine At.enter rfl ?_
      refine r_ift (by decide) ?_
      refine At.enter rfl ?_
      refine r_null ?_
      refine Ar.fall 19 rfl ?_
      refine At.enter rfl ?_
      refine q_zret ?_
      refine At.enter rfl ?_
      refine r_zstore_n ([(2, .null), (0, .ref 0), (1, .int a1)]) rfl ?_
      refine r_zload_n rfl ?_
      refine r_nnz 10 rfl ?_
      refine At.enter rfl ?_
      refine r_aload_n rfl ?_
      refine r_iconst (-1) rfl ?_
      refine r_callV 15 rfl [.ref 0, .int (-1)] [] (Nat.le_of_ble_eq_true rfl) rfl (T_X10_refused_0 _ hI0 (-1) (by decide)) ?_
      rintro _ _ ⟨g1278, rfl, hI1279, hF1280, v1281, rfl, hr1282⟩
      refine At.sti ?_
      have hF1283 := Fr.tr hF0 hF1280 rfl rfl
      have zv1284 : ((-1) : Int32).toInt = (-1) := rfl
      refine At.enter rfl ?_
      refine r_ireti ?_
      obtain ⟨v1285, hv1285⟩ : ∃ v, gI g0 59 0 = v := ⟨_, rfl⟩
      have rv1285 := RgF.at hI0.2.1 (p := 59) (b := 0) rfl
      rw [hv1285] at rv1285
      dsimp only at rv1285
      have tv1285 := congrArg Int32.toInt hv1285
      have x1286 := HI.eqI hI0 (p := 59) (b := 0) (hv1285)
      obtain ⟨v1287, hv1287⟩ : ∃ v, gI g0 116 0 = v := ⟨_, rfl⟩
      have rv1287 := RgF.at hI0.2.1 (p := 116) (b := 0) rfl
      rw [hv1287] at rv1287
      dsimp only at rv1287
      have tv1287 := congrArg Int32.toInt hv1287
      have x1288 := HI.eqI hI0 (p := 116) (b := 0) (hv1287)
      obtain ⟨v1289, hv1289⟩ : ∃ v, eA g0 173 0 = v := ⟨_, rfl⟩
      have tv1289 := congrArg Int32.toInt hv1289
      have x1290 := HI.eqA hI0 (p := 173) (j := 0) (hv1289)
      obtain ⟨v1291, hv1291⟩ : ∃ v, eA g0 173 1 = v := ⟨_, rfl⟩
      have tv1291 := congrArg Int32.toInt hv1291
      have x1292 := HI.eqA hI0 (p := 173) (j := 1) (hv1291)
      obtain ⟨v1293, hv1293⟩ : ∃ v, gI g0 1 0 = v := ⟨_, rfl⟩
      have rv1293 := RgF.at hI0.2.1 (p := 1) (b := 0) rfl
      rw [hv1293] at rv1293
      dsimp only at rv1293
      have tv1293 := congrArg Int32.toInt hv1293
      have x1294 := HI.eqI hI0 (p := 1) (b := 0) (hv1293)
      have x1295 := HI.eqI hI1279 (p := 59) (b := 0) (((hF1280.1 59 0 (by decide)).trans hv1285))
      have x1296 := HI.eqI hI1279 (p := 116) (b := 0) (((hF1280.1 116 0 (by decide)).trans hv1287))
      have x1297 := HI.eqA hI1279 (p := 173) (j := 0) (((eA_c (hF1280.2.1 173 (by decide))).trans hv1289))
      have x1298 := HI.eqA hI1279 (p := 173) (j := 1) (((eA_c (hF1280.2.1 173 (by decide))).trans hv1291))
      exact ⟨_, rfl, hI1279, hF1283, _, rfl, by omega, (by omega)⟩
    · have c1277_ : a1.toInt ≤ 1 := en_i_gt_f c1277
      refine At.enter rfl ?_
      refine r_iconst 1 rfl ?_
      refine r_goto ?_
      refine At.enter rfl ?_
      refine q_iretz (by decide) ?_
      refine At.enter rfl ?_
      refine r_iff 9 rfl (by decide) ?_
      refine At.enter rfl ?_
      refine r_aload_n rfl ?_
      refine q_getR (Sh.ref hI0.1 kx_0 rfl) ?_
      refine r_iload_n rfl ?_
      by_cases c1299_0 : a1.toInt = 0
      · refine q_aald (Sh.rar hI0.1 ka_58) (by decide) 0 (by omega) (by decide) (some 59) rfl ?_
        refine r_goto ?_
        refine At.enter rfl ?_
        refine q_aret ?_
        refine At.enter rfl ?_
        refine r_astore_n ([(2, .ref 59), (0, .ref 0), (1, .int a1)]) rfl ?_
        refine r_aload_n rfl ?_
        refine r_nnr ?_
        refine At.enter rfl ?_
        refine r_aload_n rfl ?_
        refine r_aload_n rfl ?_
        refine q_getR (Sh.ref hI0.1 kx_0 rfl) ?_
        refine q_inlV 24 rfl [.ref 59, .ref 1] [] (Nat.le_of_ble_eq_true rfl) rfl ?_
        refine Ev.mk rfl rfl ⟨Nat.le_of_ble_eq_true rfl, Or.inr (q_rc hI0.1 kx_59 rfl)⟩ ?_
        show At _ none _ _ (0, [(0, .ref 59), (1, .ref 1)], [], (_, _)) _
        refine At.enter rfl ?_
        refine r_aload_n rfl ?_
        refine r_aload_n rfl ?_
        obtain ⟨v1300, hv1300⟩ : ∃ v, gI g0 1 0 = v := ⟨_, rfl⟩
        have rv1300 := RgF.at hI0.2.1 (p := 1) (b := 0) rfl
        rw [hv1300] at rv1300
        dsimp only at rv1300
        refine q_getI (Sh.int hI0.1 kx_1 rfl) v1300 hv1300 ?_
        refine q_putI (Sh.int hI0.1 kx_59 rfl) rfl ?_
        have hI1301 := HI.wI1 hI0 kx_59 rfl (p := 59) (b := 0) (v := v1300) rfl (by dsimp only; omega)
        have hF1302 := Fr.wI (p := 59) (b := 0) (v := v1300) hF0 rfl
        refine r_aload_n rfl ?_
        refine q_getR (Sh.ref hI1301.1 kx_1 rfl) ?_
        refine r_iconst 0 rfl ?_
        refine r_aload_n rfl ?_
        refine q_getR (Sh.ref hI1301.1 kx_59 rfl) ?_
        refine r_iconst 0 rfl ?_
        refine r_bipush 12 rfl ?_
        have zv1303 : (0 : Int32).toInt = 0 := rfl
        have zv1304 : (0 : Int32).toInt = 0 := rfl
        have zv1305 : (12 : Int32).toInt = 12 := rfl
        refine q_cpy rfl (Nat.le_of_ble_eq_true rfl) (Sh.arr hI1301.1 ka_2) (Sh.arr hI1301.1 ka_60) ⟨by omega, by omega, by omega, by omega, by omega⟩ ?_
        have hI1306 := HI.cpy0 hI1301 ka_2 ka_60 rfl rfl ((0 : Int32).toInt.toNat) ((0 : Int32).toInt.toNat) ((12 : Int32).toInt.toNat) (by omega) (by omega)
        have hF1307 := Fr.cpy (p0 := 2) (p1 := 60) hF1302 rfl ((0 : Int32).toInt.toNat) ((0 : Int32).toInt.toNat) ((12 : Int32).toInt.toNat)
        refine r_aload_n rfl ?_
        refine q_getR (Sh.ref hI1306.1 kx_1 rfl) ?_
        refine r_iconst 0 rfl ?_
        refine r_aload_n rfl ?_
        refine q_getR (Sh.ref hI1306.1 kx_59 rfl) ?_
        refine r_iconst 0 rfl ?_
        refine r_bipush 12 rfl ?_
        have zv1308 : (0 : Int32).toInt = 0 := rfl
        have zv1309 : (0 : Int32).toInt = 0 := rfl
        have zv1310 : (12 : Int32).toInt = 12 := rfl
        refine q_cpy rfl (Nat.le_of_ble_eq_true rfl) (Sh.arr hI1306.1 ka_3) (Sh.arr hI1306.1 ka_61) ⟨by omega, by omega, by omega, by omega, by omega⟩ ?_
        have hI1311 := HI.cpy0 hI1306 ka_3 ka_61 rfl rfl ((0 : Int32).toInt.toNat) ((0 : Int32).toInt.toNat) ((12 : Int32).toInt.toNat) (by omega) (by omega)
        have hF1312 := Fr.cpy (p0 := 3) (p1 := 61) hF1307 rfl ((0 : Int32).toInt.toNat) ((0 : Int32).toInt.toNat) ((12 : Int32).toInt.toNat)
        refine r_aload_n rfl ?_
        refine q_getR (Sh.ref hI1311.1 kx_1 rfl) ?_
        refine r_iconst 0 rfl ?_
        refine r_aload_n rfl ?_
        refine q_getR (Sh.ref hI1311.1 kx_59 rfl) ?_
        refine r_iconst 0 rfl ?_
        refine r_bipush 12 rfl ?_
        have zv1313 : (0 : Int32).toInt = 0 := rfl
        have zv1314 : (0 : Int32).toInt = 0 := rfl
        have zv1315 : (12 : Int32).toInt = 12 := rfl
        refine q_cpy rfl (Nat.le_of_ble_eq_true rfl) (Sh.arr hI1311.1 ka_4) (Sh.arr hI1311.1 ka_62) ⟨by omega, by omega, by omega, by omega, by omega⟩ ?_
        have hI1316 := HI.cpy0 hI1311 ka_4 ka_62 rfl rfl ((0 : Int32).toInt.toNat) ((0 : Int32).toInt.toNat) ((12 : Int32).toInt.toNat) (by omega) (by omega)
        have hF1317 := Fr.cpy (p0 := 4) (p1 := 62) hF1312 rfl ((0 : Int32).toInt.toNat) ((0 : Int32).toInt.toNat) ((12 : Int32).toInt.toNat)
        refine r_aload_n rfl ?_
        refine r_aload_n rfl ?_
        obtain ⟨v1318, hv1318⟩ : ∃ v, gI g0 1 4 = v := ⟨_, rfl⟩
        have rv1318 := RgF.at hI0.2.1 (p := 1) (b := 4) rfl
        rw [hv1318] at rv1318
        dsimp only at rv1318
        refine q_getI (Sh.int hI1316.1 kx_1 rfl) v1318 (((gI_sW).trans ((gI_sW).trans ((gI_sW).trans (gI_sI_ne (by decide))))).trans hv1318) ?_
        refine q_putI (Sh.int hI1316.1 kx_59 rfl) rfl ?_
        have hI1319 := HI.wI1 hI1316 kx_59 rfl (p := 59) (b := 4) (v := v1318) rfl (by dsimp only; omega)
        have hF1320 := Fr.wI (p := 59) (b := 4) (v := v1318) hF1317 rfl
        refine r_aload_n rfl ?_
        refine q_getR (Sh.ref hI1319.1 kx_1 rfl) ?_
        refine r_iconst 0 rfl ?_
        refine r_aload_n rfl ?_
        refine q_getR (Sh.ref hI1319.1 kx_59 rfl) ?_
        refine r_iconst 0 rfl ?_
        refine r_bipush 48 rfl ?_
        have zv1321 : (0 : Int32).toInt = 0 := rfl
        have zv1322 : (0 : Int32).toInt = 0 := rfl
        have zv1323 : (48 : Int32).toInt = 48 := rfl
        refine q_cpy rfl (Nat.le_of_ble_eq_true rfl) (Sh.arr hI1319.1 ka_5) (Sh.arr hI1319.1 ka_63) ⟨by omega, by omega, by omega, by omega, by omega⟩ ?_
        have hI1324 := HI.cpy0 hI1319 ka_5 ka_63 rfl rfl ((0 : Int32).toInt.toNat) ((0 : Int32).toInt.toNat) ((48 : Int32).toInt.toNat) (by omega) (by omega)
        have hF1325 := Fr.cpy (p0 := 5) (p1 := 63) hF1320 rfl ((0 : Int32).toInt.toNat) ((0 : Int32).toInt.toNat) ((48 : Int32).toInt.toNat)
        refine r_aload_n rfl ?_
        refine r_aload_n rfl ?_
        obtain ⟨v1326, hv1326⟩ : ∃ v, gI g0 1 6 = v := ⟨_, rfl⟩
        have rv1326 := RgF.at hI0.2.1 (p := 1) (b := 6) rfl
        rw [hv1326] at rv1326
        dsimp only at rv1326
        refine q_getI (Sh.int hI1324.1 kx_1 rfl) v1326 (((gI_sW).trans ((gI_sI_ne (by decide)).trans ((gI_sW).trans ((gI_sW).trans ((gI_sW).trans (gI_sI_ne (by decide))))))).trans hv1326) ?_
        refine q_putI (Sh.int hI1324.1 kx_59 rfl) rfl ?_
        have hI1327 := HI.wI1 hI1324 kx_59 rfl (p := 59) (b := 6) (v := v1326) rfl (by dsimp only; omega)
        have hF1328 := Fr.wI (p := 59) (b := 6) (v := v1326) hF1325 rfl
        refine r_iconst 0 rfl ?_
        refine r_istore_n ([(2, .int 0), (0, .ref 59), (1, .ref 1)]) rfl ?_
        refine Ar.fall 86 rfl ?_
        obtain ⟨v1329, hv1329⟩ : ∃ v, gI g0 116 0 = v := ⟨_, rfl⟩
        have rv1329 := RgF.at hI0.2.1 (p := 116) (b := 0) rfl
        rw [hv1329] at rv1329
        dsimp only at rv1329
        have tv1329 := congrArg Int32.toInt hv1329
        obtain ⟨v1330, hv1330⟩ : ∃ v, eA g0 173 0 = v := ⟨_, rfl⟩
        have tv1330 := congrArg Int32.toInt hv1330
        obtain ⟨v1331, hv1331⟩ : ∃ v, eA g0 173 1 = v := ⟨_, rfl⟩
        have tv1331 := congrArg Int32.toInt hv1331
        have z_1553 : (0 : Int32).toInt = 0 := rfl
        refine w_loopI (fun n_ l_ g_ => ∃ x1538 : Int32, n_ = 6 - x1538.toInt ∧ HI g_ ∧ Fr F_X10_image_0 A_X10_image_0 g0 g_ ∧ gI g_ 59 0 = v1300 ∧ gI g_ 116 0 = v1329 ∧ eA g_ 173 0 = v1330 ∧ eA g_ 173 1 = v1331 ∧ en_get 0 l_ = some (.ref 59) ∧ en_get 1 l_ = some (.ref 1) ∧ en_get 2 l_ = some (.int x1538) ∧ (0 ≤ x1538.toInt ∧ x1538.toInt ≤ 6)) ?_ (6 - 0) ⟨0, by first | rfl | omega, hI1327, hF1328, ((gI_sI_ne (by decide)).trans ((gI_sW).trans ((gI_sI_ne (by decide)).trans ((gI_sW).trans ((gI_sW).trans ((gI_sW).trans (gI_sI_eq hI0.1 kx_59 rfl _))))))), (((gI_sI_ne (by decide)).trans ((gI_sW).trans ((gI_sI_ne (by decide)).trans ((gI_sW).trans ((gI_sW).trans ((gI_sW).trans (gI_sI_ne (by decide)))))))).trans hv1329), (((eA_c gA_sI).trans ((eA_c (gA_sW_ne (by decide))).trans ((eA_c gA_sI).trans ((eA_c (gA_sW_ne (by decide))).trans ((eA_c (gA_sW_ne (by decide))).trans ((eA_c (gA_sW_ne (by decide))).trans (eA_c gA_sI))))))).trans hv1330), (((eA_c gA_sI).trans ((eA_c (gA_sW_ne (by decide))).trans ((eA_c gA_sI).trans ((eA_c (gA_sW_ne (by decide))).trans ((eA_c (gA_sW_ne (by decide))).trans ((eA_c (gA_sW_ne (by decide))).trans (eA_c gA_sI))))))).trans hv1331), rfl, rfl, rfl, by decide⟩
        rintro n1543 l1542 g1539 ⟨x1538, hm1554, hI1540, hF1541, e1545, e1546, e1547, e1548, e1549, e1550, e1551, r1552⟩ ih1544
        have tv1555 := congrArg Int32.toInt e1547
        have tv1556 := congrArg Int32.toInt e1548
        have tv1557 := congrArg Int32.toInt e1545
        have tv1558 := congrArg Int32.toInt e1546
        refine At.enter rfl ?_
        refine r_iload_n e1551 ?_
        refine r_bipush 6 rfl ?_
        refine r_ics 92 rfl (fun c1559 => ?_) (fun c1559 => ?_)
        · have c1559_ : x1538.toInt ≥ 6 := en_i_ge_t c1559
          refine At.enter rfl ?_
          refine r_aload_n e1549 ?_
          refine r_aload_n e1550 ?_
          obtain ⟨v1560, hv1560⟩ : ∃ v, gI g0 1 9 = v := ⟨_, rfl⟩
          refine q_getI (Sh.int hI1540.1 kx_1 rfl) v1560 ((hF1541.1 1 9 (by decide)).trans hv1560) ?_
          refine q_putI (Sh.int hI1540.1 kx_59 rfl) rfl ?_
          have hI1561 := HI.wI0 hI1540 kx_59 rfl (p := 59) (b := 9) (v := v1560) rfl
          have hF1562 := Fr.wI (p := 59) (b := 9) (v := v1560) hF1541 rfl
          refine r_aload_n e1549 ?_
          refine r_aload_n e1550 ?_
          obtain ⟨v1563, hv1563⟩ : ∃ v, gI g0 1 10 = v := ⟨_, rfl⟩
          refine q_getI (Sh.int hI1561.1 kx_1 rfl) v1563 (((gI_sI_ne (by decide)).trans (hF1541.1 1 10 (by decide))).trans hv1563) ?_
          refine q_putI (Sh.int hI1561.1 kx_59 rfl) rfl ?_
          have hI1564 := HI.wI0 hI1561 kx_59 rfl (p := 59) (b := 10) (v := v1563) rfl
          have hF1565 := Fr.wI (p := 59) (b := 10) (v := v1563) hF1562 rfl
          refine r_aload_n e1549 ?_
          refine r_aload_n e1550 ?_
          obtain ⟨v1566, hv1566⟩ : ∃ v, gI g0 1 11 = v := ⟨_, rfl⟩
          refine q_getI (Sh.int hI1564.1 kx_1 rfl) v1566 (((gI_sI_ne (by decide)).trans ((gI_sI_ne (by decide)).trans (hF1541.1 1 11 (by decide)))).trans hv1566) ?_
          refine q_putI (Sh.int hI1564.1 kx_59 rfl) rfl ?_
          have hI1567 := HI.wI0 hI1564 kx_59 rfl (p := 59) (b := 11) (v := v1566) rfl
          have hF1568 := Fr.wI (p := 59) (b := 11) (v := v1566) hF1565 rfl
          refine r_aload_n e1549 ?_
          refine r_aload_n e1550 ?_
          obtain ⟨v1569, hv1569⟩ : ∃ v, gI g0 1 12 = v := ⟨_, rfl⟩
          have rv1569 := RgF.at hI0.2.1 (p := 1) (b := 12) rfl
          rw [hv1569] at rv1569
          dsimp only at rv1569
          refine q_getI (Sh.int hI1567.1 kx_1 rfl) v1569 (((gI_sI_ne (by decide)).trans ((gI_sI_ne (by decide)).trans ((gI_sI_ne (by decide)).trans (hF1541.1 1 12 (by decide))))).trans hv1569) ?_
          refine q_putI (Sh.int hI1567.1 kx_59 rfl) rfl ?_
          have hI1570 := HI.wI1 hI1567 kx_59 rfl (p := 59) (b := 12) (v := v1569) rfl (by dsimp only; omega)
          have hF1571 := Fr.wI (p := 59) (b := 12) (v := v1569) hF1568 rfl
          refine r_aload_n e1550 ?_
          refine q_getR (Sh.ref hI1570.1 kx_1 rfl) ?_
          refine r_iconst 0 rfl ?_
          refine r_aload_n e1549 ?_
          refine q_getR (Sh.ref hI1570.1 kx_59 rfl) ?_
          refine r_iconst 0 rfl ?_
          refine r_bipush 8 rfl ?_
          have zv1572 : (0 : Int32).toInt = 0 := rfl
          have zv1573 : (0 : Int32).toInt = 0 := rfl
          have zv1574 : (8 : Int32).toInt = 8 := rfl
          refine q_cpy rfl (Nat.le_of_ble_eq_true rfl) (Sh.arr hI1570.1 ka_14) (Sh.arr hI1570.1 ka_72) ⟨by omega, by omega, by omega, by omega, by omega⟩ ?_
          have hI1575 := HI.cpy0 hI1570 ka_14 ka_72 rfl rfl ((0 : Int32).toInt.toNat) ((0 : Int32).toInt.toNat) ((8 : Int32).toInt.toNat) (by omega) (by omega)
          have hF1576 := Fr.cpy (p0 := 14) (p1 := 72) hF1571 rfl ((0 : Int32).toInt.toNat) ((0 : Int32).toInt.toNat) ((8 : Int32).toInt.toNat)
          refine r_aload_n e1550 ?_
          refine q_getR (Sh.ref hI1575.1 kx_1 rfl) ?_
          refine r_iconst 0 rfl ?_
          refine r_aload_n e1549 ?_
          refine q_getR (Sh.ref hI1575.1 kx_59 rfl) ?_
          refine r_iconst 0 rfl ?_
          refine r_bipush 8 rfl ?_
          have zv1577 : (0 : Int32).toInt = 0 := rfl
          have zv1578 : (0 : Int32).toInt = 0 := rfl
          have zv1579 : (8 : Int32).toInt = 8 := rfl
          refine q_cpy rfl (Nat.le_of_ble_eq_true rfl) (Sh.arr hI1575.1 ka_15) (Sh.arr hI1575.1 ka_73) ⟨by omega, by omega, by omega, by omega, by omega⟩ ?_
          have hI1580 := HI.cpy0 hI1575 ka_15 ka_73 rfl rfl ((0 : Int32).toInt.toNat) ((0 : Int32).toInt.toNat) ((8 : Int32).toInt.toNat) (by omega) (by omega)
          have hF1581 := Fr.cpy (p0 := 15) (p1 := 73) hF1576 rfl ((0 : Int32).toInt.toNat) ((0 : Int32).toInt.toNat) ((8 : Int32).toInt.toNat)
          refine q_vret ?_
          refine At.enter rfl ?_
          refine r_aload_n rfl ?_
          refine q_getR (Sh.ref hI1580.1 kx_0 rfl) ?_
          refine r_iload_n rfl ?_
          refine r_iconst 1 rfl ?_
          refine q_bast (Sh.arr hI1580.1 ka_173) (a1.toInt) rfl (by omega) rfl ?_
          have hI1582 := HI.wA0 hI1580 ka_173 (p := 173) rfl rfl (a1.toInt) (1)
          have hF1583 := Fr.wA (p := 173) (j := a1.toInt) (v := 1) hF1581 rfl
          refine r_aload_n rfl ?_
          refine r_iconst 0 rfl ?_
          refine q_inlV 36 rfl [.ref 0, .int 0] [] (Nat.le_of_ble_eq_true rfl) rfl ?_
          refine Ev.mk rfl rfl ⟨Nat.le_of_ble_eq_true rfl, Or.inr (q_rc hI1582.1 kx_0 rfl)⟩ ?_
          show At _ none _ _ (0, [(0, .ref 0), (1, .int 0)], [], (_, _)) _
          refine At.enter rfl ?_
          refine r_aload_n rfl ?_
          refine r_iconst 0 rfl ?_
          refine q_putI (Sh.int hI1582.1 kx_0 rfl) rfl ?_
          have hI1584 := HI.wI0 hI1582 kx_0 rfl (p := 0) (b := 17) (v := 0) rfl
          have hF1585 := Fr.wI (p := 0) (b := 17) (v := 0) hF1583 rfl
          refine r_iload_n rfl ?_
          refine q_ireti ?_
          refine At.enter rfl ?_
          refine r_ireti ?_
          have zv1586 : (0 : Int32).toInt = 0 := rfl
          obtain ⟨v1587, hv1587⟩ : ∃ v, gI g0 59 0 = v := ⟨_, rfl⟩
          have rv1587 := RgF.at hI0.2.1 (p := 59) (b := 0) rfl
          rw [hv1587] at rv1587
          dsimp only at rv1587
          have tv1587 := congrArg Int32.toInt hv1587
          have x1588 := HI.eqI hI0 (p := 59) (b := 0) (hv1587)
          have x1589 := HI.eqI hI0 (p := 116) (b := 0) (hv1329)
          have x1590 := HI.eqA hI0 (p := 173) (j := 0) (hv1330)
          have x1591 := HI.eqA hI0 (p := 173) (j := 1) (hv1331)
          have x1592 := HI.eqI hI0 (p := 1) (b := 0) (hv1300)
          have x1593 := HI.eqI hI1584 (p := 59) (b := 0) ((((gI_sI_ne (by decide)).trans ((gI_sW).trans ((gI_sW).trans ((gI_sW).trans ((gI_sI_ne (by decide)).trans ((gI_sI_ne (by decide)).trans ((gI_sI_ne (by decide)).trans (gI_sI_ne (by decide))))))))).trans e1545))
          have x1594 := HI.eqI hI1584 (p := 116) (b := 0) ((((gI_sI_ne (by decide)).trans ((gI_sW).trans ((gI_sW).trans ((gI_sW).trans ((gI_sI_ne (by decide)).trans ((gI_sI_ne (by decide)).trans ((gI_sI_ne (by decide)).trans (gI_sI_ne (by decide))))))))).trans e1546))
          have x1595 := fun e : a1.toInt = 0 => HI.eqA hI1584 (p := 173) (j := 0) (((eA_c gA_sI).trans (eA_sA_eq hI1580.1 ka_173 (by omega) (by first | decide | omega) (by first | decide | omega))))
          have zv1596 : (1 : Int32).toInt = 1 := rfl
          have x1597 := fun e : a1.toInt = 0 => HI.eqA hI1584 (p := 173) (j := 1) ((((eA_c gA_sI).trans ((eA_sA_ne hI1580.1 ka_173 (by first | decide | omega) (by first | decide | omega) (by first | decide | omega)).trans ((eA_c (gA_sW_ne (by decide))).trans ((eA_c (gA_sW_ne (by decide))).trans ((eA_c gA_sI).trans ((eA_c gA_sI).trans ((eA_c gA_sI).trans (eA_c gA_sI)))))))).trans e1548))
          exact ⟨_, rfl, hI1584, hF1585, _, rfl, by decide, (by omega)⟩
        · have c1559_ : x1538.toInt < 6 := en_i_ge_f c1559
          refine At.enter rfl ?_
          refine r_aload_n e1549 ?_
          refine r_iload_n e1551 ?_
          refine r_callV 97 rfl [.ref 59, .int x1538] [] (Nat.le_of_ble_eq_true rfl) rfl (T_X0_lawAt_59 _ hI1540 x1538) ?_
          rintro _ _ ⟨g1598, rfl, hI1599, hF1600, v1601, rfl, hr1602⟩
          refine At.str ?_
          have hF1603 := Fr.tr hF1541 hF1600 rfl rfl
          refine At.enter rfl ?_
          refine r_aload_n e1550 ?_
          refine r_iload_n e1551 ?_
          refine r_callV 102 rfl [.ref 1, .int x1538] [.ref (v1601)] (Nat.le_of_ble_eq_true rfl) rfl (T_X0_lawAt_1 _ hI1599 x1538) ?_
          rintro _ _ ⟨g1604, rfl, hI1605, hF1606, v1607, rfl, hr1608⟩
          refine At.str ?_
          have hF1609 := Fr.tr hF1603 hF1606 rfl rfl
          refine At.enter rfl ?_
          refine r_callV 105 rfl [.ref (v1601), .ref (v1607)] [] (Nat.le_of_ble_eq_true rfl) rfl (T_X4_become_law _ hI1605 (v1601) hr1602 (v1607) hr1608) ?_
          rintro _ _ ⟨g1610, rfl, hI1611, hF1612, rfl⟩
          refine At.stn ?_
          have hF1615 := Fr.tr hF1609 hF1612 rfl rfl
          refine At.enter rfl ?_
          refine q_iinc e1551 (x1538.toInt + 1) rfl (by omega) (fun v1616 hv1616 => ?_)
          refine r_goto ?_
          exact ih1544 (6 - v1616.toInt) _ _ ⟨v1616, by first | rfl | omega, hI1611, hF1615, (((hF1612.1 59 0 (by decide)).trans ((hF1606.1 59 0 (by decide)).trans (hF1600.1 59 0 (by decide)))).trans e1545), (((hF1612.1 116 0 (by decide)).trans ((hF1606.1 116 0 (by decide)).trans (hF1600.1 116 0 (by decide)))).trans e1546), (((eA_c (hF1612.2.1 173 (by decide))).trans ((eA_c (hF1606.2.1 173 (by decide))).trans (eA_c (hF1600.2.1 173 (by decide))))).trans e1547), (((eA_c (hF1612.2.1 173 (by decide))).trans ((eA_c (hF1606.2.1 173 (by decide))).trans (eA_c (hF1600.2.1 173 (by decide))))).trans e1548), (w_p1 (by decide) (Or.inr rfl) e1549), (w_p1 (by decide) (Or.inr rfl) e1550), (w_e1 _ _ _), by omega⟩ ⟨by omega, by omega⟩
      have c1299_1 : a1.toInt = 1 := by omega
      refine q_aald (Sh.rar hI0.1 ka_58) (by decide) 1 (by omega) (by decide) (some 116) rfl ?_
      refine r_goto ?_
      refine At.enter rfl ?_
      refine q_aret ?_
      refine At.enter rfl ?_
      refine r_astore_n ([(2, .ref 116), (0, .ref 0), (1, .int a1)]) rfl ?_
      refine r_aload_n rfl ?_
      refine r_nnr ?_
      refine At.enter rfl ?_
      refine r_aload_n rfl ?_
      refine r_aload_n rfl ?_
      refine q_getR (Sh.ref hI0.1 kx_0 rfl) ?_
      refine q_inlV 24 rfl [.ref 116, .ref 1] [] (Nat.le_of_ble_eq_true rfl) rfl ?_
      refine Ev.mk rfl rfl ⟨Nat.le_of_ble_eq_true rfl, Or.inr (q_rc hI0.1 kx_116 rfl)⟩ ?_
      show At _ none _ _ (0, [(0, .ref 116), (1, .ref 1)], [], (_, _)) _
      refine At.enter rfl ?_
      refine r_aload_n rfl ?_
      refine r_aload_n rfl ?_
      obtain ⟨v1617, hv1617⟩ : ∃ v, gI g0 1 0 = v := ⟨_, rfl⟩
      have rv1617 := RgF.at hI0.2.1 (p := 1) (b := 0) rfl
      rw [hv1617] at rv1617
      dsimp only at rv1617
      refine q_getI (Sh.int hI0.1 kx_1 rfl) v1617 hv1617 ?_
      refine q_putI (Sh.int hI0.1 kx_116 rfl) rfl ?_
      have hI1618 := HI.wI1 hI0 kx_116 rfl (p := 116) (b := 0) (v := v1617) rfl (by dsimp only; omega)
      have hF1619 := Fr.wI (p := 116) (b := 0) (v := v1617) hF0 rfl
      refine r_aload_n rfl ?_
      refine q_getR (Sh.ref hI1618.1 kx_1 rfl) ?_
      refine r_iconst 0 rfl ?_
      refine r_aload_n rfl ?_
      refine q_getR (Sh.ref hI1618.1 kx_116 rfl) ?_
      refine r_iconst 0 rfl ?_
      refine r_bipush 12 rfl ?_
      have zv1620 : (0 : Int32).toInt = 0 := rfl
      have zv1621 : (0 : Int32).toInt = 0 := rfl
      have zv1622 : (12 : Int32).toInt = 12 := rfl
      refine q_cpy rfl (Nat.le_of_ble_eq_true rfl) (Sh.arr hI1618.1 ka_2) (Sh.arr hI1618.1 ka_117) ⟨by omega, by omega, by omega, by omega, by omega⟩ ?_
      have hI1623 := HI.cpy0 hI1618 ka_2 ka_117 rfl rfl ((0 : Int32).toInt.toNat) ((0 : Int32).toInt.toNat) ((12 : Int32).toInt.toNat) (by omega) (by omega)
      have hF1624 := Fr.cpy (p0 := 2) (p1 := 117) hF1619 rfl ((0 : Int32).toInt.toNat) ((0 : Int32).toInt.toNat) ((12 : Int32).toInt.toNat)
      refine r_aload_n rfl ?_
      refine q_getR (Sh.ref hI1623.1 kx_1 rfl) ?_
      refine r_iconst 0 rfl ?_
      refine r_aload_n rfl ?_
      refine q_getR (Sh.ref hI1623.1 kx_116 rfl) ?_
      refine r_iconst 0 rfl ?_
      refine r_bipush 12 rfl ?_
      have zv1625 : (0 : Int32).toInt = 0 := rfl
      have zv1626 : (0 : Int32).toInt = 0 := rfl
      have zv1627 : (12 : Int32).toInt = 12 := rfl
      refine q_cpy rfl (Nat.le_of_ble_eq_true rfl) (Sh.arr hI1623.1 ka_3) (Sh.arr hI1623.1 ka_118) ⟨by omega, by omega, by omega, by omega, by omega⟩ ?_
      have hI1628 := HI.cpy0 hI1623 ka_3 ka_118 rfl rfl ((0 : Int32).toInt.toNat) ((0 : Int32).toInt.toNat) ((12 : Int32).toInt.toNat) (by omega) (by omega)
      have hF1629 := Fr.cpy (p0 := 3) (p1 := 118) hF1624 rfl ((0 : Int32).toInt.toNat) ((0 : Int32).toInt.toNat) ((12 : Int32).toInt.toNat)
      refine r_aload_n rfl ?_
      refine q_getR (Sh.ref hI1628.1 kx_1 rfl) ?_
      refine r_iconst 0 rfl ?_
      refine r_aload_n rfl ?_
      refine q_getR (Sh.ref hI1628.1 kx_116 rfl) ?_
      refine r_iconst 0 rfl ?_
      refine r_bipush 12 rfl ?_
      have zv1630 : (0 : Int32).toInt = 0 := rfl
      have zv1631 : (0 : Int32).toInt = 0 := rfl
      have zv1632 : (12 : Int32).toInt = 12 := rfl
      refine q_cpy rfl (Nat.le_of_ble_eq_true rfl) (Sh.arr hI1628.1 ka_4) (Sh.arr hI1628.1 ka_119) ⟨by omega, by omega, by omega, by omega, by omega⟩ ?_
      have hI1633 := HI.cpy0 hI1628 ka_4 ka_119 rfl rfl ((0 : Int32).toInt.toNat) ((0 : Int32).toInt.toNat) ((12 : Int32).toInt.toNat) (by omega) (by omega)
      have hF1634 := Fr.cpy (p0 := 4) (p1 := 119) hF1629 rfl ((0 : Int32).toInt.toNat) ((0 : Int32).toInt.toNat) ((12 : Int32).toInt.toNat)
      refine r_aload_n rfl ?_
      refine r_aload_n rfl ?_
      obtain ⟨v1635, hv1635⟩ : ∃ v, gI g0 1 4 = v := ⟨_, rfl⟩
      have rv1635 := RgF.at hI0.2.1 (p := 1) (b := 4) rfl
      rw [hv1635] at rv1635
      dsimp only at rv1635
      refine q_getI (Sh.int hI1633.1 kx_1 rfl) v1635 (((gI_sW).trans ((gI_sW).trans ((gI_sW).trans (gI_sI_ne (by decide))))).trans hv1635) ?_
      refine q_putI (Sh.int hI1633.1 kx_116 rfl) rfl ?_
      have hI1636 := HI.wI1 hI1633 kx_116 rfl (p := 116) (b := 4) (v := v1635) rfl (by dsimp only; omega)
      have hF1637 := Fr.wI (p := 116) (b := 4) (v := v1635) hF1634 rfl
      refine r_aload_n rfl ?_
      refine q_getR (Sh.ref hI1636.1 kx_1 rfl) ?_
      refine r_iconst 0 rfl ?_
      refine r_aload_n rfl ?_
      refine q_getR (Sh.ref hI1636.1 kx_116 rfl) ?_
      refine r_iconst 0 rfl ?_
      refine r_bipush 48 rfl ?_
      have zv1638 : (0 : Int32).toInt = 0 := rfl
      have zv1639 : (0 : Int32).toInt = 0 := rfl
      have zv1640 : (48 : Int32).toInt = 48 := rfl
      refine q_cpy rfl (Nat.le_of_ble_eq_true rfl) (Sh.arr hI1636.1 ka_5) (Sh.arr hI1636.1 ka_120) ⟨by omega, by omega, by omega, by omega, by omega⟩ ?_
      have hI1641 := HI.cpy0 hI1636 ka_5 ka_120 rfl rfl ((0 : Int32).toInt.toNat) ((0 : Int32).toInt.toNat) ((48 : Int32).toInt.toNat) (by omega) (by omega)
      have hF1642 := Fr.cpy (p0 := 5) (p1 := 120) hF1637 rfl ((0 : Int32).toInt.toNat) ((0 : Int32).toInt.toNat) ((48 : Int32).toInt.toNat)
      refine r_aload_n rfl ?_
      refine r_aload_n rfl ?_
      obtain ⟨v1643, hv1643⟩ : ∃ v, gI g0 1 6 = v := ⟨_, rfl⟩
      have rv1643 := RgF.at hI0.2.1 (p := 1) (b := 6) rfl
      rw [hv1643] at rv1643
      dsimp only at rv1643
      refine q_getI (Sh.int hI1641.1 kx_1 rfl) v1643 (((gI_sW).trans ((gI_sI_ne (by decide)).trans ((gI_sW).trans ((gI_sW).trans ((gI_sW).trans (gI_sI_ne (by decide))))))).trans hv1643) ?_
      refine q_putI (Sh.int hI1641.1 kx_116 rfl) rfl ?_
      have hI1644 := HI.wI1 hI1641 kx_116 rfl (p := 116) (b := 6) (v := v1643) rfl (by dsimp only; omega)
      have hF1645 := Fr.wI (p := 116) (b := 6) (v := v1643) hF1642 rfl
      refine r_iconst 0 rfl ?_
      refine r_istore_n ([(2, .int 0), (0, .ref 116), (1, .ref 1)]) rfl ?_
      refine Ar.fall 86 rfl ?_
      obtain ⟨v1646, hv1646⟩ : ∃ v, gI g0 59 0 = v := ⟨_, rfl⟩
      have rv1646 := RgF.at hI0.2.1 (p := 59) (b := 0) rfl
      rw [hv1646] at rv1646
      dsimp only at rv1646
      have tv1646 := congrArg Int32.toInt hv1646
      obtain ⟨v1647, hv1647⟩ : ∃ v, eA g0 173 0 = v := ⟨_, rfl⟩
      have tv1647 := congrArg Int32.toInt hv1647
      obtain ⟨v1648, hv1648⟩ : ∃ v, eA g0 173 1 = v := ⟨_, rfl⟩
      have tv1648 := congrArg Int32.toInt hv1648
      have z_1870 : (0 : Int32).toInt = 0 := rfl
      refine w_loopI (fun n_ l_ g_ => ∃ x1855 : Int32, n_ = 6 - x1855.toInt ∧ HI g_ ∧ Fr F_X10_image_0 A_X10_image_0 g0 g_ ∧ gI g_ 59 0 = v1646 ∧ gI g_ 116 0 = v1617 ∧ eA g_ 173 0 = v1647 ∧ eA g_ 173 1 = v1648 ∧ en_get 0 l_ = some (.ref 116) ∧ en_get 1 l_ = some (.ref 1) ∧ en_get 2 l_ = some (.int x1855) ∧ (0 ≤ x1855.toInt ∧ x1855.toInt ≤ 6)) ?_ (6 - 0) ⟨0, by first | rfl | omega, hI1644, hF1645, (((gI_sI_ne (by decide)).trans ((gI_sW).trans ((gI_sI_ne (by decide)).trans ((gI_sW).trans ((gI_sW).trans ((gI_sW).trans (gI_sI_ne (by decide)))))))).trans hv1646), ((gI_sI_ne (by decide)).trans ((gI_sW).trans ((gI_sI_ne (by decide)).trans ((gI_sW).trans ((gI_sW).trans ((gI_sW).trans (gI_sI_eq hI0.1 kx_116 rfl _))))))), (((eA_c gA_sI).trans ((eA_c (gA_sW_ne (by decide))).trans ((eA_c gA_sI).trans ((eA_c (gA_sW_ne (by decide))).trans ((eA_c (gA_sW_ne (by decide))).trans ((eA_c (gA_sW_ne (by decide))).trans (eA_c gA_sI))))))).trans hv1647), (((eA_c gA_sI).trans ((eA_c (gA_sW_ne (by decide))).trans ((eA_c gA_sI).trans ((eA_c (gA_sW_ne (by decide))).trans ((eA_c (gA_sW_ne (by decide))).trans ((eA_c (gA_sW_ne (by decide))).trans (eA_c gA_sI))))))).trans hv1648), rfl, rfl, rfl, by decide⟩
      rintro n1860 l1859 g1856 ⟨x1855, hm1871, hI1857, hF1858, e1862, e1863, e1864, e1865, e1866, e1867, e1868, r1869⟩ ih1861
      have tv1872 := congrArg Int32.toInt e1864
      have tv1873 := congrArg Int32.toInt e1865
      have tv1874 := congrArg Int32.toInt e1862
      have tv1875 := congrArg Int32.toInt e1863
      refine At.enter rfl ?_
      refine r_iload_n e1868 ?_
      refine r_bipush 6 rfl ?_
      refine r_ics 92 rfl (fun c1876 => ?_) (fun c1876 => ?_)
      · have c1876_ : x1855.toInt ≥ 6 := en_i_ge_t c1876
        refine At.enter rfl ?_
        refine r_aload_n e1866 ?_
        refine r_aload_n e1867 ?_
        obtain ⟨v1877, hv1877⟩ : ∃ v, gI g0 1 9 = v := ⟨_, rfl⟩
        refine q_getI (Sh.int hI1857.1 kx_1 rfl) v1877 ((hF1858.1 1 9 (by decide)).trans hv1877) ?_
        refine q_putI (Sh.int hI1857.1 kx_116 rfl) rfl ?_
        have hI1878 := HI.wI0 hI1857 kx_116 rfl (p := 116) (b := 9) (v := v1877) rfl
        have hF1879 := Fr.wI (p := 116) (b := 9) (v := v1877) hF1858 rfl
        refine r_aload_n e1866 ?_
        refine r_aload_n e1867 ?_
        obtain ⟨v1880, hv1880⟩ : ∃ v, gI g0 1 10 = v := ⟨_, rfl⟩
        refine q_getI (Sh.int hI1878.1 kx_1 rfl) v1880 (((gI_sI_ne (by decide)).trans (hF1858.1 1 10 (by decide))).trans hv1880) ?_
        refine q_putI (Sh.int hI1878.1 kx_116 rfl) rfl ?_
        have hI1881 := HI.wI0 hI1878 kx_116 rfl (p := 116) (b := 10) (v := v1880) rfl
        have hF1882 := Fr.wI (p := 116) (b := 10) (v := v1880) hF1879 rfl
        refine r_aload_n e1866 ?_
        refine r_aload_n e1867 ?_
        obtain ⟨v1883, hv1883⟩ : ∃ v, gI g0 1 11 = v := ⟨_, rfl⟩
        refine q_getI (Sh.int hI1881.1 kx_1 rfl) v1883 (((gI_sI_ne (by decide)).trans ((gI_sI_ne (by decide)).trans (hF1858.1 1 11 (by decide)))).trans hv1883) ?_
        refine q_putI (Sh.int hI1881.1 kx_116 rfl) rfl ?_
        have hI1884 := HI.wI0 hI1881 kx_116 rfl (p := 116) (b := 11) (v := v1883) rfl
        have hF1885 := Fr.wI (p := 116) (b := 11) (v := v1883) hF1882 rfl
        refine r_aload_n e1866 ?_
        refine r_aload_n e1867 ?_
        obtain ⟨v1886, hv1886⟩ : ∃ v, gI g0 1 12 = v := ⟨_, rfl⟩
        have rv1886 := RgF.at hI0.2.1 (p := 1) (b := 12) rfl
        rw [hv1886] at rv1886
        dsimp only at rv1886
        refine q_getI (Sh.int hI1884.1 kx_1 rfl) v1886 (((gI_sI_ne (by decide)).trans ((gI_sI_ne (by decide)).trans ((gI_sI_ne (by decide)).trans (hF1858.1 1 12 (by decide))))).trans hv1886) ?_
        refine q_putI (Sh.int hI1884.1 kx_116 rfl) rfl ?_
        have hI1887 := HI.wI1 hI1884 kx_116 rfl (p := 116) (b := 12) (v := v1886) rfl (by dsimp only; omega)
        have hF1888 := Fr.wI (p := 116) (b := 12) (v := v1886) hF1885 rfl
        refine r_aload_n e1867 ?_
        refine q_getR (Sh.ref hI1887.1 kx_1 rfl) ?_
        refine r_iconst 0 rfl ?_
        refine r_aload_n e1866 ?_
        refine q_getR (Sh.ref hI1887.1 kx_116 rfl) ?_
        refine r_iconst 0 rfl ?_
        refine r_bipush 8 rfl ?_
        have zv1889 : (0 : Int32).toInt = 0 := rfl
        have zv1890 : (0 : Int32).toInt = 0 := rfl
        have zv1891 : (8 : Int32).toInt = 8 := rfl
        refine q_cpy rfl (Nat.le_of_ble_eq_true rfl) (Sh.arr hI1887.1 ka_14) (Sh.arr hI1887.1 ka_129) ⟨by omega, by omega, by omega, by omega, by omega⟩ ?_
        have hI1892 := HI.cpy0 hI1887 ka_14 ka_129 rfl rfl ((0 : Int32).toInt.toNat) ((0 : Int32).toInt.toNat) ((8 : Int32).toInt.toNat) (by omega) (by omega)
        have hF1893 := Fr.cpy (p0 := 14) (p1 := 129) hF1888 rfl ((0 : Int32).toInt.toNat) ((0 : Int32).toInt.toNat) ((8 : Int32).toInt.toNat)
        refine r_aload_n e1867 ?_
        refine q_getR (Sh.ref hI1892.1 kx_1 rfl) ?_
        refine r_iconst 0 rfl ?_
        refine r_aload_n e1866 ?_
        refine q_getR (Sh.ref hI1892.1 kx_116 rfl) ?_
        refine r_iconst 0 rfl ?_
        refine r_bipush 8 rfl ?_
        have zv1894 : (0 : Int32).toInt = 0 := rfl
        have zv1895 : (0 : Int32).toInt = 0 := rfl
        have zv1896 : (8 : Int32).toInt = 8 := rfl
        refine q_cpy rfl (Nat.le_of_ble_eq_true rfl) (Sh.arr hI1892.1 ka_15) (Sh.arr hI1892.1 ka_130) ⟨by omega, by omega, by omega, by omega, by omega⟩ ?_
        have hI1897 := HI.cpy0 hI1892 ka_15 ka_130 rfl rfl ((0 : Int32).toInt.toNat) ((0 : Int32).toInt.toNat) ((8 : Int32).toInt.toNat) (by omega) (by omega)
        have hF1898 := Fr.cpy (p0 := 15) (p1 := 130) hF1893 rfl ((0 : Int32).toInt.toNat) ((0 : Int32).toInt.toNat) ((8 : Int32).toInt.toNat)
        refine q_vret ?_
        refine At.enter rfl ?_
        refine r_aload_n rfl ?_
        refine q_getR (Sh.ref hI1897.1 kx_0 rfl) ?_
        refine r_iload_n rfl ?_
        refine r_iconst 1 rfl ?_
        refine q_bast (Sh.arr hI1897.1 ka_173) (a1.toInt) rfl (by omega) rfl ?_
        have hI1899 := HI.wA0 hI1897 ka_173 (p := 173) rfl rfl (a1.toInt) (1)
        have hF1900 := Fr.wA (p := 173) (j := a1.toInt) (v := 1) hF1898 rfl
        refine r_aload_n rfl ?_
        refine r_iconst 0 rfl ?_
        refine q_inlV 36 rfl [.ref 0, .int 0] [] (Nat.le_of_ble_eq_true rfl) rfl ?_
        refine Ev.mk rfl rfl ⟨Nat.le_of_ble_eq_true rfl, Or.inr (q_rc hI1899.1 kx_0 rfl)⟩ ?_
        show At _ none _ _ (0, [(0, .ref 0), (1, .int 0)], [], (_, _)) _
        refine At.enter rfl ?_
        refine r_aload_n rfl ?_
        refine r_iconst 0 rfl ?_
        refine q_putI (Sh.int hI1899.1 kx_0 rfl) rfl ?_
        have hI1901 := HI.wI0 hI1899 kx_0 rfl (p := 0) (b := 17) (v := 0) rfl
        have hF1902 := Fr.wI (p := 0) (b := 17) (v := 0) hF1900 rfl
        refine r_iload_n rfl ?_
        refine q_ireti ?_
        refine At.enter rfl ?_
        refine r_ireti ?_
        have zv1903 : (0 : Int32).toInt = 0 := rfl
        have x1904 := HI.eqI hI0 (p := 59) (b := 0) (hv1646)
        obtain ⟨v1905, hv1905⟩ : ∃ v, gI g0 116 0 = v := ⟨_, rfl⟩
        have rv1905 := RgF.at hI0.2.1 (p := 116) (b := 0) rfl
        rw [hv1905] at rv1905
        dsimp only at rv1905
        have tv1905 := congrArg Int32.toInt hv1905
        have x1906 := HI.eqI hI0 (p := 116) (b := 0) (hv1905)
        have x1907 := HI.eqA hI0 (p := 173) (j := 0) (hv1647)
        have x1908 := HI.eqA hI0 (p := 173) (j := 1) (hv1648)
        have x1909 := HI.eqI hI0 (p := 1) (b := 0) (hv1617)
        have x1910 := HI.eqI hI1901 (p := 59) (b := 0) ((((gI_sI_ne (by decide)).trans ((gI_sW).trans ((gI_sW).trans ((gI_sW).trans ((gI_sI_ne (by decide)).trans ((gI_sI_ne (by decide)).trans ((gI_sI_ne (by decide)).trans (gI_sI_ne (by decide))))))))).trans e1862))
        have x1911 := HI.eqI hI1901 (p := 116) (b := 0) ((((gI_sI_ne (by decide)).trans ((gI_sW).trans ((gI_sW).trans ((gI_sW).trans ((gI_sI_ne (by decide)).trans ((gI_sI_ne (by decide)).trans ((gI_sI_ne (by decide)).trans (gI_sI_ne (by decide))))))))).trans e1863))
        have x1912 := fun e : a1.toInt = 1 => HI.eqA hI1901 (p := 173) (j := 0) ((((eA_c gA_sI).trans ((eA_sA_ne hI1897.1 ka_173 (by first | decide | omega) (by first | decide | omega) (by first | decide | omega)).trans ((eA_c (gA_sW_ne (by decide))).trans ((eA_c (gA_sW_ne (by decide))).trans ((eA_c gA_sI).trans ((eA_c gA_sI).trans ((eA_c gA_sI).trans (eA_c gA_sI)))))))).trans e1864))
        have x1913 := fun e : a1.toInt = 1 => HI.eqA hI1901 (p := 173) (j := 1) (((eA_c gA_sI).trans (eA_sA_eq hI1897.1 ka_173 (by omega) (by first | decide | omega) (by first | decide | omega))))
        have zv1914 : (1 : Int32).toInt = 1 := rfl
        exact ⟨_, rfl, hI1901, hF1902, _, rfl, by decide, (by omega)⟩
      · have c1876_ : x1855.toInt < 6 := en_i_ge_f c1876
        refine At.enter rfl ?_
        refine r_aload_n e1866 ?_
        refine r_iload_n e1868 ?_
        refine r_callV 97 rfl [.ref 116, .int x1855] [] (Nat.le_of_ble_eq_true rfl) rfl (T_X0_lawAt_116 _ hI1857 x1855) ?_
        rintro _ _ ⟨g1915, rfl, hI1916, hF1917, v1918, rfl, hr1919⟩
        refine At.str ?_
        have hF1920 := Fr.tr hF1858 hF1917 rfl rfl
        refine At.enter rfl ?_
        refine r_aload_n e1867 ?_
        refine r_iload_n e1868 ?_
        refine r_callV 102 rfl [.ref 1, .int x1855] [.ref (v1918)] (Nat.le_of_ble_eq_true rfl) rfl (T_X0_lawAt_1 _ hI1916 x1855) ?_
        rintro _ _ ⟨g1921, rfl, hI1922, hF1923, v1924, rfl, hr1925⟩
        refine At.str ?_
        have hF1926 := Fr.tr hF1920 hF1923 rfl rfl
        refine At.enter rfl ?_
        refine r_callV 105 rfl [.ref (v1918), .ref (v1924)] [] (Nat.le_of_ble_eq_true rfl) rfl (T_X4_become_law _ hI1922 (v1918) hr1919 (v1924) hr1925) ?_
        rintro _ _ ⟨g1927, rfl, hI1928, hF1929, rfl⟩
        refine At.stn ?_
        have hF1932 := Fr.tr hF1926 hF1929 rfl rfl
        refine At.enter rfl ?_
        refine q_iinc e1868 (x1855.toInt + 1) rfl (by omega) (fun v1933 hv1933 => ?_)
        refine r_goto ?_
        exact ih1861 (6 - v1933.toInt) _ _ ⟨v1933, by first | rfl | omega, hI1928, hF1932, (((hF1929.1 59 0 (by decide)).trans ((hF1923.1 59 0 (by decide)).trans (hF1917.1 59 0 (by decide)))).trans e1862), (((hF1929.1 116 0 (by decide)).trans ((hF1923.1 116 0 (by decide)).trans (hF1917.1 116 0 (by decide)))).trans e1863), (((eA_c (hF1929.2.1 173 (by decide))).trans ((eA_c (hF1923.2.1 173 (by decide))).trans (eA_c (hF1917.2.1 173 (by decide))))).trans e1864), (((eA_c (hF1929.2.1 173 (by decide))).trans ((eA_c (hF1923.2.1 173 (by decide))).trans (eA_c (hF1917.2.1 173 (by decide))))).trans e1865), (w_p1 (by decide) (Or.inr rfl) e1866), (w_p1 (by decide) (Or.inr rfl) e1867), (w_e1 _ _ _), by omega⟩ ⟨by omega, by omega⟩

def F_X10_back_0 : List (Nat × Nat) := [(0, 14), (0, 17), (1, 0), (1, 4), (1, 6), (1, 9), (1, 10), (1, 11), (1, 12), (7, 0), (7, 3), (7, 4), (16, 0), (16, 3), (16, 4), (23, 0), (23, 3), (23, 4), (30, 0), (30, 3), (30, 4), (37, 0), (37, 3), (37, 4), (44, 0), (44, 3), (44, 4), (51, 0), (51, 3), (51, 4), (65, 0), (65, 3), (65, 4), (74, 0), (74, 3), (74, 4), (81, 0), (81, 3), (81, 4), (88, 0), (88, 3), (88, 4), (95, 0), (95, 3), (95, 4), (102, 0), (102, 3), (102, 4), (109, 0), (109, 3), (109, 4), (122, 0), (122, 3), (122, 4), (131, 0), (131, 3), (131, 4), (138, 0), (138, 3), (138, 4), (145, 0), (145, 3), (145, 4), (152, 0), (152, 3), (152, 4), (159, 0), (159, 3), (159, 4), (166, 0), (166, 3), (166, 4), (177, 0), (177, 3), (177, 4), (220, 2), (222, 2), (223, 5), (223, 10)]
def A_X10_back_0 : List Nat := [2, 3, 4, 5, 8, 9, 10, 11, 12, 13, 14, 15, 17, 18, 19, 20, 21, 22, 24, 25, 26, 27, 28, 29, 31, 32, 33, 34, 35, 36, 38, 39, 40, 41, 42, 43, 45, 46, 47, 48, 49, 50, 52, 53, 54, 55, 56, 57, 66, 67, 68, 69, 70, 71, 75, 76, 77, 78, 79, 80, 82, 83, 84, 85, 86, 87, 89, 90, 91, 92, 93, 94, 96, 97, 98, 99, 100, 101, 103, 104, 105, 106, 107, 108, 110, 111, 112, 113, 114, 115, 123, 124, 125, 126, 127, 128, 132, 133, 134, 135, 136, 137, 139, 140, 141, 142, 143, 144, 146, 147, 148, 149, 150, 151, 153, 154, 155, 156, 157, 158, 160, 161, 162, 163, 164, 165, 167, 168, 169, 170, 171, 172, 178, 179, 180, 181, 182, 183, 230]
set_option maxRecDepth 100000 in
set_option maxHeartbeats 4000000 in
theorem T_X10_back_0 (d : Nat) {N : Nat} {g0 : List en_E} (hI0 : HI g0) (a1 : Int32) : Ev (d + 3) 141 [.ref 0, .int a1] (g0, N) (fun w h' => ∃ g', h' = (g', N) ∧ HI g' ∧ Fr F_X10_back_0 A_X10_back_0 g0 g' ∧ ∃ r : Int32, w = some (.int r) ∧ ((-2) ≤ r.toInt ∧ r.toInt ≤ 0) ∧ ((a1.toInt = 0 ∧ (eA g0 173 0).toInt ≠ 0 → (gI g' 1 0).toInt = (gI g0 59 0).toInt) ∧ (a1.toInt = 1 ∧ (eA g0 173 1).toInt ≠ 0 → (gI g' 1 0).toInt = (gI g0 116 0).toInt) ∧ (¬ (a1.toInt = 0 ∧ (eA g0 173 0).toInt ≠ 0) ∧ ¬ (a1.toInt = 1 ∧ (eA g0 173 1).toInt ≠ 0) → (gI g' 1 0).toInt = (gI g0 1 0).toInt))) := by
  have hF0 : Fr F_X10_back_0 A_X10_back_0 g0 g0 := Fr.rf
  refine Ev.mk rfl rfl ⟨Nat.le_of_ble_eq_true rfl, Or.inr (q_rc hI0.1 kx_0 rfl)⟩ ?_
  show At _ none _ _ (0, [(0, .ref 0), (1, .int a1)], [], (_, _)) _
  refine At.enter rfl ?_
  refine r_aload_n rfl ?_
  refine r_iload_n rfl ?_
  refine q_inlV 5 rfl [.ref 0, .int a1] [] (Nat.le_of_ble_eq_true rfl) rfl ?_
  refine Ev.mk rfl rfl ⟨Nat.le_of_ble_eq_true rfl, Or.inr (q_rc hI0.1 kx_0 rfl)⟩ ?_
  show At _ none _ _ (0, [(0, .ref 0), (1, .int a1)], [], (_, _)) _
  refine At.enter rfl ?_
  refine r_iload_n rfl ?_
  refine r_iconst 0 rfl ?_
  refine r_iconst 1 rfl ?_
  refine q_inlS 6 rfl [.int a1, .int 0, .int 1] [] (Nat.le_of_ble_eq_true rfl) rfl ?_
  refine Ev.mk rfl rfl ⟨Nat.le_of_ble_eq_true rfl, Or.inl rfl⟩ ?_
  show At _ none _ _ (0, [(0, .int a1), (1, .int 0), (2, .int 1)], [], (_, _)) _
  refine At.enter rfl ?_
  refine r_iload_n rfl ?_
  refine r_iload_n rfl ?_
  refine r_ics 5 rfl (fun c1303 => ?_) (fun c1303 => ?_)
  · have c1303_ : a1.toInt < 0 := en_i_lt_t c1303
    refine At.enter rfl ?_
    refine r_iconst 0 rfl ?_
    refine Ar.fall 15 rfl ?_
    refine At.enter rfl ?_
    refine q_iretz (by decide) ?_
    refine At.enter rfl ?_
    refine r_ift (by decide) ?_
    refine At.enter rfl ?_
    refine r_null ?_
    refine Ar.fall 19 rfl ?_
    refine At.enter rfl ?_
    refine q_zret ?_
    refine At.enter rfl ?_
    refine r_zstore_n ([(2, .null), (0, .ref 0), (1, .int a1)]) rfl ?_
    refine r_zload_n rfl ?_
    refine r_nnz 10 rfl ?_
    refine At.enter rfl ?_
    refine r_aload_n rfl ?_
    refine r_iconst (-1) rfl ?_
    refine r_callV 15 rfl [.ref 0, .int (-1)] [] (Nat.le_of_ble_eq_true rfl) rfl (T_X10_refused_0 _ hI0 (-1) (by decide)) ?_
    rintro _ _ ⟨g1304, rfl, hI1305, hF1306, v1307, rfl, hr1308⟩
    refine At.sti ?_
    have hF1309 := Fr.tr hF0 hF1306 rfl rfl
    have zv1310 : ((-1) : Int32).toInt = (-1) := rfl
    refine At.enter rfl ?_
    refine r_ireti ?_
    obtain ⟨v1311, hv1311⟩ : ∃ v, gI g0 1 0 = v := ⟨_, rfl⟩
    have rv1311 := RgF.at hI0.2.1 (p := 1) (b := 0) rfl
    rw [hv1311] at rv1311
    dsimp only at rv1311
    have tv1311 := congrArg Int32.toInt hv1311
    have x1312 := HI.eqI hI0 (p := 1) (b := 0) (hv1311)
    obtain ⟨v1313, hv1313⟩ : ∃ v, gI g0 59 0 = v := ⟨_, rfl⟩
    have rv1313 := RgF.at hI0.2.1 (p := 59) (b := 0) rfl
    rw [hv1313] at rv1313
    dsimp only at rv1313
    have tv1313 := congrArg Int32.toInt hv1313
    have x1314 := HI.eqI hI0 (p := 59) (b := 0) (hv1313)
    obtain ⟨v1315, hv1315⟩ : ∃ v, gI g0 116 0 = v := ⟨_, rfl⟩
    have rv1315 := RgF.at hI0.2.1 (p := 116) (b := 0) rfl
    rw [hv1315] at rv1315
    dsimp only at rv1315
    have tv1315 := congrArg Int32.toInt hv1315
    have x1316 := HI.eqI hI0 (p := 116) (b := 0) (hv1315)
    obtain ⟨v1317, hv1317⟩ : ∃ v, eA g0 173 0 = v := ⟨_, rfl⟩
    have tv1317 := congrArg Int32.toInt hv1317
    have x1318 := HI.eqA hI0 (p := 173) (j := 0) (hv1317)
    obtain ⟨v1319, hv1319⟩ : ∃ v, eA g0 173 1 = v := ⟨_, rfl⟩
    have tv1319 := congrArg Int32.toInt hv1319
    have x1320 := HI.eqA hI0 (p := 173) (j := 1) (hv1319)
    have x1321 := HI.eqI hI1305 (p := 1) (b := 0) (((hF1306.1 1 0 (by decide)).trans hv1311))
    exact ⟨_, rfl, hI1305, hF1309, _, rfl, by omega, (by omega)⟩
  · have c1303_ : a1.toInt ≥ 0 := en_i_lt_f c1303
    refine At.enter rfl ?_
    refine r_iload_n rfl ?_
    refine r_iload_n rfl ?_
    refine r_ics 10 rfl (fun c1322 => ?_) (fun c1322 => ?_)
    · have c1322_ : a1.toInt > 1 := en_i_gt_t c1322
      refine At.enter rfl ?_
      refine r_iconst 0 rfl ?_
      refine Ar.fall 15 rfl ?_
      refine At.enter rfl ?_
      refine q_iretz (by decide) ?_
      refine At.enter rfl ?_
      refine r_ift (by decide) ?_
      refine At.enter rfl ?_
      refine r_null ?_
      refine Ar.fall 19 rfl ?_
      refine At.enter rfl ?_
      refine q_zret ?_
      refine At.enter rfl ?_
      refine r_zstore_n ([(2, .null), (0, .ref 0), (1, .int a1)]) rfl ?_
      refine r_zload_n rfl ?_
      refine r_nnz 10 rfl ?_
      refine At.enter rfl ?_
      refine r_aload_n rfl ?_
      refine r_iconst (-1) rfl ?_
      refine r_callV 15 rfl [.ref 0, .int (-1)] [] (Nat.le_of_ble_eq_true rfl) rfl (T_X10_refused_0 _ hI0 (-1) (by decide)) ?_
      rintro _ _ ⟨g1323, rfl, hI1324, hF1325, v1326, rfl, hr1327⟩
      refine At.sti ?_
      have hF1328 := Fr.tr hF0 hF1325 rfl rfl
      have zv1329 : ((-1) : Int32).toInt = (-1) := rfl
      refine At.enter rfl ?_
      refine r_ireti ?_
      obtain ⟨v1330, hv1330⟩ : ∃ v, gI g0 1 0 = v := ⟨_, rfl⟩
      have rv1330 := RgF.at hI0.2.1 (p := 1) (b := 0) rfl
      rw [hv1330] at rv1330
      dsimp only at rv1330
      have tv1330 := congrArg Int32.toInt hv1330
      have x1331 := HI.eqI hI0 (p := 1) (b := 0) (hv1330)
      obtain ⟨v1332, hv1332⟩ : ∃ v, gI g0 59 0 = v := ⟨_, rfl⟩
      have rv1332 := RgF.at hI0.2.1 (p := 59) (b := 0) rfl
      rw [hv1332] at rv1332
      dsimp only at rv1332
      have tv1332 := congrArg Int32.toInt hv1332
      have x1333 := HI.eqI hI0 (p := 59) (b := 0) (hv1332)
      obtain ⟨v1334, hv1334⟩ : ∃ v, gI g0 116 0 = v := ⟨_, rfl⟩
      have rv1334 := RgF.at hI0.2.1 (p := 116) (b := 0) rfl
      rw [hv1334] at rv1334
      dsimp only at rv1334
      have tv1334 := congrArg Int32.toInt hv1334
      have x1335 := HI.eqI hI0 (p := 116) (b := 0) (hv1334)
      obtain ⟨v1336, hv1336⟩ : ∃ v, eA g0 173 0 = v := ⟨_, rfl⟩
      have tv1336 := congrArg Int32.toInt hv1336
      have x1337 := HI.eqA hI0 (p := 173) (j := 0) (hv1336)
      obtain ⟨v1338, hv1338⟩ : ∃ v, eA g0 173 1 = v := ⟨_, rfl⟩
      have tv1338 := congrArg Int32.toInt hv1338
      have x1339 := HI.eqA hI0 (p := 173) (j := 1) (hv1338)
      have x1340 := HI.eqI hI1324 (p := 1) (b := 0) (((hF1325.1 1 0 (by decide)).trans hv1330))
      exact ⟨_, rfl, hI1324, hF1328, _, rfl, by omega, (by omega)⟩
    · have c1322_ : a1.toInt ≤ 1 := en_i_gt_f c1322
      refine At.enter rfl ?_
      refine r_iconst 1 rfl ?_
      refine r_goto ?_
      refine At.enter rfl ?_
      refine q_iretz (by decide) ?_
      refine At.enter rfl ?_
      refine r_iff 9 rfl (by decide) ?_
      refine At.enter rfl ?_
      refine r_aload_n rfl ?_
      refine q_getR (Sh.ref hI0.1 kx_0 rfl) ?_
      refine r_iload_n rfl ?_
      by_cases c1341_0 : a1.toInt = 0
      · refine q_aald (Sh.rar hI0.1 ka_58) (by decide) 0 (by omega) (by decide) (some 59) rfl ?_
        refine r_goto ?_
        refine At.enter rfl ?_
        refine q_aret ?_
        refine At.enter rfl ?_
        refine r_astore_n ([(2, .ref 59), (0, .ref 0), (1, .int a1)]) rfl ?_
        refine r_aload_n rfl ?_
        refine r_nnr ?_
        refine At.enter rfl ?_
        refine r_aload_n rfl ?_
        refine q_getR (Sh.ref hI0.1 kx_0 rfl) ?_
        refine r_iload_n rfl ?_
        obtain ⟨v1342, hv1342⟩ : ∃ v, eA g0 173 a1.toInt = v := ⟨_, rfl⟩
        refine q_bald (Sh.arr hI0.1 ka_173) a1.toInt rfl (by omega) v1342 hv1342 ?_
        refine r_ifs 25 rfl (fun c1343 => ?_) (fun c1343 => ?_)
        · have c1343_ : v1342.toInt ≠ 0 := en_k_ne_t c1343
          refine At.enter rfl ?_
          refine r_aload_n rfl ?_
          refine q_getR (Sh.ref hI0.1 kx_0 rfl) ?_
          refine r_aload_n rfl ?_
          refine q_inlV 40 rfl [.ref 1, .ref 59] [] (Nat.le_of_ble_eq_true rfl) rfl ?_
          refine Ev.mk rfl rfl ⟨Nat.le_of_ble_eq_true rfl, Or.inr (q_rc hI0.1 kx_1 rfl)⟩ ?_
          show At _ none _ _ (0, [(0, .ref 1), (1, .ref 59)], [], (_, _)) _
          refine At.enter rfl ?_
          refine r_aload_n rfl ?_
          refine r_aload_n rfl ?_
          obtain ⟨v1344, hv1344⟩ : ∃ v, gI g0 59 0 = v := ⟨_, rfl⟩
          have rv1344 := RgF.at hI0.2.1 (p := 59) (b := 0) rfl
          rw [hv1344] at rv1344
          dsimp only at rv1344
          refine q_getI (Sh.int hI0.1 kx_59 rfl) v1344 hv1344 ?_
          refine q_putI (Sh.int hI0.1 kx_1 rfl) rfl ?_
          have hI1345 := HI.wI1 hI0 kx_1 rfl (p := 1) (b := 0) (v := v1344) rfl (by dsimp only; omega)
          have hF1346 := Fr.wI (p := 1) (b := 0) (v := v1344) hF0 rfl
          refine r_aload_n rfl ?_
          refine q_getR (Sh.ref hI1345.1 kx_59 rfl) ?_
          refine r_iconst 0 rfl ?_
          refine r_aload_n rfl ?_
          refine q_getR (Sh.ref hI1345.1 kx_1 rfl) ?_
          refine r_iconst 0 rfl ?_
          refine r_bipush 12 rfl ?_
          have zv1347 : (0 : Int32).toInt = 0 := rfl
          have zv1348 : (0 : Int32).toInt = 0 := rfl
          have zv1349 : (12 : Int32).toInt = 12 := rfl
          refine q_cpy rfl (Nat.le_of_ble_eq_true rfl) (Sh.arr hI1345.1 ka_60) (Sh.arr hI1345.1 ka_2) ⟨by omega, by omega, by omega, by omega, by omega⟩ ?_
          have hI1350 := HI.cpy0 hI1345 ka_60 ka_2 rfl rfl ((0 : Int32).toInt.toNat) ((0 : Int32).toInt.toNat) ((12 : Int32).toInt.toNat) (by omega) (by omega)
          have hF1351 := Fr.cpy (p0 := 60) (p1 := 2) hF1346 rfl ((0 : Int32).toInt.toNat) ((0 : Int32).toInt.toNat) ((12 : Int32).toInt.toNat)
          refine r_aload_n rfl ?_
          refine q_getR (Sh.ref hI1350.1 kx_59 rfl) ?_
          refine r_iconst 0 rfl ?_
          refine r_aload_n rfl ?_
          refine q_getR (Sh.ref hI1350.1 kx_1 rfl) ?_
          refine r_iconst 0 rfl ?_
          refine r_bipush 12 rfl ?_
          have zv1352 : (0 : Int32).toInt = 0 := rfl
          have zv1353 : (0 : Int32).toInt = 0 := rfl
          have zv1354 : (12 : Int32).toInt = 12 := rfl
          refine q_cpy rfl (Nat.le_of_ble_eq_true rfl) (Sh.arr hI1350.1 ka_61) (Sh.arr hI1350.1 ka_3) ⟨by omega, by omega, by omega, by omega, by omega⟩ ?_
          have hI1355 := HI.cpy0 hI1350 ka_61 ka_3 rfl rfl ((0 : Int32).toInt.toNat) ((0 : Int32).toInt.toNat) ((12 : Int32).toInt.toNat) (by omega) (by omega)
          have hF1356 := Fr.cpy (p0 := 61) (p1 := 3) hF1351 rfl ((0 : Int32).toInt.toNat) ((0 : Int32).toInt.toNat) ((12 : Int32).toInt.toNat)
          refine r_aload_n rfl ?_
          refine q_getR (Sh.ref hI1355.1 kx_59 rfl) ?_
          refine r_iconst 0 rfl ?_
          refine r_aload_n rfl ?_
          refine q_getR (Sh.ref hI1355.1 kx_1 rfl) ?_
          refine r_iconst 0 rfl ?_
          refine r_bipush 12 rfl ?_
          have zv1357 : (0 : Int32).toInt = 0 := rfl
          have zv1358 : (0 : Int32).toInt = 0 := rfl
          have zv1359 : (12 : Int32).toInt = 12 := rfl
          refine q_cpy rfl (Nat.le_of_ble_eq_true rfl) (Sh.arr hI1355.1 ka_62) (Sh.arr hI1355.1 ka_4) ⟨by omega, by omega, by omega, by omega, by omega⟩ ?_
          have hI1360 := HI.cpy0 hI1355 ka_62 ka_4 rfl rfl ((0 : Int32).toInt.toNat) ((0 : Int32).toInt.toNat) ((12 : Int32).toInt.toNat) (by omega) (by omega)
          have hF1361 := Fr.cpy (p0 := 62) (p1 := 4) hF1356 rfl ((0 : Int32).toInt.toNat) ((0 : Int32).toInt.toNat) ((12 : Int32).toInt.toNat)
          refine r_aload_n rfl ?_
          refine r_aload_n rfl ?_
          obtain ⟨v1362, hv1362⟩ : ∃ v, gI g0 59 4 = v := ⟨_, rfl⟩
          have rv1362 := RgF.at hI0.2.1 (p := 59) (b := 4) rfl
          rw [hv1362] at rv1362
          dsimp only at rv1362
          refine q_getI (Sh.int hI1360.1 kx_59 rfl) v1362 (((gI_sW).trans ((gI_sW).trans ((gI_sW).trans (gI_sI_ne (by decide))))).trans hv1362) ?_
          refine q_putI (Sh.int hI1360.1 kx_1 rfl) rfl ?_
          have hI1363 := HI.wI1 hI1360 kx_1 rfl (p := 1) (b := 4) (v := v1362) rfl (by dsimp only; omega)
          have hF1364 := Fr.wI (p := 1) (b := 4) (v := v1362) hF1361 rfl
          refine r_aload_n rfl ?_
          refine q_getR (Sh.ref hI1363.1 kx_59 rfl) ?_
          refine r_iconst 0 rfl ?_
          refine r_aload_n rfl ?_
          refine q_getR (Sh.ref hI1363.1 kx_1 rfl) ?_
          refine r_iconst 0 rfl ?_
          refine r_bipush 48 rfl ?_
          have zv1365 : (0 : Int32).toInt = 0 := rfl
          have zv1366 : (0 : Int32).toInt = 0 := rfl
          have zv1367 : (48 : Int32).toInt = 48 := rfl
          refine q_cpy rfl (Nat.le_of_ble_eq_true rfl) (Sh.arr hI1363.1 ka_63) (Sh.arr hI1363.1 ka_5) ⟨by omega, by omega, by omega, by omega, by omega⟩ ?_
          have hI1368 := HI.cpy0 hI1363 ka_63 ka_5 rfl rfl ((0 : Int32).toInt.toNat) ((0 : Int32).toInt.toNat) ((48 : Int32).toInt.toNat) (by omega) (by omega)
          have hF1369 := Fr.cpy (p0 := 63) (p1 := 5) hF1364 rfl ((0 : Int32).toInt.toNat) ((0 : Int32).toInt.toNat) ((48 : Int32).toInt.toNat)
          refine r_aload_n rfl ?_
          refine r_aload_n rfl ?_
          obtain ⟨v1370, hv1370⟩ : ∃ v, gI g0 59 6 = v := ⟨_, rfl⟩
          have rv1370 := RgF.at hI0.2.1 (p := 59) (b := 6) rfl
          rw [hv1370] at rv1370
          dsimp only at rv1370
          refine q_getI (Sh.int hI1368.1 kx_59 rfl) v1370 (((gI_sW).trans ((gI_sI_ne (by decide)).trans ((gI_sW).trans ((gI_sW).trans ((gI_sW).trans (gI_sI_ne (by decide))))))).trans hv1370) ?_
          refine q_putI (Sh.int hI1368.1 kx_1 rfl) rfl ?_
          have hI1371 := HI.wI1 hI1368 kx_1 rfl (p := 1) (b := 6) (v := v1370) rfl (by dsimp only; omega)
          have hF1372 := Fr.wI (p := 1) (b := 6) (v := v1370) hF1369 rfl
          refine r_iconst 0 rfl ?_
          refine r_istore_n ([(2, .int 0), (0, .ref 1), (1, .ref 59)]) rfl ?_
          refine Ar.fall 86 rfl ?_
          have z_1599 : (0 : Int32).toInt = 0 := rfl
          refine w_loopI (fun n_ l_ g_ => ∃ x1587 : Int32, n_ = 6 - x1587.toInt ∧ HI g_ ∧ Fr F_X10_back_0 A_X10_back_0 g0 g_ ∧ gI g_ 1 0 = v1344 ∧ en_get 0 l_ = some (.ref 1) ∧ en_get 1 l_ = some (.ref 59) ∧ en_get 2 l_ = some (.int x1587) ∧ (0 ≤ x1587.toInt ∧ x1587.toInt ≤ 6)) ?_ (6 - 0) ⟨0, by first | rfl | omega, hI1371, hF1372, ((gI_sI_ne (by decide)).trans ((gI_sW).trans ((gI_sI_ne (by decide)).trans ((gI_sW).trans ((gI_sW).trans ((gI_sW).trans (gI_sI_eq hI0.1 kx_1 rfl _))))))), rfl, rfl, rfl, by decide⟩
          rintro n1592 l1591 g1588 ⟨x1587, hm1600, hI1589, hF1590, e1594, e1595, e1596, e1597, r1598⟩ ih1593
          have tv1601 := congrArg Int32.toInt e1594
          refine At.enter rfl ?_
          refine r_iload_n e1597 ?_
          refine r_bipush 6 rfl ?_
          refine r_ics 92 rfl (fun c1602 => ?_) (fun c1602 => ?_)
          · have c1602_ : x1587.toInt ≥ 6 := en_i_ge_t c1602
            refine At.enter rfl ?_
            refine r_aload_n e1595 ?_
            refine r_aload_n e1596 ?_
            obtain ⟨v1603, hv1603⟩ : ∃ v, gI g0 59 9 = v := ⟨_, rfl⟩
            refine q_getI (Sh.int hI1589.1 kx_59 rfl) v1603 ((hF1590.1 59 9 (by decide)).trans hv1603) ?_
            refine q_putI (Sh.int hI1589.1 kx_1 rfl) rfl ?_
            have hI1604 := HI.wI0 hI1589 kx_1 rfl (p := 1) (b := 9) (v := v1603) rfl
            have hF1605 := Fr.wI (p := 1) (b := 9) (v := v1603) hF1590 rfl
            refine r_aload_n e1595 ?_
            refine r_aload_n e1596 ?_
            obtain ⟨v1606, hv1606⟩ : ∃ v, gI g0 59 10 = v := ⟨_, rfl⟩
            refine q_getI (Sh.int hI1604.1 kx_59 rfl) v1606 (((gI_sI_ne (by decide)).trans (hF1590.1 59 10 (by decide))).trans hv1606) ?_
            refine q_putI (Sh.int hI1604.1 kx_1 rfl) rfl ?_
            have hI1607 := HI.wI0 hI1604 kx_1 rfl (p := 1) (b := 10) (v := v1606) rfl
            have hF1608 := Fr.wI (p := 1) (b := 10) (v := v1606) hF1605 rfl
            refine r_aload_n e1595 ?_
            refine r_aload_n e1596 ?_
            obtain ⟨v1609, hv1609⟩ : ∃ v, gI g0 59 11 = v := ⟨_, rfl⟩
            refine q_getI (Sh.int hI1607.1 kx_59 rfl) v1609 (((gI_sI_ne (by decide)).trans ((gI_sI_ne (by decide)).trans (hF1590.1 59 11 (by decide)))).trans hv1609) ?_
            refine q_putI (Sh.int hI1607.1 kx_1 rfl) rfl ?_
            have hI1610 := HI.wI0 hI1607 kx_1 rfl (p := 1) (b := 11) (v := v1609) rfl
            have hF1611 := Fr.wI (p := 1) (b := 11) (v := v1609) hF1608 rfl
            refine r_aload_n e1595 ?_
            refine r_aload_n e1596 ?_
            obtain ⟨v1612, hv1612⟩ : ∃ v, gI g0 59 12 = v := ⟨_, rfl⟩
            have rv1612 := RgF.at hI0.2.1 (p := 59) (b := 12) rfl
            rw [hv1612] at rv1612
            dsimp only at rv1612
            refine q_getI (Sh.int hI1610.1 kx_59 rfl) v1612 (((gI_sI_ne (by decide)).trans ((gI_sI_ne (by decide)).trans ((gI_sI_ne (by decide)).trans (hF1590.1 59 12 (by decide))))).trans hv1612) ?_
            refine q_putI (Sh.int hI1610.1 kx_1 rfl) rfl ?_
            have hI1613 := HI.wI1 hI1610 kx_1 rfl (p := 1) (b := 12) (v := v1612) rfl (by dsimp only; omega)
            have hF1614 := Fr.wI (p := 1) (b := 12) (v := v1612) hF1611 rfl
            refine r_aload_n e1596 ?_
            refine q_getR (Sh.ref hI1613.1 kx_59 rfl) ?_
            refine r_iconst 0 rfl ?_
            refine r_aload_n e1595 ?_
            refine q_getR (Sh.ref hI1613.1 kx_1 rfl) ?_
            refine r_iconst 0 rfl ?_
            refine r_bipush 8 rfl ?_
            have zv1615 : (0 : Int32).toInt = 0 := rfl
            have zv1616 : (0 : Int32).toInt = 0 := rfl
            have zv1617 : (8 : Int32).toInt = 8 := rfl
            refine q_cpy rfl (Nat.le_of_ble_eq_true rfl) (Sh.arr hI1613.1 ka_72) (Sh.arr hI1613.1 ka_14) ⟨by omega, by omega, by omega, by omega, by omega⟩ ?_
            have hI1618 := HI.cpy0 hI1613 ka_72 ka_14 rfl rfl ((0 : Int32).toInt.toNat) ((0 : Int32).toInt.toNat) ((8 : Int32).toInt.toNat) (by omega) (by omega)
            have hF1619 := Fr.cpy (p0 := 72) (p1 := 14) hF1614 rfl ((0 : Int32).toInt.toNat) ((0 : Int32).toInt.toNat) ((8 : Int32).toInt.toNat)
            refine r_aload_n e1596 ?_
            refine q_getR (Sh.ref hI1618.1 kx_59 rfl) ?_
            refine r_iconst 0 rfl ?_
            refine r_aload_n e1595 ?_
            refine q_getR (Sh.ref hI1618.1 kx_1 rfl) ?_
            refine r_iconst 0 rfl ?_
            refine r_bipush 8 rfl ?_
            have zv1620 : (0 : Int32).toInt = 0 := rfl
            have zv1621 : (0 : Int32).toInt = 0 := rfl
            have zv1622 : (8 : Int32).toInt = 8 := rfl
            refine q_cpy rfl (Nat.le_of_ble_eq_true rfl) (Sh.arr hI1618.1 ka_73) (Sh.arr hI1618.1 ka_15) ⟨by omega, by omega, by omega, by omega, by omega⟩ ?_
            have hI1623 := HI.cpy0 hI1618 ka_73 ka_15 rfl rfl ((0 : Int32).toInt.toNat) ((0 : Int32).toInt.toNat) ((8 : Int32).toInt.toNat) (by omega) (by omega)
            have hF1624 := Fr.cpy (p0 := 73) (p1 := 15) hF1619 rfl ((0 : Int32).toInt.toNat) ((0 : Int32).toInt.toNat) ((8 : Int32).toInt.toNat)
            refine q_vret ?_
            refine At.enter rfl ?_
            refine r_aload_n rfl ?_
            refine r_callV 44 rfl [.ref 0] [] (Nat.le_of_ble_eq_true rfl) rfl (T_X10_changed_0 _ hI1623) ?_
            rintro _ _ ⟨g1625, rfl, hI1626, hF1627, rfl⟩
            refine At.stn ?_
            have hF1630 := Fr.tr hF1624 hF1627 rfl rfl
            refine At.enter rfl ?_
            refine r_aload_n rfl ?_
            refine r_iconst 0 rfl ?_
            refine q_inlV 49 rfl [.ref 0, .int 0] [] (Nat.le_of_ble_eq_true rfl) rfl ?_
            refine Ev.mk rfl rfl ⟨Nat.le_of_ble_eq_true rfl, Or.inr (q_rc hI1626.1 kx_0 rfl)⟩ ?_
            show At _ none _ _ (0, [(0, .ref 0), (1, .int 0)], [], (_, _)) _
            refine At.enter rfl ?_
            refine r_aload_n rfl ?_
            refine r_iconst 0 rfl ?_
            refine q_putI (Sh.int hI1626.1 kx_0 rfl) rfl ?_
            have hI1631 := HI.wI0 hI1626 kx_0 rfl (p := 0) (b := 17) (v := 0) rfl
            have hF1632 := Fr.wI (p := 0) (b := 17) (v := 0) hF1630 rfl
            refine r_iload_n rfl ?_
            refine q_ireti ?_
            refine At.enter rfl ?_
            refine r_ireti ?_
            have zv1633 : (0 : Int32).toInt = 0 := rfl
            obtain ⟨v1634, hv1634⟩ : ∃ v, gI g0 1 0 = v := ⟨_, rfl⟩
            have rv1634 := RgF.at hI0.2.1 (p := 1) (b := 0) rfl
            rw [hv1634] at rv1634
            dsimp only at rv1634
            have tv1634 := congrArg Int32.toInt hv1634
            have x1635 := HI.eqI hI0 (p := 1) (b := 0) (hv1634)
            have x1636 := HI.eqI hI0 (p := 59) (b := 0) (hv1344)
            obtain ⟨v1637, hv1637⟩ : ∃ v, gI g0 116 0 = v := ⟨_, rfl⟩
            have rv1637 := RgF.at hI0.2.1 (p := 116) (b := 0) rfl
            rw [hv1637] at rv1637
            dsimp only at rv1637
            have tv1637 := congrArg Int32.toInt hv1637
            have x1638 := HI.eqI hI0 (p := 116) (b := 0) (hv1637)
            obtain ⟨v1639, hv1639⟩ : ∃ v, eA g0 173 0 = v := ⟨_, rfl⟩
            have tv1639 := congrArg Int32.toInt hv1639
            have x1640 := HI.eqA hI0 (p := 173) (j := 0) (hv1639)
            obtain ⟨v1641, hv1641⟩ : ∃ v, eA g0 173 1 = v := ⟨_, rfl⟩
            have tv1641 := congrArg Int32.toInt hv1641
            have x1642 := HI.eqA hI0 (p := 173) (j := 1) (hv1641)
            have x1643 := HI.eqI hI1631 (p := 1) (b := 0) ((((gI_sI_ne (by decide)).trans ((hF1627.1 1 0 (by decide)).trans ((gI_sW).trans ((gI_sW).trans ((gI_sI_ne (by decide)).trans ((gI_sI_ne (by decide)).trans ((gI_sI_ne (by decide)).trans (gI_sI_ne (by decide))))))))).trans e1594))
            have y1644 : a1.toInt = 0 → (eA g0 173 0).toInt = v1342.toInt := fun e => by rw [← hv1342, e]
            exact ⟨_, rfl, hI1631, hF1632, _, rfl, by decide, (by omega)⟩
          · have c1602_ : x1587.toInt < 6 := en_i_ge_f c1602
            refine At.enter rfl ?_
            refine r_aload_n e1595 ?_
            refine r_iload_n e1597 ?_
            refine r_callV 97 rfl [.ref 1, .int x1587] [] (Nat.le_of_ble_eq_true rfl) rfl (T_X0_lawAt_1 _ hI1589 x1587) ?_
            rintro _ _ ⟨g1645, rfl, hI1646, hF1647, v1648, rfl, hr1649⟩
            refine At.str ?_
            have hF1650 := Fr.tr hF1590 hF1647 rfl rfl
            refine At.enter rfl ?_
            refine r_aload_n e1596 ?_
            refine r_iload_n e1597 ?_
            refine r_callV 102 rfl [.ref 59, .int x1587] [.ref (v1648)] (Nat.le_of_ble_eq_true rfl) rfl (T_X0_lawAt_59 _ hI1646 x1587) ?_
            rintro _ _ ⟨g1651, rfl, hI1652, hF1653, v1654, rfl, hr1655⟩
            refine At.str ?_
            have hF1656 := Fr.tr hF1650 hF1653 rfl rfl
            refine At.enter rfl ?_
            refine r_callV 105 rfl [.ref (v1648), .ref (v1654)] [] (Nat.le_of_ble_eq_true rfl) rfl (T_X4_become_law _ hI1652 (v1648) hr1649 (v1654) hr1655) ?_
            rintro _ _ ⟨g1657, rfl, hI1658, hF1659, rfl⟩
            refine At.stn ?_
            have hF1662 := Fr.tr hF1656 hF1659 rfl rfl
            refine At.enter rfl ?_
            refine q_iinc e1597 (x1587.toInt + 1) rfl (by omega) (fun v1663 hv1663 => ?_)
            refine r_goto ?_
            exact ih1593 (6 - v1663.toInt) _ _ ⟨v1663, by first | rfl | omega, hI1658, hF1662, (((hF1659.1 1 0 (by decide)).trans ((hF1653.1 1 0 (by decide)).trans (hF1647.1 1 0 (by decide)))).trans e1594), (w_p1 (by decide) (Or.inr rfl) e1595), (w_p1 (by decide) (Or.inr rfl) e1596), (w_e1 _ _ _), by omega⟩ ⟨by omega, by omega⟩
        · have c1343_ : v1342.toInt = 0 := en_k_ne_f c1343
          refine At.enter rfl ?_
          refine r_aload_n rfl ?_
          refine r_bipush (-2) rfl ?_
          refine r_callV 31 rfl [.ref 0, .int (-2)] [] (Nat.le_of_ble_eq_true rfl) rfl (T_X10_refused_0 _ hI0 (-2) (by decide)) ?_
          rintro _ _ ⟨g1664, rfl, hI1665, hF1666, v1667, rfl, hr1668⟩
          refine At.sti ?_
          have hF1669 := Fr.tr hF0 hF1666 rfl rfl
          have zv1670 : ((-2) : Int32).toInt = (-2) := rfl
          refine At.enter rfl ?_
          refine r_ireti ?_
          obtain ⟨v1671, hv1671⟩ : ∃ v, gI g0 1 0 = v := ⟨_, rfl⟩
          have rv1671 := RgF.at hI0.2.1 (p := 1) (b := 0) rfl
          rw [hv1671] at rv1671
          dsimp only at rv1671
          have tv1671 := congrArg Int32.toInt hv1671
          have x1672 := HI.eqI hI0 (p := 1) (b := 0) (hv1671)
          obtain ⟨v1673, hv1673⟩ : ∃ v, gI g0 59 0 = v := ⟨_, rfl⟩
          have rv1673 := RgF.at hI0.2.1 (p := 59) (b := 0) rfl
          rw [hv1673] at rv1673
          dsimp only at rv1673
          have tv1673 := congrArg Int32.toInt hv1673
          have x1674 := HI.eqI hI0 (p := 59) (b := 0) (hv1673)
          obtain ⟨v1675, hv1675⟩ : ∃ v, gI g0 116 0 = v := ⟨_, rfl⟩
          have rv1675 := RgF.at hI0.2.1 (p := 116) (b := 0) rfl
          rw [hv1675] at rv1675
          dsimp only at rv1675
          have tv1675 := congrArg Int32.toInt hv1675
          have x1676 := HI.eqI hI0 (p := 116) (b := 0) (hv1675)
          obtain ⟨v1677, hv1677⟩ : ∃ v, eA g0 173 0 = v := ⟨_, rfl⟩
          have tv1677 := congrArg Int32.toInt hv1677
          have x1678 := HI.eqA hI0 (p := 173) (j := 0) (hv1677)
          obtain ⟨v1679, hv1679⟩ : ∃ v, eA g0 173 1 = v := ⟨_, rfl⟩
          have tv1679 := congrArg Int32.toInt hv1679
          have x1680 := HI.eqA hI0 (p := 173) (j := 1) (hv1679)
          have x1681 := HI.eqI hI1665 (p := 1) (b := 0) (((hF1666.1 1 0 (by decide)).trans hv1671))
          have y1682 : a1.toInt = 0 → (eA g0 173 0).toInt = v1342.toInt := fun e => by rw [← hv1342, e]
          exact ⟨_, rfl, hI1665, hF1669, _, rfl, by omega, (by omega)⟩
      have c1341_1 : a1.toInt = 1 := by omega
      refine q_aald (Sh.rar hI0.1 ka_58) (by decide) 1 (by omega) (by decide) (some 116) rfl ?_
      refine r_goto ?_
      refine At.enter rfl ?_
      refine q_aret ?_
      refine At.enter rfl ?_
      refine r_astore_n ([(2, .ref 116), (0, .ref 0), (1, .int a1)]) rfl ?_
      refine r_aload_n rfl ?_
      refine r_nnr ?_
      refine At.enter rfl ?_
      refine r_aload_n rfl ?_
      refine q_getR (Sh.ref hI0.1 kx_0 rfl) ?_
      refine r_iload_n rfl ?_
      obtain ⟨v1683, hv1683⟩ : ∃ v, eA g0 173 a1.toInt = v := ⟨_, rfl⟩
      refine q_bald (Sh.arr hI0.1 ka_173) a1.toInt rfl (by omega) v1683 hv1683 ?_
      refine r_ifs 25 rfl (fun c1684 => ?_) (fun c1684 => ?_)
      · have c1684_ : v1683.toInt ≠ 0 := en_k_ne_t c1684
        refine At.enter rfl ?_
        refine r_aload_n rfl ?_
        refine q_getR (Sh.ref hI0.1 kx_0 rfl) ?_
        refine r_aload_n rfl ?_
        refine q_inlV 40 rfl [.ref 1, .ref 116] [] (Nat.le_of_ble_eq_true rfl) rfl ?_
        refine Ev.mk rfl rfl ⟨Nat.le_of_ble_eq_true rfl, Or.inr (q_rc hI0.1 kx_1 rfl)⟩ ?_
        show At _ none _ _ (0, [(0, .ref 1), (1, .ref 116)], [], (_, _)) _
        refine At.enter rfl ?_
        refine r_aload_n rfl ?_
        refine r_aload_n rfl ?_
        obtain ⟨v1685, hv1685⟩ : ∃ v, gI g0 116 0 = v := ⟨_, rfl⟩
        have rv1685 := RgF.at hI0.2.1 (p := 116) (b := 0) rfl
        rw [hv1685] at rv1685
        dsimp only at rv1685
        refine q_getI (Sh.int hI0.1 kx_116 rfl) v1685 hv1685 ?_
        refine q_putI (Sh.int hI0.1 kx_1 rfl) rfl ?_
        have hI1686 := HI.wI1 hI0 kx_1 rfl (p := 1) (b := 0) (v := v1685) rfl (by dsimp only; omega)
        have hF1687 := Fr.wI (p := 1) (b := 0) (v := v1685) hF0 rfl
        refine r_aload_n rfl ?_
        refine q_getR (Sh.ref hI1686.1 kx_116 rfl) ?_
        refine r_iconst 0 rfl ?_
        refine r_aload_n rfl ?_
        refine q_getR (Sh.ref hI1686.1 kx_1 rfl) ?_
        refine r_iconst 0 rfl ?_
        refine r_bipush 12 rfl ?_
        have zv1688 : (0 : Int32).toInt = 0 := rfl
        have zv1689 : (0 : Int32).toInt = 0 := rfl
        have zv1690 : (12 : Int32).toInt = 12 := rfl
        refine q_cpy rfl (Nat.le_of_ble_eq_true rfl) (Sh.arr hI1686.1 ka_117) (Sh.arr hI1686.1 ka_2) ⟨by omega, by omega, by omega, by omega, by omega⟩ ?_
        have hI1691 := HI.cpy0 hI1686 ka_117 ka_2 rfl rfl ((0 : Int32).toInt.toNat) ((0 : Int32).toInt.toNat) ((12 : Int32).toInt.toNat) (by omega) (by omega)
        have hF1692 := Fr.cpy (p0 := 117) (p1 := 2) hF1687 rfl ((0 : Int32).toInt.toNat) ((0 : Int32).toInt.toNat) ((12 : Int32).toInt.toNat)
        refine r_aload_n rfl ?_
        refine q_getR (Sh.ref hI1691.1 kx_116 rfl) ?_
        refine r_iconst 0 rfl ?_
        refine r_aload_n rfl ?_
        refine q_getR (Sh.ref hI1691.1 kx_1 rfl) ?_
        refine r_iconst 0 rfl ?_
        refine r_bipush 12 rfl ?_
        have zv1693 : (0 : Int32).toInt = 0 := rfl
        have zv1694 : (0 : Int32).toInt = 0 := rfl
        have zv1695 : (12 : Int32).toInt = 12 := rfl
        refine q_cpy rfl (Nat.le_of_ble_eq_true rfl) (Sh.arr hI1691.1 ka_118) (Sh.arr hI1691.1 ka_3) ⟨by omega, by omega, by omega, by omega, by omega⟩ ?_
        have hI1696 := HI.cpy0 hI1691 ka_118 ka_3 rfl rfl ((0 : Int32).toInt.toNat) ((0 : Int32).toInt.toNat) ((12 : Int32).toInt.toNat) (by omega) (by omega)
        have hF1697 := Fr.cpy (p0 := 118) (p1 := 3) hF1692 rfl ((0 : Int32).toInt.toNat) ((0 : Int32).toInt.toNat) ((12 : Int32).toInt.toNat)
        refine r_aload_n rfl ?_
        refine q_getR (Sh.ref hI1696.1 kx_116 rfl) ?_
        refine r_iconst 0 rfl ?_
        refine r_aload_n rfl ?_
        refine q_getR (Sh.ref hI1696.1 kx_1 rfl) ?_
        refine r_iconst 0 rfl ?_
        refine r_bipush 12 rfl ?_
        have zv1698 : (0 : Int32).toInt = 0 := rfl
        have zv1699 : (0 : Int32).toInt = 0 := rfl
        have zv1700 : (12 : Int32).toInt = 12 := rfl
        refine q_cpy rfl (Nat.le_of_ble_eq_true rfl) (Sh.arr hI1696.1 ka_119) (Sh.arr hI1696.1 ka_4) ⟨by omega, by omega, by omega, by omega, by omega⟩ ?_
        have hI1701 := HI.cpy0 hI1696 ka_119 ka_4 rfl rfl ((0 : Int32).toInt.toNat) ((0 : Int32).toInt.toNat) ((12 : Int32).toInt.toNat) (by omega) (by omega)
        have hF1702 := Fr.cpy (p0 := 119) (p1 := 4) hF1697 rfl ((0 : Int32).toInt.toNat) ((0 : Int32).toInt.toNat) ((12 : Int32).toInt.toNat)
        refine r_aload_n rfl ?_
        refine r_aload_n rfl ?_
        obtain ⟨v1703, hv1703⟩ : ∃ v, gI g0 116 4 = v := ⟨_, rfl⟩
        have rv1703 := RgF.at hI0.2.1 (p := 116) (b := 4) rfl
        rw [hv1703] at rv1703
        dsimp only at rv1703
        refine q_getI (Sh.int hI1701.1 kx_116 rfl) v1703 (((gI_sW).trans ((gI_sW).trans ((gI_sW).trans (gI_sI_ne (by decide))))).trans hv1703) ?_
        refine q_putI (Sh.int hI1701.1 kx_1 rfl) rfl ?_
        have hI1704 := HI.wI1 hI1701 kx_1 rfl (p := 1) (b := 4) (v := v1703) rfl (by dsimp only; omega)
        have hF1705 := Fr.wI (p := 1) (b := 4) (v := v1703) hF1702 rfl
        refine r_aload_n rfl ?_
        refine q_getR (Sh.ref hI1704.1 kx_116 rfl) ?_
        refine r_iconst 0 rfl ?_
        refine r_aload_n rfl ?_
        refine q_getR (Sh.ref hI1704.1 kx_1 rfl) ?_
        refine r_iconst 0 rfl ?_
        refine r_bipush 48 rfl ?_
        have zv1706 : (0 : Int32).toInt = 0 := rfl
        have zv1707 : (0 : Int32).toInt = 0 := rfl
        have zv1708 : (48 : Int32).toInt = 48 := rfl
        refine q_cpy rfl (Nat.le_of_ble_eq_true rfl) (Sh.arr hI1704.1 ka_120) (Sh.arr hI1704.1 ka_5) ⟨by omega, by omega, by omega, by omega, by omega⟩ ?_
        have hI1709 := HI.cpy0 hI1704 ka_120 ka_5 rfl rfl ((0 : Int32).toInt.toNat) ((0 : Int32).toInt.toNat) ((48 : Int32).toInt.toNat) (by omega) (by omega)
        have hF1710 := Fr.cpy (p0 := 120) (p1 := 5) hF1705 rfl ((0 : Int32).toInt.toNat) ((0 : Int32).toInt.toNat) ((48 : Int32).toInt.toNat)
        refine r_aload_n rfl ?_
        refine r_aload_n rfl ?_
        obtain ⟨v1711, hv1711⟩ : ∃ v, gI g0 116 6 = v := ⟨_, rfl⟩
        have rv1711 := RgF.at hI0.2.1 (p := 116) (b := 6) rfl
        rw [hv1711] at rv1711
        dsimp only at rv1711
        refine q_getI (Sh.int hI1709.1 kx_116 rfl) v1711 (((gI_sW).trans ((gI_sI_ne (by decide)).trans ((gI_sW).trans ((gI_sW).trans ((gI_sW).trans (gI_sI_ne (by decide))))))).trans hv1711) ?_
        refine q_putI (Sh.int hI1709.1 kx_1 rfl) rfl ?_
        have hI1712 := HI.wI1 hI1709 kx_1 rfl (p := 1) (b := 6) (v := v1711) rfl (by dsimp only; omega)
        have hF1713 := Fr.wI (p := 1) (b := 6) (v := v1711) hF1710 rfl
        refine r_iconst 0 rfl ?_
        refine r_istore_n ([(2, .int 0), (0, .ref 1), (1, .ref 116)]) rfl ?_
        refine Ar.fall 86 rfl ?_
        have z_1940 : (0 : Int32).toInt = 0 := rfl
        refine w_loopI (fun n_ l_ g_ => ∃ x1928 : Int32, n_ = 6 - x1928.toInt ∧ HI g_ ∧ Fr F_X10_back_0 A_X10_back_0 g0 g_ ∧ gI g_ 1 0 = v1685 ∧ en_get 0 l_ = some (.ref 1) ∧ en_get 1 l_ = some (.ref 116) ∧ en_get 2 l_ = some (.int x1928) ∧ (0 ≤ x1928.toInt ∧ x1928.toInt ≤ 6)) ?_ (6 - 0) ⟨0, by first | rfl | omega, hI1712, hF1713, ((gI_sI_ne (by decide)).trans ((gI_sW).trans ((gI_sI_ne (by decide)).trans ((gI_sW).trans ((gI_sW).trans ((gI_sW).trans (gI_sI_eq hI0.1 kx_1 rfl _))))))), rfl, rfl, rfl, by decide⟩
        rintro n1933 l1932 g1929 ⟨x1928, hm1941, hI1930, hF1931, e1935, e1936, e1937, e1938, r1939⟩ ih1934
        have tv1942 := congrArg Int32.toInt e1935
        refine At.enter rfl ?_
        refine r_iload_n e1938 ?_
        refine r_bipush 6 rfl ?_
        refine r_ics 92 rfl (fun c1943 => ?_) (fun c1943 => ?_)
        · have c1943_ : x1928.toInt ≥ 6 := en_i_ge_t c1943
          refine At.enter rfl ?_
          refine r_aload_n e1936 ?_
          refine r_aload_n e1937 ?_
          obtain ⟨v1944, hv1944⟩ : ∃ v, gI g0 116 9 = v := ⟨_, rfl⟩
          refine q_getI (Sh.int hI1930.1 kx_116 rfl) v1944 ((hF1931.1 116 9 (by decide)).trans hv1944) ?_
          refine q_putI (Sh.int hI1930.1 kx_1 rfl) rfl ?_
          have hI1945 := HI.wI0 hI1930 kx_1 rfl (p := 1) (b := 9) (v := v1944) rfl
          have hF1946 := Fr.wI (p := 1) (b := 9) (v := v1944) hF1931 rfl
          refine r_aload_n e1936 ?_
          refine r_aload_n e1937 ?_
          obtain ⟨v1947, hv1947⟩ : ∃ v, gI g0 116 10 = v := ⟨_, rfl⟩
          refine q_getI (Sh.int hI1945.1 kx_116 rfl) v1947 (((gI_sI_ne (by decide)).trans (hF1931.1 116 10 (by decide))).trans hv1947) ?_
          refine q_putI (Sh.int hI1945.1 kx_1 rfl) rfl ?_
          have hI1948 := HI.wI0 hI1945 kx_1 rfl (p := 1) (b := 10) (v := v1947) rfl
          have hF1949 := Fr.wI (p := 1) (b := 10) (v := v1947) hF1946 rfl
          refine r_aload_n e1936 ?_
          refine r_aload_n e1937 ?_
          obtain ⟨v1950, hv1950⟩ : ∃ v, gI g0 116 11 = v := ⟨_, rfl⟩
          refine q_getI (Sh.int hI1948.1 kx_116 rfl) v1950 (((gI_sI_ne (by decide)).trans ((gI_sI_ne (by decide)).trans (hF1931.1 116 11 (by decide)))).trans hv1950) ?_
          refine q_putI (Sh.int hI1948.1 kx_1 rfl) rfl ?_
          have hI1951 := HI.wI0 hI1948 kx_1 rfl (p := 1) (b := 11) (v := v1950) rfl
          have hF1952 := Fr.wI (p := 1) (b := 11) (v := v1950) hF1949 rfl
          refine r_aload_n e1936 ?_
          refine r_aload_n e1937 ?_
          obtain ⟨v1953, hv1953⟩ : ∃ v, gI g0 116 12 = v := ⟨_, rfl⟩
          have rv1953 := RgF.at hI0.2.1 (p := 116) (b := 12) rfl
          rw [hv1953] at rv1953
          dsimp only at rv1953
          refine q_getI (Sh.int hI1951.1 kx_116 rfl) v1953 (((gI_sI_ne (by decide)).trans ((gI_sI_ne (by decide)).trans ((gI_sI_ne (by decide)).trans (hF1931.1 116 12 (by decide))))).trans hv1953) ?_
          refine q_putI (Sh.int hI1951.1 kx_1 rfl) rfl ?_
          have hI1954 := HI.wI1 hI1951 kx_1 rfl (p := 1) (b := 12) (v := v1953) rfl (by dsimp only; omega)
          have hF1955 := Fr.wI (p := 1) (b := 12) (v := v1953) hF1952 rfl
          refine r_aload_n e1937 ?_
          refine q_getR (Sh.ref hI1954.1 kx_116 rfl) ?_
          refine r_iconst 0 rfl ?_
          refine r_aload_n e1936 ?_
          refine q_getR (Sh.ref hI1954.1 kx_1 rfl) ?_
          refine r_iconst 0 rfl ?_
          refine r_bipush 8 rfl ?_
          have zv1956 : (0 : Int32).toInt = 0 := rfl
          have zv1957 : (0 : Int32).toInt = 0 := rfl
          have zv1958 : (8 : Int32).toInt = 8 := rfl
          refine q_cpy rfl (Nat.le_of_ble_eq_true rfl) (Sh.arr hI1954.1 ka_129) (Sh.arr hI1954.1 ka_14) ⟨by omega, by omega, by omega, by omega, by omega⟩ ?_
          have hI1959 := HI.cpy0 hI1954 ka_129 ka_14 rfl rfl ((0 : Int32).toInt.toNat) ((0 : Int32).toInt.toNat) ((8 : Int32).toInt.toNat) (by omega) (by omega)
          have hF1960 := Fr.cpy (p0 := 129) (p1 := 14) hF1955 rfl ((0 : Int32).toInt.toNat) ((0 : Int32).toInt.toNat) ((8 : Int32).toInt.toNat)
          refine r_aload_n e1937 ?_
          refine q_getR (Sh.ref hI1959.1 kx_116 rfl) ?_
          refine r_iconst 0 rfl ?_
          refine r_aload_n e1936 ?_
          refine q_getR (Sh.ref hI1959.1 kx_1 rfl) ?_
          refine r_iconst 0 rfl ?_
          refine r_bipush 8 rfl ?_
          have zv1961 : (0 : Int32).toInt = 0 := rfl
          have zv1962 : (0 : Int32).toInt = 0 := rfl
          have zv1963 : (8 : Int32).toInt = 8 := rfl
          refine q_cpy rfl (Nat.le_of_ble_eq_true rfl) (Sh.arr hI1959.1 ka_130) (Sh.arr hI1959.1 ka_15) ⟨by omega, by omega, by omega, by omega, by omega⟩ ?_
          have hI1964 := HI.cpy0 hI1959 ka_130 ka_15 rfl rfl ((0 : Int32).toInt.toNat) ((0 : Int32).toInt.toNat) ((8 : Int32).toInt.toNat) (by omega) (by omega)
          have hF1965 := Fr.cpy (p0 := 130) (p1 := 15) hF1960 rfl ((0 : Int32).toInt.toNat) ((0 : Int32).toInt.toNat) ((8 : Int32).toInt.toNat)
          refine q_vret ?_
          refine At.enter rfl ?_
          refine r_aload_n rfl ?_
          refine r_callV 44 rfl [.ref 0] [] (Nat.le_of_ble_eq_true rfl) rfl (T_X10_changed_0 _ hI1964) ?_
          rintro _ _ ⟨g1966, rfl, hI1967, hF1968, rfl⟩
          refine At.stn ?_
          have hF1971 := Fr.tr hF1965 hF1968 rfl rfl
          refine At.enter rfl ?_
          refine r_aload_n rfl ?_
          refine r_iconst 0 rfl ?_
          refine q_inlV 49 rfl [.ref 0, .int 0] [] (Nat.le_of_ble_eq_true rfl) rfl ?_
          refine Ev.mk rfl rfl ⟨Nat.le_of_ble_eq_true rfl, Or.inr (q_rc hI1967.1 kx_0 rfl)⟩ ?_
          show At _ none _ _ (0, [(0, .ref 0), (1, .int 0)], [], (_, _)) _
          refine At.enter rfl ?_
          refine r_aload_n rfl ?_
          refine r_iconst 0 rfl ?_
          refine q_putI (Sh.int hI1967.1 kx_0 rfl) rfl ?_
          have hI1972 := HI.wI0 hI1967 kx_0 rfl (p := 0) (b := 17) (v := 0) rfl
          have hF1973 := Fr.wI (p := 0) (b := 17) (v := 0) hF1971 rfl
          refine r_iload_n rfl ?_
          refine q_ireti ?_
          refine At.enter rfl ?_
          refine r_ireti ?_
          have zv1974 : (0 : Int32).toInt = 0 := rfl
          obtain ⟨v1975, hv1975⟩ : ∃ v, gI g0 1 0 = v := ⟨_, rfl⟩
          have rv1975 := RgF.at hI0.2.1 (p := 1) (b := 0) rfl
          rw [hv1975] at rv1975
          dsimp only at rv1975
          have tv1975 := congrArg Int32.toInt hv1975
          have x1976 := HI.eqI hI0 (p := 1) (b := 0) (hv1975)
          obtain ⟨v1977, hv1977⟩ : ∃ v, gI g0 59 0 = v := ⟨_, rfl⟩
          have rv1977 := RgF.at hI0.2.1 (p := 59) (b := 0) rfl
          rw [hv1977] at rv1977
          dsimp only at rv1977
          have tv1977 := congrArg Int32.toInt hv1977
          have x1978 := HI.eqI hI0 (p := 59) (b := 0) (hv1977)
          have x1979 := HI.eqI hI0 (p := 116) (b := 0) (hv1685)
          obtain ⟨v1980, hv1980⟩ : ∃ v, eA g0 173 0 = v := ⟨_, rfl⟩
          have tv1980 := congrArg Int32.toInt hv1980
          have x1981 := HI.eqA hI0 (p := 173) (j := 0) (hv1980)
          obtain ⟨v1982, hv1982⟩ : ∃ v, eA g0 173 1 = v := ⟨_, rfl⟩
          have tv1982 := congrArg Int32.toInt hv1982
          have x1983 := HI.eqA hI0 (p := 173) (j := 1) (hv1982)
          have x1984 := HI.eqI hI1972 (p := 1) (b := 0) ((((gI_sI_ne (by decide)).trans ((hF1968.1 1 0 (by decide)).trans ((gI_sW).trans ((gI_sW).trans ((gI_sI_ne (by decide)).trans ((gI_sI_ne (by decide)).trans ((gI_sI_ne (by decide)).trans (gI_sI_ne (by decide))))))))).trans e1935))
          have y1985 : a1.toInt = 1 → (eA g0 173 1).toInt = v1683.toInt := fun e => by rw [← hv1683, e]
          exact ⟨_, rfl, hI1972, hF1973, _, rfl, by decide, (by omega)⟩
        · have c1943_ : x1928.toInt < 6 := en_i_ge_f c1943
          refine At.enter rfl ?_
          refine r_aload_n e1936 ?_
          refine r_iload_n e1938 ?_
          refine r_callV 97 rfl [.ref 1, .int x1928] [] (Nat.le_of_ble_eq_true rfl) rfl (T_X0_lawAt_1 _ hI1930 x1928) ?_
          rintro _ _ ⟨g1986, rfl, hI1987, hF1988, v1989, rfl, hr1990⟩
          refine At.str ?_
          have hF1991 := Fr.tr hF1931 hF1988 rfl rfl
          refine At.enter rfl ?_
          refine r_aload_n e1937 ?_
          refine r_iload_n e1938 ?_
          refine r_callV 102 rfl [.ref 116, .int x1928] [.ref (v1989)] (Nat.le_of_ble_eq_true rfl) rfl (T_X0_lawAt_116 _ hI1987 x1928) ?_
          rintro _ _ ⟨g1992, rfl, hI1993, hF1994, v1995, rfl, hr1996⟩
          refine At.str ?_
          have hF1997 := Fr.tr hF1991 hF1994 rfl rfl
          refine At.enter rfl ?_
          refine r_callV 105 rfl [.ref (v1989), .ref (v1995)] [] (Nat.le_of_ble_eq_true rfl) rfl (T_X4_become_law _ hI1993 (v1989) hr1990 (v1995) hr1996) ?_
          rintro _ _ ⟨g1998, rfl, hI1999, hF2000, rfl⟩
          refine At.stn ?_
          have hF2003 := Fr.tr hF1997 hF2000 rfl rfl
          refine At.enter rfl ?_
          refine q_iinc e1938 (x1928.toInt + 1) rfl (by omega) (fun v2004 hv2004 => ?_)
          refine r_goto ?_
          exact ih1934 (6 - v2004.toInt) _ _ ⟨v2004, by first | rfl | omega, hI1999, hF2003, (((hF2000.1 1 0 (by decide)).trans ((hF1994.1 1 0 (by decide)).trans (hF1988.1 1 0 (by decide)))).trans e1935), (w_p1 (by decide) (Or.inr rfl) e1936), (w_p1 (by decide) (Or.inr rfl) e1937), (w_e1 _ _ _), by omega⟩ ⟨by omega, by omega⟩
      · have c1684_ : v1683.toInt = 0 := en_k_ne_f c1684
        refine At.enter rfl ?_
        refine r_aload_n rfl ?_
        refine r_bipush (-2) rfl ?_
        refine r_callV 31 rfl [.ref 0, .int (-2)] [] (Nat.le_of_ble_eq_true rfl) rfl (T_X10_refused_0 _ hI0 (-2) (by decide)) ?_
        rintro _ _ ⟨g2005, rfl, hI2006, hF2007, v2008, rfl, hr2009⟩
        refine At.sti ?_
        have hF2010 := Fr.tr hF0 hF2007 rfl rfl
        have zv2011 : ((-2) : Int32).toInt = (-2) := rfl
        refine At.enter rfl ?_
        refine r_ireti ?_
        obtain ⟨v2012, hv2012⟩ : ∃ v, gI g0 1 0 = v := ⟨_, rfl⟩
        have rv2012 := RgF.at hI0.2.1 (p := 1) (b := 0) rfl
        rw [hv2012] at rv2012
        dsimp only at rv2012
        have tv2012 := congrArg Int32.toInt hv2012
        have x2013 := HI.eqI hI0 (p := 1) (b := 0) (hv2012)
        obtain ⟨v2014, hv2014⟩ : ∃ v, gI g0 59 0 = v := ⟨_, rfl⟩
        have rv2014 := RgF.at hI0.2.1 (p := 59) (b := 0) rfl
        rw [hv2014] at rv2014
        dsimp only at rv2014
        have tv2014 := congrArg Int32.toInt hv2014
        have x2015 := HI.eqI hI0 (p := 59) (b := 0) (hv2014)
        obtain ⟨v2016, hv2016⟩ : ∃ v, gI g0 116 0 = v := ⟨_, rfl⟩
        have rv2016 := RgF.at hI0.2.1 (p := 116) (b := 0) rfl
        rw [hv2016] at rv2016
        dsimp only at rv2016
        have tv2016 := congrArg Int32.toInt hv2016
        have x2017 := HI.eqI hI0 (p := 116) (b := 0) (hv2016)
        obtain ⟨v2018, hv2018⟩ : ∃ v, eA g0 173 0 = v := ⟨_, rfl⟩
        have tv2018 := congrArg Int32.toInt hv2018
        have x2019 := HI.eqA hI0 (p := 173) (j := 0) (hv2018)
        obtain ⟨v2020, hv2020⟩ : ∃ v, eA g0 173 1 = v := ⟨_, rfl⟩
        have tv2020 := congrArg Int32.toInt hv2020
        have x2021 := HI.eqA hI0 (p := 173) (j := 1) (hv2020)
        have x2022 := HI.eqI hI2006 (p := 1) (b := 0) (((hF2007.1 1 0 (by decide)).trans hv2012))
        have y2023 : a1.toInt = 1 → (eA g0 173 1).toInt = v1683.toInt := fun e => by rw [← hv1683, e]
        exact ⟨_, rfl, hI2006, hF2010, _, rfl, by omega, (by omega)⟩

def F_X10_count_0 : List (Nat × Nat) := [(0, 14), (185, 3), (188, 16), (188, 18)]
def A_X10_count_0 : List Nat := [189, 190, 191, 192, 193, 194, 195, 196, 197, 198, 199, 200, 202, 203]
set_option maxRecDepth 100000 in
set_option maxHeartbeats 4000000 in
theorem T_X10_count_0 (d : Nat) {N : Nat} {g0 : List en_E} (hI0 : HI g0) (a1 : Int32) : Ev (d + 7) 142 [.ref 0, .int a1] (g0, N) (fun w h' => ∃ g', h' = (g', N) ∧ HI g' ∧ Fr F_X10_count_0 A_X10_count_0 g0 g' ∧ ∃ r : Int32, w = some (.int r) ∧ True) := by
  have hF0 : Fr F_X10_count_0 A_X10_count_0 g0 g0 := Fr.rf
  refine Ev.mk rfl rfl ⟨Nat.le_of_ble_eq_true rfl, Or.inr (q_rc hI0.1 kx_0 rfl)⟩ ?_
  show At _ none _ _ (0, [(0, .ref 0), (1, .int a1)], [], (_, _)) _
  refine At.enter rfl ?_
  refine r_iload_n rfl ?_
  by_cases c143_0 : a1.toInt = 0
  · refine r_tsw 76 (by rw [c143_0]; rfl) ?_
    refine At.enter rfl ?_
    refine r_aload_n rfl ?_
    refine q_getR (Sh.ref hI0.1 kx_0 rfl) ?_
    obtain ⟨v144, hv144⟩ : ∃ v, gI g0 1 0 = v := ⟨_, rfl⟩
    have rv144 := RgF.at hI0.2.1 (p := 1) (b := 0) rfl
    rw [hv144] at rv144
    dsimp only at rv144
    refine q_getI (Sh.int hI0.1 kx_1 rfl) v144 hv144 ?_
    refine r_ireti ?_
    exact ⟨_, rfl, hI0, hF0, _, rfl, trivial⟩
  by_cases c143_1 : a1.toInt = 1
  · refine r_tsw 84 (by rw [c143_1]; rfl) ?_
    refine At.enter rfl ?_
    refine r_aload_n rfl ?_
    refine q_getR (Sh.ref hI0.1 kx_0 rfl) ?_
    obtain ⟨v145, hv145⟩ : ∃ v, gI g0 1 4 = v := ⟨_, rfl⟩
    have rv145 := RgF.at hI0.2.1 (p := 1) (b := 4) rfl
    rw [hv145] at rv145
    dsimp only at rv145
    refine q_getI (Sh.int hI0.1 kx_1 rfl) v145 hv145 ?_
    refine r_ireti ?_
    exact ⟨_, rfl, hI0, hF0, _, rfl, trivial⟩
  by_cases c143_2 : a1.toInt = 2
  · refine r_tsw 92 (by rw [c143_2]; rfl) ?_
    refine At.enter rfl ?_
    refine r_aload_n rfl ?_
    refine q_getR (Sh.ref hI0.1 kx_0 rfl) ?_
    obtain ⟨v146, hv146⟩ : ∃ v, gI g0 1 6 = v := ⟨_, rfl⟩
    have rv146 := RgF.at hI0.2.1 (p := 1) (b := 6) rfl
    rw [hv146] at rv146
    dsimp only at rv146
    refine q_getI (Sh.int hI0.1 kx_1 rfl) v146 hv146 ?_
    refine r_ireti ?_
    exact ⟨_, rfl, hI0, hF0, _, rfl, trivial⟩
  by_cases c143_3 : a1.toInt = 3
  · refine r_tsw 100 (by rw [c143_3]; rfl) ?_
    refine At.enter rfl ?_
    refine r_aload_n rfl ?_
    refine q_getR (Sh.ref hI0.1 kx_0 rfl) ?_
    obtain ⟨v147, hv147⟩ : ∃ v, gI g0 1 12 = v := ⟨_, rfl⟩
    have rv147 := RgF.at hI0.2.1 (p := 1) (b := 12) rfl
    rw [hv147] at rv147
    dsimp only at rv147
    refine q_getI (Sh.int hI0.1 kx_1 rfl) v147 hv147 ?_
    refine r_ireti ?_
    exact ⟨_, rfl, hI0, hF0, _, rfl, trivial⟩
  by_cases c143_4 : a1.toInt = 4
  · refine r_tsw 108 (by rw [c143_4]; rfl) ?_
    refine At.enter rfl ?_
    refine r_aload_n rfl ?_
    refine q_inlV 112 rfl [.ref 0] [] (Nat.le_of_ble_eq_true rfl) rfl ?_
    refine Ev.mk rfl rfl ⟨Nat.le_of_ble_eq_true rfl, Or.inr (q_rc hI0.1 kx_0 rfl)⟩ ?_
    show At _ none _ _ (0, [(0, .ref 0)], [], (_, _)) _
    refine At.enter rfl ?_
    refine r_aload_n rfl ?_
    obtain ⟨v148, hv148⟩ : ∃ v, gI g0 0 14 = v := ⟨_, rfl⟩
    refine q_getI (Sh.int hI0.1 kx_0 rfl) v148 hv148 ?_
    refine r_ifs 7 rfl (fun c149 => ?_) (fun c149 => ?_)
    · have c149_ : v148.toInt ≠ 0 := en_k_ne_t c149
      refine At.enter rfl ?_
      refine r_aload_n rfl ?_
      refine q_getR (Sh.ref hI0.1 kx_0 rfl) ?_
      refine q_aret ?_
      refine At.enter rfl ?_
      refine r_callV 115 rfl [.ref 188] [] (Nat.le_of_ble_eq_true rfl) rfl (T_X1_comeByNoon_188 _ hI0) ?_
      rintro _ _ ⟨g150, rfl, hI151, hF152, v153, rfl, hr154⟩
      refine At.sti ?_
      have hF155 := Fr.tr hF0 hF152 rfl rfl
      refine At.enter rfl ?_
      refine r_ireti ?_
      exact ⟨_, rfl, hI151, hF155, _, rfl, trivial⟩
    · have c149_ : v148.toInt = 0 := en_k_ne_f c149
      refine At.enter rfl ?_
      refine r_aload_n rfl ?_
      refine q_getR (Sh.ref hI0.1 kx_0 rfl) ?_
      refine r_iconst 0 rfl ?_
      refine r_callV 15 rfl [.ref 188, .int 0] [] (Nat.le_of_ble_eq_true rfl) rfl (T_X1_layOut_188 _ hI0 0) ?_
      rintro _ _ ⟨g156, rfl, hI157, hF158, rfl⟩
      refine At.stn ?_
      have hF161 := Fr.tr hF0 hF158 rfl rfl
      refine At.enter rfl ?_
      refine r_aload_n rfl ?_
      refine q_getR (Sh.ref hI157.1 kx_0 rfl) ?_
      refine r_callV 22 rfl [.ref 188] [] (Nat.le_of_ble_eq_true rfl) rfl (T_X1_runWhole_188 _ hI157) ?_
      rintro _ _ ⟨g162, rfl, hI163, hF164, rfl⟩
      refine At.stn ?_
      have hF167 := Fr.tr hF161 hF164 rfl rfl
      refine At.enter rfl ?_
      refine r_aload_n rfl ?_
      refine r_iconst 1 rfl ?_
      refine q_putI (Sh.int hI163.1 kx_0 rfl) rfl ?_
      have hI168 := HI.wI0 hI163 kx_0 rfl (p := 0) (b := 14) (v := 1) rfl
      have hF169 := Fr.wI (p := 0) (b := 14) (v := 1) hF167 rfl
      refine Ar.fall 27 rfl ?_
      refine At.enter rfl ?_
      refine r_aload_n rfl ?_
      refine q_getR (Sh.ref hI168.1 kx_0 rfl) ?_
      refine q_aret ?_
      refine At.enter rfl ?_
      refine r_callV 115 rfl [.ref 188] [] (Nat.le_of_ble_eq_true rfl) rfl (T_X1_comeByNoon_188 _ hI168) ?_
      rintro _ _ ⟨g170, rfl, hI171, hF172, v173, rfl, hr174⟩
      refine At.sti ?_
      have hF175 := Fr.tr hF169 hF172 rfl rfl
      refine At.enter rfl ?_
      refine r_ireti ?_
      exact ⟨_, rfl, hI171, hF175, _, rfl, trivial⟩
  by_cases c143_5 : a1.toInt = 5
  · refine r_tsw 116 (by rw [c143_5]; rfl) ?_
    refine At.enter rfl ?_
    refine r_aload_n rfl ?_
    refine q_inlV 120 rfl [.ref 0] [] (Nat.le_of_ble_eq_true rfl) rfl ?_
    refine Ev.mk rfl rfl ⟨Nat.le_of_ble_eq_true rfl, Or.inr (q_rc hI0.1 kx_0 rfl)⟩ ?_
    show At _ none _ _ (0, [(0, .ref 0)], [], (_, _)) _
    refine At.enter rfl ?_
    refine r_aload_n rfl ?_
    obtain ⟨v176, hv176⟩ : ∃ v, gI g0 0 14 = v := ⟨_, rfl⟩
    refine q_getI (Sh.int hI0.1 kx_0 rfl) v176 hv176 ?_
    refine r_ifs 7 rfl (fun c177 => ?_) (fun c177 => ?_)
    · have c177_ : v176.toInt ≠ 0 := en_k_ne_t c177
      refine At.enter rfl ?_
      refine r_aload_n rfl ?_
      refine q_getR (Sh.ref hI0.1 kx_0 rfl) ?_
      refine q_aret ?_
      refine At.enter rfl ?_
      refine r_callV 123 rfl [.ref 188] [] (Nat.le_of_ble_eq_true rfl) rfl (T_X1_failures_188 _ hI0) ?_
      rintro _ _ ⟨g178, rfl, hI179, hF180, v181, rfl, hr182⟩
      refine At.sti ?_
      have hF183 := Fr.tr hF0 hF180 rfl rfl
      refine At.enter rfl ?_
      refine r_ireti ?_
      exact ⟨_, rfl, hI179, hF183, _, rfl, trivial⟩
    · have c177_ : v176.toInt = 0 := en_k_ne_f c177
      refine At.enter rfl ?_
      refine r_aload_n rfl ?_
      refine q_getR (Sh.ref hI0.1 kx_0 rfl) ?_
      refine r_iconst 0 rfl ?_
      refine r_callV 15 rfl [.ref 188, .int 0] [] (Nat.le_of_ble_eq_true rfl) rfl (T_X1_layOut_188 _ hI0 0) ?_
      rintro _ _ ⟨g184, rfl, hI185, hF186, rfl⟩
      refine At.stn ?_
      have hF189 := Fr.tr hF0 hF186 rfl rfl
      refine At.enter rfl ?_
      refine r_aload_n rfl ?_
      refine q_getR (Sh.ref hI185.1 kx_0 rfl) ?_
      refine r_callV 22 rfl [.ref 188] [] (Nat.le_of_ble_eq_true rfl) rfl (T_X1_runWhole_188 _ hI185) ?_
      rintro _ _ ⟨g190, rfl, hI191, hF192, rfl⟩
      refine At.stn ?_
      have hF195 := Fr.tr hF189 hF192 rfl rfl
      refine At.enter rfl ?_
      refine r_aload_n rfl ?_
      refine r_iconst 1 rfl ?_
      refine q_putI (Sh.int hI191.1 kx_0 rfl) rfl ?_
      have hI196 := HI.wI0 hI191 kx_0 rfl (p := 0) (b := 14) (v := 1) rfl
      have hF197 := Fr.wI (p := 0) (b := 14) (v := 1) hF195 rfl
      refine Ar.fall 27 rfl ?_
      refine At.enter rfl ?_
      refine r_aload_n rfl ?_
      refine q_getR (Sh.ref hI196.1 kx_0 rfl) ?_
      refine q_aret ?_
      refine At.enter rfl ?_
      refine r_callV 123 rfl [.ref 188] [] (Nat.le_of_ble_eq_true rfl) rfl (T_X1_failures_188 _ hI196) ?_
      rintro _ _ ⟨g198, rfl, hI199, hF200, v201, rfl, hr202⟩
      refine At.sti ?_
      have hF203 := Fr.tr hF197 hF200 rfl rfl
      refine At.enter rfl ?_
      refine r_ireti ?_
      exact ⟨_, rfl, hI199, hF203, _, rfl, trivial⟩
  by_cases c143_6 : a1.toInt = 6
  · refine r_tsw 124 (by rw [c143_6]; rfl) ?_
    refine At.enter rfl ?_
    refine r_aload_n rfl ?_
    refine q_getR (Sh.ref hI0.1 kx_0 rfl) ?_
    obtain ⟨v204, hv204⟩ : ∃ v, gI g0 174 1 = v := ⟨_, rfl⟩
    have rv204 := RgF.at hI0.2.1 (p := 174) (b := 1) rfl
    rw [hv204] at rv204
    dsimp only at rv204
    refine q_getI (Sh.int hI0.1 kx_174 rfl) v204 hv204 ?_
    refine r_ireti ?_
    exact ⟨_, rfl, hI0, hF0, _, rfl, trivial⟩
  by_cases c143_7 : a1.toInt = 7
  · refine r_tsw 132 (by rw [c143_7]; rfl) ?_
    refine At.enter rfl ?_
    refine r_aload_n rfl ?_
    refine q_getR (Sh.ref hI0.1 kx_0 rfl) ?_
    refine r_iconst 1 rfl ?_
    obtain ⟨v205, hv205⟩ : ∃ v, eA g0 230 1 = v := ⟨_, rfl⟩
    refine q_iald (Sh.arr hI0.1 ka_230) 1 rfl (by decide) v205 hv205 ?_
    refine r_ireti ?_
    exact ⟨_, rfl, hI0, hF0, _, rfl, trivial⟩
  by_cases c143_8 : a1.toInt = 8
  · refine r_tsw 139 (by rw [c143_8]; rfl) ?_
    refine At.enter rfl ?_
    refine r_aload_n rfl ?_
    refine q_getR (Sh.ref hI0.1 kx_0 rfl) ?_
    refine r_iconst 2 rfl ?_
    obtain ⟨v206, hv206⟩ : ∃ v, eA g0 230 2 = v := ⟨_, rfl⟩
    refine q_iald (Sh.arr hI0.1 ka_230) 2 rfl (by decide) v206 hv206 ?_
    refine r_ireti ?_
    exact ⟨_, rfl, hI0, hF0, _, rfl, trivial⟩
  by_cases c143_9 : a1.toInt = 9
  · refine r_tsw 146 (by rw [c143_9]; rfl) ?_
    refine At.enter rfl ?_
    refine r_aload_n rfl ?_
    refine q_getR (Sh.ref hI0.1 kx_0 rfl) ?_
    refine r_iconst 3 rfl ?_
    obtain ⟨v207, hv207⟩ : ∃ v, eA g0 230 3 = v := ⟨_, rfl⟩
    refine q_iald (Sh.arr hI0.1 ka_230) 3 rfl (by decide) v207 hv207 ?_
    refine r_ireti ?_
    exact ⟨_, rfl, hI0, hF0, _, rfl, trivial⟩
  by_cases c143_10 : a1.toInt = 10
  · refine r_tsw 153 (by rw [c143_10]; rfl) ?_
    refine At.enter rfl ?_
    refine r_aload_n rfl ?_
    refine q_getR (Sh.ref hI0.1 kx_0 rfl) ?_
    refine r_iconst 5 rfl ?_
    obtain ⟨v208, hv208⟩ : ∃ v, eA g0 230 5 = v := ⟨_, rfl⟩
    refine q_iald (Sh.arr hI0.1 ka_230) 5 rfl (by decide) v208 hv208 ?_
    refine r_ireti ?_
    exact ⟨_, rfl, hI0, hF0, _, rfl, trivial⟩
  by_cases c143_11 : a1.toInt = 11
  · refine r_tsw 160 (by rw [c143_11]; rfl) ?_
    refine At.enter rfl ?_
    refine r_aload_n rfl ?_
    refine q_getR (Sh.ref hI0.1 kx_0 rfl) ?_
    refine r_bipush 6 rfl ?_
    obtain ⟨v209, hv209⟩ : ∃ v, eA g0 230 6 = v := ⟨_, rfl⟩
    refine q_iald (Sh.arr hI0.1 ka_230) 6 rfl (by decide) v209 hv209 ?_
    refine r_ireti ?_
    exact ⟨_, rfl, hI0, hF0, _, rfl, trivial⟩
  by_cases c143_12 : a1.toInt = 12
  · refine r_tsw 168 (by rw [c143_12]; rfl) ?_
    refine At.enter rfl ?_
    refine r_aload_n rfl ?_
    refine q_getR (Sh.ref hI0.1 kx_0 rfl) ?_
    obtain ⟨v210, hv210⟩ : ∃ v, gI g0 1 9 = v := ⟨_, rfl⟩
    refine q_getI (Sh.int hI0.1 kx_1 rfl) v210 hv210 ?_
    refine r_ireti ?_
    exact ⟨_, rfl, hI0, hF0, _, rfl, trivial⟩
  by_cases c143_13 : a1.toInt = 13
  · refine r_tsw 176 (by rw [c143_13]; rfl) ?_
    refine At.enter rfl ?_
    refine r_aload_n rfl ?_
    refine q_getR (Sh.ref hI0.1 kx_0 rfl) ?_
    obtain ⟨v211, hv211⟩ : ∃ v, gI g0 1 10 = v := ⟨_, rfl⟩
    refine q_getI (Sh.int hI0.1 kx_1 rfl) v211 hv211 ?_
    refine r_ireti ?_
    exact ⟨_, rfl, hI0, hF0, _, rfl, trivial⟩
  by_cases c143_14 : a1.toInt = 14
  · refine r_tsw 184 (by rw [c143_14]; rfl) ?_
    refine At.enter rfl ?_
    refine r_aload_n rfl ?_
    refine q_getR (Sh.ref hI0.1 kx_0 rfl) ?_
    obtain ⟨v212, hv212⟩ : ∃ v, gI g0 1 11 = v := ⟨_, rfl⟩
    refine q_getI (Sh.int hI0.1 kx_1 rfl) v212 hv212 ?_
    refine r_ireti ?_
    exact ⟨_, rfl, hI0, hF0, _, rfl, trivial⟩
  have c213 : a1.toInt < 0 ∨ 14 < a1.toInt := by omega
  refine r_tsw 192 (by unfold en_sw; rw [if_pos c213]; rfl) ?_
  refine At.enter rfl ?_
  refine r_iconst (-1) rfl ?_
  refine r_ireti ?_
  exact ⟨_, rfl, hI0, hF0, _, rfl, trivial⟩
