def F_X10_sign_0 : List (Nat × Nat) := [(0, 17), (1, 12)]
def A_X10_sign_0 : List Nat := [14, 15, 230]
theorem mf_X10_refused_0_1_12 : memF F_X10_refused_0 1 12 = false := by decide
set_option maxRecDepth 100000 in
set_option maxHeartbeats 4000000 in
theorem T_X10_sign_0 (d : Nat) {N : Nat} {g0 : List en_E} (hI0 : HI g0) (a1 : Int32) (a2 : Int32) : Ev (d + 3) 134 [.ref 0, .int a1, .int a2] (g0, N) (fun w h' => ∃ g', h' = (g', N) ∧ HI g' ∧ Fr F_X10_sign_0 A_X10_sign_0 g0 g' ∧ ∃ r : Int32, w = some (.int r) ∧ ((-5) ≤ r.toInt ∧ r.toInt ≤ 8) ∧ ((¬ (0 ≤ a2.toInt ∧ a2.toInt ≤ 99) → r.toInt = -1 ∧ (gI g' 1 12).toInt = (gI g0 1 12).toInt) ∧ ((0 ≤ a2.toInt ∧ a2.toInt ≤ 99) ∧ ¬ (0 ≤ a1.toInt ∧ a1.toInt < (gI g0 1 0).toInt) → r.toInt = -2 ∧ (gI g' 1 12).toInt = (gI g0 1 12).toInt) ∧ ((0 ≤ a2.toInt ∧ a2.toInt ≤ 99) ∧ (0 ≤ a1.toInt ∧ a1.toInt < (gI g0 1 0).toInt) ∧ 8 ≤ (gI g0 1 12).toInt → r.toInt = -5 ∧ (gI g' 1 12).toInt = (gI g0 1 12).toInt) ∧ ((0 ≤ a2.toInt ∧ a2.toInt ≤ 99) ∧ (0 ≤ a1.toInt ∧ a1.toInt < (gI g0 1 0).toInt) ∧ (gI g0 1 12).toInt < 8 → r.toInt = (gI g0 1 12).toInt + 1 ∧ (gI g' 1 12).toInt = (gI g0 1 12).toInt + 1))) := by
  have hF0 : Fr F_X10_sign_0 A_X10_sign_0 g0 g0 := Fr.rf
  refine Ev.mk rfl rfl ⟨Nat.le_of_ble_eq_true rfl, Or.inr (q_rc hI0.1 kx_0 rfl)⟩ ?_
  show At _ none _ _ (0, [(0, .ref 0), (1, .int a1), (2, .int a2)], [], (_, _)) _
  refine At.enter rfl ?_
  refine r_iload_n rfl ?_
  refine r_iconst 0 rfl ?_
  refine r_bipush 99 rfl ?_
  refine q_inlS 7 rfl [.int a2, .int 0, .int 99] [] (Nat.le_of_ble_eq_true rfl) rfl ?_
  refine Ev.mk rfl rfl ⟨Nat.le_of_ble_eq_true rfl, Or.inl rfl⟩ ?_
  show At _ none _ _ (0, [(0, .int a2), (1, .int 0), (2, .int 99)], [], (_, _)) _
  refine At.enter rfl ?_
  refine r_iload_n rfl ?_
  refine r_iload_n rfl ?_
  refine r_ics 5 rfl (fun c107 => ?_) (fun c107 => ?_)
  · have c107_ : a2.toInt < 0 := en_i_lt_t c107
    refine At.enter rfl ?_
    refine r_iconst 0 rfl ?_
    refine Ar.fall 15 rfl ?_
    refine At.enter rfl ?_
    refine q_iretz (by decide) ?_
    refine At.enter rfl ?_
    refine r_iff 10 rfl (by decide) ?_
    refine At.enter rfl ?_
    refine r_aload_n rfl ?_
    refine r_iconst (-1) rfl ?_
    refine r_callV 15 rfl [.ref 0, .int (-1)] [] (Nat.le_of_ble_eq_true rfl) rfl (T_X10_refused_0 _ hI0 (-1) (by decide)) ?_
    rintro _ _ ⟨g108, rfl, hI109, hF110, v111, rfl, hr112⟩
    refine At.sti ?_
    have hF113 := Fr.tr hF0 hF110 rfl rfl
    have zv114 : ((-1) : Int32).toInt = (-1) := rfl
    refine At.enter rfl ?_
    refine r_ireti ?_
    obtain ⟨v115, hv115⟩ : ∃ v, gI g0 1 12 = v := ⟨_, rfl⟩
    have rv115 := RgF.at hI0.2.1 (p := 1) (b := 12) rfl
    rw [hv115] at rv115
    dsimp only at rv115
    have tv115 := congrArg Int32.toInt hv115
    have x116 := HI.eqI hI109 (p := 1) (b := 12) (((hF110.1 1 12 mf_X10_refused_0_1_12).trans hv115))
    obtain ⟨v118, hv118⟩ : ∃ v, gI g0 1 0 = v := ⟨_, rfl⟩
    have rv118 := RgF.at hI0.2.1 (p := 1) (b := 0) rfl
    rw [hv118] at rv118
    dsimp only at rv118
    have tv118 := congrArg Int32.toInt hv118
    exact ⟨_, rfl, hI109, hF113, _, rfl, by omega, (by omega)⟩
  · have c107_ : a2.toInt ≥ 0 := en_i_lt_f c107
    refine At.enter rfl ?_
    refine r_iload_n rfl ?_
    refine r_iload_n rfl ?_
    refine r_ics 10 rfl (fun c120 => ?_) (fun c120 => ?_)
    · have c120_ : a2.toInt > 99 := en_i_gt_t c120
      refine At.enter rfl ?_
      refine r_iconst 0 rfl ?_
      refine Ar.fall 15 rfl ?_
      refine At.enter rfl ?_
      refine q_iretz (by decide) ?_
      refine At.enter rfl ?_
      refine r_iff 10 rfl (by decide) ?_
      refine At.enter rfl ?_
      refine r_aload_n rfl ?_
      refine r_iconst (-1) rfl ?_
      refine r_callV 15 rfl [.ref 0, .int (-1)] [] (Nat.le_of_ble_eq_true rfl) rfl (T_X10_refused_0 _ hI0 (-1) (by decide)) ?_
      rintro _ _ ⟨g121, rfl, hI122, hF123, v124, rfl, hr125⟩
      refine At.sti ?_
      have hF126 := Fr.tr hF0 hF123 rfl rfl
      have zv127 : ((-1) : Int32).toInt = (-1) := rfl
      refine At.enter rfl ?_
      refine r_ireti ?_
      obtain ⟨v128, hv128⟩ : ∃ v, gI g0 1 12 = v := ⟨_, rfl⟩
      have rv128 := RgF.at hI0.2.1 (p := 1) (b := 12) rfl
      rw [hv128] at rv128
      dsimp only at rv128
      have tv128 := congrArg Int32.toInt hv128
      have x129 := HI.eqI hI122 (p := 1) (b := 12) (((hF123.1 1 12 mf_X10_refused_0_1_12).trans hv128))
      obtain ⟨v131, hv131⟩ : ∃ v, gI g0 1 0 = v := ⟨_, rfl⟩
      have rv131 := RgF.at hI0.2.1 (p := 1) (b := 0) rfl
      rw [hv131] at rv131
      dsimp only at rv131
      have tv131 := congrArg Int32.toInt hv131
      exact ⟨_, rfl, hI122, hF126, _, rfl, by omega, (by omega)⟩
    · have c120_ : a2.toInt ≤ 99 := en_i_gt_f c120
      refine At.enter rfl ?_
      refine r_iconst 1 rfl ?_
      refine r_goto ?_
      refine At.enter rfl ?_
      refine q_iretz (by decide) ?_
      refine At.enter rfl ?_
      refine r_ift (by decide) ?_
      refine At.enter rfl ?_
      refine r_aload_n rfl ?_
      refine q_getR (Sh.ref hI0.1 kx_0 rfl) ?_
      refine r_iload_n rfl ?_
      refine q_inlV 24 rfl [.ref 1, .int a1] [] (Nat.le_of_ble_eq_true rfl) rfl ?_
      refine Ev.mk rfl rfl ⟨Nat.le_of_ble_eq_true rfl, Or.inr (q_rc hI0.1 kx_1 rfl)⟩ ?_
      show At _ none _ _ (0, [(0, .ref 1), (1, .int a1)], [], (_, _)) _
      refine At.enter rfl ?_
      refine r_iload_n rfl ?_
      refine r_ifs 4 rfl (fun c133 => ?_) (fun c133 => ?_)
      · have c133_ : a1.toInt < 0 := en_k_lt_t c133
        refine At.enter rfl ?_
        refine r_iconst 0 rfl ?_
        refine Ar.fall 17 rfl ?_
        refine At.enter rfl ?_
        refine q_iretz (by decide) ?_
        refine At.enter rfl ?_
        refine r_iff 27 rfl (by decide) ?_
        refine At.enter rfl ?_
        refine r_aload_n rfl ?_
        refine r_bipush (-2) rfl ?_
        refine r_callV 33 rfl [.ref 0, .int (-2)] [] (Nat.le_of_ble_eq_true rfl) rfl (T_X10_refused_0 _ hI0 (-2) (by decide)) ?_
        rintro _ _ ⟨g134, rfl, hI135, hF136, v137, rfl, hr138⟩
        refine At.sti ?_
        have hF139 := Fr.tr hF0 hF136 rfl rfl
        have zv140 : ((-2) : Int32).toInt = (-2) := rfl
        refine At.enter rfl ?_
        refine r_ireti ?_
        obtain ⟨v141, hv141⟩ : ∃ v, gI g0 1 12 = v := ⟨_, rfl⟩
        have rv141 := RgF.at hI0.2.1 (p := 1) (b := 12) rfl
        rw [hv141] at rv141
        dsimp only at rv141
        have tv141 := congrArg Int32.toInt hv141
        have x142 := HI.eqI hI135 (p := 1) (b := 12) (((hF136.1 1 12 mf_X10_refused_0_1_12).trans hv141))
        obtain ⟨v144, hv144⟩ : ∃ v, gI g0 1 0 = v := ⟨_, rfl⟩
        have rv144 := RgF.at hI0.2.1 (p := 1) (b := 0) rfl
        rw [hv144] at rv144
        dsimp only at rv144
        have tv144 := congrArg Int32.toInt hv144
        exact ⟨_, rfl, hI135, hF139, _, rfl, by omega, (by omega)⟩
      · have c133_ : a1.toInt ≥ 0 := en_k_lt_f c133
        refine At.enter rfl ?_
        refine r_iload_n rfl ?_
        refine r_aload_n rfl ?_
        obtain ⟨v146, hv146⟩ : ∃ v, gI g0 1 0 = v := ⟨_, rfl⟩
        have rv146 := RgF.at hI0.2.1 (p := 1) (b := 0) rfl
        rw [hv146] at rv146
        dsimp only at rv146
        refine q_getI (Sh.int hI0.1 kx_1 rfl) v146 hv146 ?_
        have bv148 := q_bnd a1
        have bv149 := q_bnd v146
        refine r_ics 12 rfl (fun c147 => ?_) (fun c147 => ?_)
        · have c147_ : a1.toInt ≥ v146.toInt := en_i_ge_t c147
          refine At.enter rfl ?_
          refine r_iconst 0 rfl ?_
          refine Ar.fall 17 rfl ?_
          refine At.enter rfl ?_
          refine q_iretz (by decide) ?_
          refine At.enter rfl ?_
          refine r_iff 27 rfl (by decide) ?_
          refine At.enter rfl ?_
          refine r_aload_n rfl ?_
          refine r_bipush (-2) rfl ?_
          refine r_callV 33 rfl [.ref 0, .int (-2)] [] (Nat.le_of_ble_eq_true rfl) rfl (T_X10_refused_0 _ hI0 (-2) (by decide)) ?_
          rintro _ _ ⟨g150, rfl, hI151, hF152, v153, rfl, hr154⟩
          refine At.sti ?_
          have hF155 := Fr.tr hF0 hF152 rfl rfl
          have zv156 : ((-2) : Int32).toInt = (-2) := rfl
          refine At.enter rfl ?_
          refine r_ireti ?_
          obtain ⟨v157, hv157⟩ : ∃ v, gI g0 1 12 = v := ⟨_, rfl⟩
          have rv157 := RgF.at hI0.2.1 (p := 1) (b := 12) rfl
          rw [hv157] at rv157
          dsimp only at rv157
          have tv157 := congrArg Int32.toInt hv157
          have x158 := HI.eqI hI151 (p := 1) (b := 12) (((hF152.1 1 12 mf_X10_refused_0_1_12).trans hv157))
          have x160 := HI.eqI hI0 (p := 1) (b := 0) (hv146)
          exact ⟨_, rfl, hI151, hF155, _, rfl, by omega, (by omega)⟩
        · have c147_ : a1.toInt < v146.toInt := en_i_ge_f c147
          refine At.enter rfl ?_
          refine r_iconst 1 rfl ?_
          refine r_goto ?_
          refine At.enter rfl ?_
          refine q_iretz (by decide) ?_
          refine At.enter rfl ?_
          refine r_ift (by decide) ?_
          refine At.enter rfl ?_
          refine r_aload_n rfl ?_
          refine q_getR (Sh.ref hI0.1 kx_0 rfl) ?_
          obtain ⟨v161, hv161⟩ : ∃ v, gI g0 1 12 = v := ⟨_, rfl⟩
          have rv161 := RgF.at hI0.2.1 (p := 1) (b := 12) rfl
          rw [hv161] at rv161
          dsimp only at rv161
          refine q_getI (Sh.int hI0.1 kx_1 rfl) v161 hv161 ?_
          refine r_bipush 8 rfl ?_
          refine r_ics 46 rfl (fun c162 => ?_) (fun c162 => ?_)
          · have c162_ : v161.toInt < 8 := en_i_lt_t c162
            refine At.enter rfl ?_
            refine r_aload_n rfl ?_
            refine q_getR (Sh.ref hI0.1 kx_0 rfl) ?_
            refine q_getR (Sh.ref hI0.1 kx_1 rfl) ?_
            refine r_aload_n rfl ?_
            refine q_getR (Sh.ref hI0.1 kx_0 rfl) ?_
            refine q_getI (Sh.int hI0.1 kx_1 rfl) v161 hv161 ?_
            refine r_iload_n rfl ?_
            refine q_iast (Sh.arr hI0.1 ka_14) (v161.toInt) rfl (by omega) ?_
            have hI163 := HI.wA0 hI0 ka_14 (p := 14) rfl rfl (v161.toInt) (a1)
            have hF164 := Fr.wA (p := 14) (j := v161.toInt) (v := a1) hF0 rfl
            refine r_aload_n rfl ?_
            refine q_getR (Sh.ref hI163.1 kx_0 rfl) ?_
            refine q_getR (Sh.ref hI163.1 kx_1 rfl) ?_
            refine r_aload_n rfl ?_
            refine q_getR (Sh.ref hI163.1 kx_0 rfl) ?_
            refine q_getI (Sh.int hI163.1 kx_1 rfl) v161 ((gI_sW).trans hv161) ?_
            refine r_iload_n rfl ?_
            refine q_iast (Sh.arr hI163.1 ka_15) (v161.toInt) rfl (by omega) ?_
            have hI165 := HI.wA0 hI163 ka_15 (p := 15) rfl rfl (v161.toInt) (a2)
            have hF166 := Fr.wA (p := 15) (j := v161.toInt) (v := a2) hF164 rfl
            refine r_aload_n rfl ?_
            refine q_getR (Sh.ref hI165.1 kx_0 rfl) ?_
            refine r_dup rfl ?_
            refine q_getI (Sh.int hI165.1 kx_1 rfl) v161 (((gI_sW).trans (gI_sW)).trans hv161) ?_
            refine r_iconst 1 rfl ?_
            refine q_iadd (v161.toInt + 1) rfl (by omega) (fun v167 hv167 => ?_)
            refine q_putI (Sh.int hI165.1 kx_1 rfl) rfl ?_
            have hI168 := HI.wI1 hI165 kx_1 rfl (p := 1) (b := 12) (v := v167) rfl (by dsimp only; omega)
            have hF169 := Fr.wI (p := 1) (b := 12) (v := v167) hF166 rfl
            refine r_aload_n rfl ?_
            refine r_aload_n rfl ?_
            refine q_getR (Sh.ref hI168.1 kx_0 rfl) ?_
            refine q_getI (Sh.int hI168.1 kx_1 rfl) v167 (gI_sI_eq hI165.1 kx_1 rfl _) ?_
            refine q_inlV 109 rfl [.ref 0, .int v167] [] (Nat.le_of_ble_eq_true rfl) rfl ?_
            refine Ev.mk rfl rfl ⟨Nat.le_of_ble_eq_true rfl, Or.inr (q_rc hI168.1 kx_0 rfl)⟩ ?_
            show At _ none _ _ (0, [(0, .ref 0), (1, .int v167)], [], (_, _)) _
            refine At.enter rfl ?_
            refine r_aload_n rfl ?_
            refine r_iconst 0 rfl ?_
            refine q_putI (Sh.int hI168.1 kx_0 rfl) rfl ?_
            have hI170 := HI.wI0 hI168 kx_0 rfl (p := 0) (b := 17) (v := 0) rfl
            have hF171 := Fr.wI (p := 0) (b := 17) (v := 0) hF169 rfl
            refine r_iload_n rfl ?_
            refine q_ireti ?_
            refine At.enter rfl ?_
            refine r_ireti ?_
            have x172 := HI.eqI hI170 (p := 1) (b := 12) (((gI_sI_ne (by decide)).trans (gI_sI_eq hI165.1 kx_1 rfl _)))
            have x173 := HI.eqI hI0 (p := 1) (b := 12) (hv161)
            have x174 := HI.eqI hI0 (p := 1) (b := 0) (hv146)
            exact ⟨_, rfl, hI170, hF171, _, rfl, by omega, (by omega)⟩
          · have c162_ : v161.toInt ≥ 8 := en_i_lt_f c162
            refine At.enter rfl ?_
            refine r_aload_n rfl ?_
            refine r_bipush (-5) rfl ?_
            refine r_callV 52 rfl [.ref 0, .int (-5)] [] (Nat.le_of_ble_eq_true rfl) rfl (T_X10_refused_0 _ hI0 (-5) (by decide)) ?_
            rintro _ _ ⟨g175, rfl, hI176, hF177, v178, rfl, hr179⟩
            refine At.sti ?_
            have hF180 := Fr.tr hF0 hF177 rfl rfl
            have zv181 : ((-5) : Int32).toInt = (-5) := rfl
            refine At.enter rfl ?_
            refine r_ireti ?_
            have x182 := HI.eqI hI176 (p := 1) (b := 12) (((hF177.1 1 12 mf_X10_refused_0_1_12).trans hv161))
            have x183 := HI.eqI hI0 (p := 1) (b := 12) (hv161)
            have x184 := HI.eqI hI0 (p := 1) (b := 0) (hv146)
            exact ⟨_, rfl, hI176, hF180, _, rfl, by omega, (by omega)⟩

def F_X10_clear_0 : List (Nat × Nat) := [(1, 12)]
def A_X10_clear_0 : List Nat := []
set_option maxRecDepth 100000 in
set_option maxHeartbeats 4000000 in
theorem T_X10_clear_0 (d : Nat) {N : Nat} {g0 : List en_E} (hI0 : HI g0) : Ev (d + 1) 135 [.ref 0] (g0, N) (fun w h' => ∃ g', h' = (g', N) ∧ HI g' ∧ Fr F_X10_clear_0 A_X10_clear_0 g0 g' ∧ ∃ r : Int32, w = some (.int r) ∧ (0 ≤ r.toInt ∧ r.toInt ≤ 8) ∧ (r.toInt = (gI g0 1 12).toInt ∧ (gI g' 1 12).toInt = 0)) := by
  have hF0 : Fr F_X10_clear_0 A_X10_clear_0 g0 g0 := Fr.rf
  refine Ev.mk rfl rfl ⟨Nat.le_of_ble_eq_true rfl, Or.inr (q_rc hI0.1 kx_0 rfl)⟩ ?_
  show At _ none _ _ (0, [(0, .ref 0)], [], (_, _)) _
  refine At.enter rfl ?_
  refine r_aload_n rfl ?_
  refine q_getR (Sh.ref hI0.1 kx_0 rfl) ?_
  obtain ⟨v7, hv7⟩ : ∃ v, gI g0 1 12 = v := ⟨_, rfl⟩
  have rv7 := RgF.at hI0.2.1 (p := 1) (b := 12) rfl
  rw [hv7] at rv7
  dsimp only at rv7
  refine q_getI (Sh.int hI0.1 kx_1 rfl) v7 hv7 ?_
  refine r_istore_n ([(1, .int v7), (0, .ref 0)]) rfl ?_
  refine r_aload_n rfl ?_
  refine q_getR (Sh.ref hI0.1 kx_0 rfl) ?_
  refine r_iconst 0 rfl ?_
  refine q_putI (Sh.int hI0.1 kx_1 rfl) rfl ?_
  have hI8 := HI.wI1 hI0 kx_1 rfl (p := 1) (b := 12) (v := 0) rfl (by decide)
  have hF9 := Fr.wI (p := 1) (b := 12) (v := 0) hF0 rfl
  refine r_iload_n rfl ?_
  refine r_ireti ?_
  have x10 := HI.eqI hI8 (p := 1) (b := 12) ((gI_sI_eq hI0.1 kx_1 rfl _))
  have zv11 : (0 : Int32).toInt = 0 := rfl
  have x12 := HI.eqI hI0 (p := 1) (b := 12) (hv7)
  exact ⟨_, rfl, hI8, hF9, _, rfl, by omega, (by omega)⟩

def F_X10_thieves_0 : List (Nat × Nat) := []
def A_X10_thieves_0 : List Nat := []
set_option maxRecDepth 100000 in
set_option maxHeartbeats 4000000 in
theorem T_X10_thieves_0 (d : Nat) {N : Nat} {g0 : List en_E} (hI0 : HI g0) : Ev (d + 6) 136 [.ref 0] (g0, N) (fun w h' => ∃ g', h' = (g', N) ∧ HI g' ∧ Fr F_X10_thieves_0 A_X10_thieves_0 g0 g' ∧ ∃ r : Int32, w = some (.int r) ∧ True) := by
  have hF0 : Fr F_X10_thieves_0 A_X10_thieves_0 g0 g0 := Fr.rf
  refine Ev.mk rfl rfl ⟨Nat.le_of_ble_eq_true rfl, Or.inr (q_rc hI0.1 kx_0 rfl)⟩ ?_
  show At _ none _ _ (0, [(0, .ref 0)], [], (_, _)) _
  refine At.enter rfl ?_
  refine r_aload_n rfl ?_
  refine q_getR (Sh.ref hI0.1 kx_0 rfl) ?_
  refine r_callV 7 rfl [.ref 184] [] (Nat.le_of_ble_eq_true rfl) rfl (T_X9_suspects_184 _ hI0) ?_
  rintro _ _ ⟨g13, rfl, hI14, hF15, v16, rfl, hr17⟩
  refine At.sti ?_
  have hF18 := Fr.tr hF0 hF15 rfl rfl
  refine At.enter rfl ?_
  refine r_ireti ?_
  exact ⟨_, rfl, hI14, hF18, _, rfl, trivial⟩
