def F_X10_count_0 : List (Nat × Nat) := [(0, 14), (185, 3), (188, 16), (188, 18)]
def A_X10_count_0 : List Nat := [189, 190, 191, 192, 193, 194, 195, 196, 197, 198, 199, 200, 202, 203]
set_option maxRecDepth 100000 in
set_option maxHeartbeats 4000000 in
theorem T_X10_count_0 (d : Nat) {N : Nat} {g0 : List en_E} (hI0 : HI g0) (a1 : Int32) : Ev (d + 7) 142 [.ref 0, .int a1] (g0, N) (fun w h' => ∃ g', h' = (g', N) ∧ HI g' ∧ Fr F_X10_count_0 A_X10_count_0 g0 g' ∧ ∃ r : Int32, w = some (.int r) ∧ True) := by
  have hF0 : Fr F_X10_count_0 A_X10_count_0 g0 g0 := Fr.rf
  refine Ev.mk rfl rfl ⟨Nat.le_of_ble_eq_true rfl, Or.inr (q_rc hI0.1 kx_0 rfl)⟩ ?_
  show At _ none _ _ (0, [(0, .ref 0), (1, .int a1)], [], (_, _)) _
  refine At.enter rfl ?_
  refine r_iload_n rfl ?_
  by_cases c143_0 : a1.toInt = 0
  · refine r_tsw 76 (by rw [c143_0]; rfl) ?_
    refine At.enter rfl ?_
    refine r_aload_n rfl ?_
    refine q_getR (Sh.ref hI0.1 kx_0 rfl) ?_
    obtain ⟨v144, hv144⟩ : ∃ v, gI g0 1 0 = v := ⟨_, rfl⟩
    have rv144 := RgF.at hI0.2.1 (p := 1) (b := 0) rfl
    rw [hv144] at rv144
    dsimp only at rv144
    refine q_getI (Sh.int hI0.1 kx_1 rfl) v144 hv144 ?_
    refine r_ireti ?_
    exact ⟨_, rfl, hI0, hF0, _, rfl, trivial⟩
  by_cases c143_1 : a1.toInt = 1
  · refine r_tsw 84 (by rw [c143_1]; rfl) ?_
    refine At.enter rfl ?_
    refine r_aload_n rfl ?_
    refine q_getR (Sh.ref hI0.1 kx_0 rfl) ?_
    obtain ⟨v145, hv145⟩ : ∃ v, gI g0 1 4 = v := ⟨_, rfl⟩
    have rv145 := RgF.at hI0.2.1 (p := 1) (b := 4) rfl
    rw [hv145] at rv145
    dsimp only at rv145
    refine q_getI (Sh.int hI0.1 kx_1 rfl) v145 hv145 ?_
    refine r_ireti ?_
    exact ⟨_, rfl, hI0, hF0, _, rfl, trivial⟩
  by_cases c143_2 : a1.toInt = 2
  · refine r_tsw 92 (by rw [c143_2]; rfl) ?_
    refine At.enter rfl ?_
    refine r_aload_n rfl ?_
    refine q_getR (Sh.ref hI0.1 kx_0 rfl) ?_
    obtain ⟨v146, hv146⟩ : ∃ v, gI g0 1 6 = v := ⟨_, rfl⟩
    have rv146 := RgF.at hI0.2.1 (p := 1) (b := 6) rfl
    rw [hv146] at rv146
    dsimp only at rv146
    refine q_getI (Sh.int hI0.1 kx_1 rfl) v146 hv146 ?_
    refine r_ireti ?_
    exact ⟨_, rfl, hI0, hF0, _, rfl, trivial⟩
  by_cases c143_3 : a1.toInt = 3
  · refine r_tsw 100 (by rw [c143_3]; rfl) ?_
    refine At.enter rfl ?_
    refine r_aload_n rfl ?_
    refine q_getR (Sh.ref hI0.1 kx_0 rfl) ?_
    obtain ⟨v147, hv147⟩ : ∃ v, gI g0 1 12 = v := ⟨_, rfl⟩
    have rv147 := RgF.at hI0.2.1 (p := 1) (b := 12) rfl
    rw [hv147] at rv147
    dsimp only at rv147
    refine q_getI (Sh.int hI0.1 kx_1 rfl) v147 hv147 ?_
    refine r_ireti ?_
    exact ⟨_, rfl, hI0, hF0, _, rfl, trivial⟩
  by_cases c143_4 : a1.toInt = 4
  · refine r_tsw 108 (by rw [c143_4]; rfl) ?_
    refine At.enter rfl ?_
    refine r_aload_n rfl ?_
    refine q_inlV 112 rfl [.ref 0] [] (Nat.le_of_ble_eq_true rfl) rfl ?_
    refine Ev.mk rfl rfl ⟨Nat.le_of_ble_eq_true rfl, Or.inr (q_rc hI0.1 kx_0 rfl)⟩ ?_
    show At _ none _ _ (0, [(0, .ref 0)], [], (_, _)) _
    refine At.enter rfl ?_
    refine r_aload_n rfl ?_
    obtain ⟨v148, hv148⟩ : ∃ v, gI g0 0 14 = v := ⟨_, rfl⟩
    refine q_getI (Sh.int hI0.1 kx_0 rfl) v148 hv148 ?_
    refine r_ifs 7 rfl (fun c149 => ?_) (fun c149 => ?_)
    · have c149_ : v148.toInt ≠ 0 := en_k_ne_t c149
      refine At.enter rfl ?_
      refine r_aload_n rfl ?_
      refine q_getR (Sh.ref hI0.1 kx_0 rfl) ?_
      refine q_aret ?_
      refine At.enter rfl ?_
      refine r_callV 115 rfl [.ref 188] [] (Nat.le_of_ble_eq_true rfl) rfl (T_X1_comeByNoon_188 _ hI0) ?_
      rintro _ _ ⟨g150, rfl, hI151, hF152, v153, rfl, hr154⟩
      refine At.sti ?_
      have hF155 := Fr.tr hF0 hF152 rfl rfl
      refine At.enter rfl ?_
      refine r_ireti ?_
      exact ⟨_, rfl, hI151, hF155, _, rfl, trivial⟩
    · have c149_ : v148.toInt = 0 := en_k_ne_f c149
      refine At.enter rfl ?_
      refine r_aload_n rfl ?_
      refine q_getR (Sh.ref hI0.1 kx_0 rfl) ?_
      refine r_iconst 0 rfl ?_
      refine r_callV 15 rfl [.ref 188, .int 0] [] (Nat.le_of_ble_eq_true rfl) rfl (T_X1_layOut_188 _ hI0 0) ?_
      rintro _ _ ⟨g156, rfl, hI157, hF158, rfl⟩
      refine At.stn ?_
      have hF161 := Fr.tr hF0 hF158 rfl rfl
      refine At.enter rfl ?_
      refine r_aload_n rfl ?_
      refine q_getR (Sh.ref hI157.1 kx_0 rfl) ?_
      refine r_callV 22 rfl [.ref 188] [] (Nat.le_of_ble_eq_true rfl) rfl (T_X1_runWhole_188 _ hI157) ?_
      rintro _ _ ⟨g162, rfl, hI163, hF164, rfl⟩
      refine At.stn ?_
      have hF167 := Fr.tr hF161 hF164 rfl rfl
      refine At.enter rfl ?_
      refine r_aload_n rfl ?_
      refine r_iconst 1 rfl ?_
      refine q_putI (Sh.int hI163.1 kx_0 rfl) rfl ?_
      have hI168 := HI.wI0 hI163 kx_0 rfl (p := 0) (b := 14) (v := 1) rfl
      have hF169 := Fr.wI (p := 0) (b := 14) (v := 1) hF167 rfl
      refine Ar.fall 27 rfl ?_
      refine At.enter rfl ?_
      refine r_aload_n rfl ?_
      refine q_getR (Sh.ref hI168.1 kx_0 rfl) ?_
      refine q_aret ?_
      refine At.enter rfl ?_
      refine r_callV 115 rfl [.ref 188] [] (Nat.le_of_ble_eq_true rfl) rfl (T_X1_comeByNoon_188 _ hI168) ?_
      rintro _ _ ⟨g170, rfl, hI171, hF172, v173, rfl, hr174⟩
      refine At.sti ?_
      have hF175 := Fr.tr hF169 hF172 rfl rfl
      refine At.enter rfl ?_
      refine r_ireti ?_
      exact ⟨_, rfl, hI171, hF175, _, rfl, trivial⟩
  by_cases c143_5 : a1.toInt = 5
  · refine r_tsw 116 (by rw [c143_5]; rfl) ?_
    refine At.enter rfl ?_
    refine r_aload_n rfl ?_
    refine q_inlV 120 rfl [.ref 0] [] (Nat.le_of_ble_eq_true rfl) rfl ?_
    refine Ev.mk rfl rfl ⟨Nat.le_of_ble_eq_true rfl, Or.inr (q_rc hI0.1 kx_0 rfl)⟩ ?_
    show At _ none _ _ (0, [(0, .ref 0)], [], (_, _)) _
    refine At.enter rfl ?_
    refine r_aload_n rfl ?_
    obtain ⟨v176, hv176⟩ : ∃ v, gI g0 0 14 = v := ⟨_, rfl⟩
    refine q_getI (Sh.int hI0.1 kx_0 rfl) v176 hv176 ?_
    refine r_ifs 7 rfl (fun c177 => ?_) (fun c177 => ?_)
    · have c177_ : v176.toInt ≠ 0 := en_k_ne_t c177
      refine At.enter rfl ?_
      refine r_aload_n rfl ?_
      refine q_getR (Sh.ref hI0.1 kx_0 rfl) ?_
      refine q_aret ?_
      refine At.enter rfl ?_
      refine r_callV 123 rfl [.ref 188] [] (Nat.le_of_ble_eq_true rfl) rfl (T_X1_failures_188 _ hI0) ?_
      rintro _ _ ⟨g178, rfl, hI179, hF180, v181, rfl, hr182⟩
      refine At.sti ?_
      have hF183 := Fr.tr hF0 hF180 rfl rfl
      refine At.enter rfl ?_
      refine r_ireti ?_
      exact ⟨_, rfl, hI179, hF183, _, rfl, trivial⟩
    · have c177_ : v176.toInt = 0 := en_k_ne_f c177
      refine At.enter rfl ?_
      refine r_aload_n rfl ?_
      refine q_getR (Sh.ref hI0.1 kx_0 rfl) ?_
      refine r_iconst 0 rfl ?_
      refine r_callV 15 rfl [.ref 188, .int 0] [] (Nat.le_of_ble_eq_true rfl) rfl (T_X1_layOut_188 _ hI0 0) ?_
      rintro _ _ ⟨g184, rfl, hI185, hF186, rfl⟩
      refine At.stn ?_
      have hF189 := Fr.tr hF0 hF186 rfl rfl
      refine At.enter rfl ?_
      refine r_aload_n rfl ?_
      refine q_getR (Sh.ref hI185.1 kx_0 rfl) ?_
      refine r_callV 22 rfl [.ref 188] [] (Nat.le_of_ble_eq_true rfl) rfl (T_X1_runWhole_188 _ hI185) ?_
      rintro _ _ ⟨g190, rfl, hI191, hF192, rfl⟩
      refine At.stn ?_
      have hF195 := Fr.tr hF189 hF192 rfl rfl
      refine At.enter rfl ?_
      refine r_aload_n rfl ?_
      refine r_iconst 1 rfl ?_
      refine q_putI (Sh.int hI191.1 kx_0 rfl) rfl ?_
      have hI196 := HI.wI0 hI191 kx_0 rfl (p := 0) (b := 14) (v := 1) rfl
      have hF197 := Fr.wI (p := 0) (b := 14) (v := 1) hF195 rfl
      refine Ar.fall 27 rfl ?_
      refine At.enter rfl ?_
      refine r_aload_n rfl ?_
      refine q_getR (Sh.ref hI196.1 kx_0 rfl) ?_
      refine q_aret ?_
      refine At.enter rfl ?_
      refine r_callV 123 rfl [.ref 188] [] (Nat.le_of_ble_eq_true rfl) rfl (T_X1_failures_188 _ hI196) ?_
      rintro _ _ ⟨g198, rfl, hI199, hF200, v201, rfl, hr202⟩
      refine At.sti ?_
      have hF203 := Fr.tr hF197 hF200 rfl rfl
      refine At.enter rfl ?_
      refine r_ireti ?_
      exact ⟨_, rfl, hI199, hF203, _, rfl, trivial⟩
  by_cases c143_6 : a1.toInt = 6
  · refine r_tsw 124 (by rw [c143_6]; rfl) ?_
    refine At.enter rfl ?_
    refine r_aload_n rfl ?_
    refine q_getR (Sh.ref hI0.1 kx_0 rfl) ?_
    obtain ⟨v204, hv204⟩ : ∃ v, gI g0 174 1 = v := ⟨_, rfl⟩
    have rv204 := RgF.at hI0.2.1 (p := 174) (b := 1) rfl
    rw [hv204] at rv204
    dsimp only at rv204
    refine q_getI (Sh.int hI0.1 kx_174 rfl) v204 hv204 ?_
    refine r_ireti ?_
    exact ⟨_, rfl, hI0, hF0, _, rfl, trivial⟩
  by_cases c143_7 : a1.toInt = 7
  · refine r_tsw 132 (by rw [c143_7]; rfl) ?_
    refine At.enter rfl ?_
    refine r_aload_n rfl ?_
    refine q_getR (Sh.ref hI0.1 kx_0 rfl) ?_
    refine r_iconst 1 rfl ?_
    obtain ⟨v205, hv205⟩ : ∃ v, eA g0 230 1 = v := ⟨_, rfl⟩
    refine q_iald (Sh.arr hI0.1 ka_230) 1 rfl (by decide) v205 hv205 ?_
    refine r_ireti ?_
    exact ⟨_, rfl, hI0, hF0, _, rfl, trivial⟩
  by_cases c143_8 : a1.toInt = 8
  · refine r_tsw 139 (by rw [c143_8]; rfl) ?_
    refine At.enter rfl ?_
    refine r_aload_n rfl ?_
    refine q_getR (Sh.ref hI0.1 kx_0 rfl) ?_
    refine r_iconst 2 rfl ?_
    obtain ⟨v206, hv206⟩ : ∃ v, eA g0 230 2 = v := ⟨_, rfl⟩
    refine q_iald (Sh.arr hI0.1 ka_230) 2 rfl (by decide) v206 hv206 ?_
    refine r_ireti ?_
    exact ⟨_, rfl, hI0, hF0, _, rfl, trivial⟩
  by_cases c143_9 : a1.toInt = 9
  · refine r_tsw 146 (by rw [c143_9]; rfl) ?_
    refine At.enter rfl ?_
    refine r_aload_n rfl ?_
    refine q_getR (Sh.ref hI0.1 kx_0 rfl) ?_
    refine r_iconst 3 rfl ?_
    obtain ⟨v207, hv207⟩ : ∃ v, eA g0 230 3 = v := ⟨_, rfl⟩
    refine q_iald (Sh.arr hI0.1 ka_230) 3 rfl (by decide) v207 hv207 ?_
    refine r_ireti ?_
    exact ⟨_, rfl, hI0, hF0, _, rfl, trivial⟩
  by_cases c143_10 : a1.toInt = 10
  · refine r_tsw 153 (by rw [c143_10]; rfl) ?_
    refine At.enter rfl ?_
    refine r_aload_n rfl ?_
    refine q_getR (Sh.ref hI0.1 kx_0 rfl) ?_
    refine r_iconst 5 rfl ?_
    obtain ⟨v208, hv208⟩ : ∃ v, eA g0 230 5 = v := ⟨_, rfl⟩
    refine q_iald (Sh.arr hI0.1 ka_230) 5 rfl (by decide) v208 hv208 ?_
    refine r_ireti ?_
    exact ⟨_, rfl, hI0, hF0, _, rfl, trivial⟩
  by_cases c143_11 : a1.toInt = 11
  · refine r_tsw 160 (by rw [c143_11]; rfl) ?_
    refine At.enter rfl ?_
    refine r_aload_n rfl ?_
    refine q_getR (Sh.ref hI0.1 kx_0 rfl) ?_
    refine r_bipush 6 rfl ?_
    obtain ⟨v209, hv209⟩ : ∃ v, eA g0 230 6 = v := ⟨_, rfl⟩
    refine q_iald (Sh.arr hI0.1 ka_230) 6 rfl (by decide) v209 hv209 ?_
    refine r_ireti ?_
    exact ⟨_, rfl, hI0, hF0, _, rfl, trivial⟩
  by_cases c143_12 : a1.toInt = 12
  · refine r_tsw 168 (by rw [c143_12]; rfl) ?_
    refine At.enter rfl ?_
    refine r_aload_n rfl ?_
    refine q_getR (Sh.ref hI0.1 kx_0 rfl) ?_
    obtain ⟨v210, hv210⟩ : ∃ v, gI g0 1 9 = v := ⟨_, rfl⟩
    refine q_getI (Sh.int hI0.1 kx_1 rfl) v210 hv210 ?_
    refine r_ireti ?_
    exact ⟨_, rfl, hI0, hF0, _, rfl, trivial⟩
  by_cases c143_13 : a1.toInt = 13
  · refine r_tsw 176 (by rw [c143_13]; rfl) ?_
    refine At.enter rfl ?_
    refine r_aload_n rfl ?_
    refine q_getR (Sh.ref hI0.1 kx_0 rfl) ?_
    obtain ⟨v211, hv211⟩ : ∃ v, gI g0 1 10 = v := ⟨_, rfl⟩
    refine q_getI (Sh.int hI0.1 kx_1 rfl) v211 hv211 ?_
    refine r_ireti ?_
    exact ⟨_, rfl, hI0, hF0, _, rfl, trivial⟩
  by_cases c143_14 : a1.toInt = 14
  · refine r_tsw 184 (by rw [c143_14]; rfl) ?_
    refine At.enter rfl ?_
    refine r_aload_n rfl ?_
    refine q_getR (Sh.ref hI0.1 kx_0 rfl) ?_
    obtain ⟨v212, hv212⟩ : ∃ v, gI g0 1 11 = v := ⟨_, rfl⟩
    refine q_getI (Sh.int hI0.1 kx_1 rfl) v212 hv212 ?_
    refine r_ireti ?_
    exact ⟨_, rfl, hI0, hF0, _, rfl, trivial⟩
  have c213 : a1.toInt < 0 ∨ 14 < a1.toInt := by omega
  refine r_tsw 192 (by unfold en_sw; rw [if_pos c213]; rfl) ?_
  refine At.enter rfl ?_
  refine r_iconst (-1) rfl ?_
  refine r_ireti ?_
  exact ⟨_, rfl, hI0, hF0, _, rfl, trivial⟩

def F_X10_status_0 : List (Nat × Nat) := []
def A_X10_status_0 : List Nat := []
set_option maxRecDepth 100000 in
set_option maxHeartbeats 4000000 in
theorem T_X10_status_0 (d : Nat) {N : Nat} {g0 : List en_E} (hI0 : HI g0) : Ev (d + 1) 143 [.ref 0] (g0, N) (fun w h' => ∃ g', h' = (g', N) ∧ HI g' ∧ Fr F_X10_status_0 A_X10_status_0 g0 g' ∧ ∃ r : Int32, w = some (.int r) ∧ True) := by
  have hF0 : Fr F_X10_status_0 A_X10_status_0 g0 g0 := Fr.rf
  refine Ev.mk rfl rfl ⟨Nat.le_of_ble_eq_true rfl, Or.inr (q_rc hI0.1 kx_0 rfl)⟩ ?_
  show At _ none _ _ (0, [(0, .ref 0)], [], (_, _)) _
  refine At.enter rfl ?_
  refine r_aload_n rfl ?_
  obtain ⟨v3, hv3⟩ : ∃ v, gI g0 0 17 = v := ⟨_, rfl⟩
  refine q_getI (Sh.int hI0.1 kx_0 rfl) v3 hv3 ?_
  refine r_ireti ?_
  exact ⟨_, rfl, hI0, hF0, _, rfl, trivial⟩

def F_X5_kindOf : List (Nat × Nat) := []
def A_X5_kindOf : List Nat := []
set_option maxRecDepth 100000 in
set_option maxHeartbeats 4000000 in
theorem T_X5_kindOf (d : Nat) {N : Nat} {g0 : List en_E} (hI0 : HI g0) (a0 : Int32) : Ev (d + 1) 74 [.int a0] (g0, N) (fun w h' => ∃ g', h' = (g', N) ∧ HI g' ∧ Fr F_X5_kindOf A_X5_kindOf g0 g' ∧ ∃ r : Int32, w = some (.int r) ∧ (0 ≤ r.toInt ∧ r.toInt ≤ 3) ∧ ((r.toInt ≠ 3 → a0.toInt ≠ -1) ∧ KND a0.toInt r.toInt)) := by
  have hF0 : Fr F_X5_kindOf A_X5_kindOf g0 g0 := Fr.rf
  refine Ev.mk rfl rfl ⟨Nat.le_of_ble_eq_true rfl, Or.inl rfl⟩ ?_
  show At _ none _ _ (0, [(0, .int a0)], [], (_, _)) _
  refine At.enter rfl ?_
  refine r_iload_n rfl ?_
  refine r_iconst (-1) rfl ?_
  refine r_ics 5 rfl (fun c15 => ?_) (fun c15 => ?_)
  · have c15_ : a0.toInt ≠ (-1) := en_i_ne_t c15
    refine At.enter rfl ?_
    refine r_iload_n rfl ?_
    refine r_bipush 97 rfl ?_
    refine r_ics 13 rfl (fun c16 => ?_) (fun c16 => ?_)
    · have c16_ : a0.toInt < 97 := en_i_lt_t c16
      refine At.enter rfl ?_
      refine r_iload_n rfl ?_
      refine r_bipush 48 rfl ?_
      refine r_ics 29 rfl (fun c17 => ?_) (fun c17 => ?_)
      · have c17_ : a0.toInt < 48 := en_i_lt_t c17
        refine At.enter rfl ?_
        refine r_iconst 2 rfl ?_
        refine Ar.fall 40 rfl ?_
        refine At.enter rfl ?_
        refine r_ireti ?_
        have zv18 : (2 : Int32).toInt = 2 := rfl
        exact ⟨_, rfl, hI0, hF0, _, rfl, by decide, ⟨by omega, KND.mk (by omega)⟩⟩
      · have c17_ : a0.toInt ≥ 48 := en_i_lt_f c17
        refine At.enter rfl ?_
        refine r_iload_n rfl ?_
        refine r_bipush 57 rfl ?_
        refine r_ics 35 rfl (fun c19 => ?_) (fun c19 => ?_)
        · have c19_ : a0.toInt > 57 := en_i_gt_t c19
          refine At.enter rfl ?_
          refine r_iconst 2 rfl ?_
          refine Ar.fall 40 rfl ?_
          refine At.enter rfl ?_
          refine r_ireti ?_
          have zv20 : (2 : Int32).toInt = 2 := rfl
          exact ⟨_, rfl, hI0, hF0, _, rfl, by decide, ⟨by omega, KND.mk (by omega)⟩⟩
        · have c19_ : a0.toInt ≤ 57 := en_i_gt_f c19
          refine At.enter rfl ?_
          refine r_iconst 1 rfl ?_
          refine r_goto ?_
          refine At.enter rfl ?_
          refine r_ireti ?_
          have zv21 : (1 : Int32).toInt = 1 := rfl
          exact ⟨_, rfl, hI0, hF0, _, rfl, by decide, ⟨by omega, KND.mk (by omega)⟩⟩
    · have c16_ : a0.toInt ≥ 97 := en_i_lt_f c16
      refine At.enter rfl ?_
      refine r_iload_n rfl ?_
      refine r_bipush 122 rfl ?_
      refine r_ics 19 rfl (fun c22 => ?_) (fun c22 => ?_)
      · have c22_ : a0.toInt > 122 := en_i_gt_t c22
        refine At.enter rfl ?_
        refine r_iload_n rfl ?_
        refine r_bipush 48 rfl ?_
        refine r_ics 29 rfl (fun c23 => ?_) (fun c23 => ?_)
        · have c23_ : a0.toInt < 48 := en_i_lt_t c23
          exfalso; omega
        · have c23_ : a0.toInt ≥ 48 := en_i_lt_f c23
          refine At.enter rfl ?_
          refine r_iload_n rfl ?_
          refine r_bipush 57 rfl ?_
          refine r_ics 35 rfl (fun c24 => ?_) (fun c24 => ?_)
          · have c24_ : a0.toInt > 57 := en_i_gt_t c24
            refine At.enter rfl ?_
            refine r_iconst 2 rfl ?_
            refine Ar.fall 40 rfl ?_
            refine At.enter rfl ?_
            refine r_ireti ?_
            have zv25 : (2 : Int32).toInt = 2 := rfl
            exact ⟨_, rfl, hI0, hF0, _, rfl, by decide, ⟨by omega, KND.mk (by omega)⟩⟩
          · have c24_ : a0.toInt ≤ 57 := en_i_gt_f c24
            exfalso; omega
      · have c22_ : a0.toInt ≤ 122 := en_i_gt_f c22
        refine At.enter rfl ?_
        refine r_iconst 0 rfl ?_
        refine r_goto ?_
        refine At.enter rfl ?_
        refine r_ireti ?_
        have zv26 : (0 : Int32).toInt = 0 := rfl
        exact ⟨_, rfl, hI0, hF0, _, rfl, by decide, ⟨by omega, KND.mk (by omega)⟩⟩
  · have c15_ : a0.toInt = (-1) := en_i_ne_f c15
    refine At.enter rfl ?_
    refine r_iconst 3 rfl ?_
    refine r_ireti ?_
    have zv27 : (3 : Int32).toInt = 3 := rfl
    exact ⟨_, rfl, hI0, hF0, _, rfl, by decide, ⟨by omega, KND.mk (by omega)⟩⟩
