def F_X10_count_0 : List (Nat × Nat) := [(0, 14), (185, 3), (188, 16), (188, 18)]
def A_X10_count_0 : List Nat := [189, 190, 191, 192, 193, 194, 195, 196, 197, 198, 199, 200, 202, 203]
set_option maxRecDepth 100000 in
set_option maxHeartbeats 4000000 in
theorem T_X10_count_0 (d : Nat) {N : Nat} {g0 : List en_E} (hI0 : HI g0) (a1 : Int32) : Ev (d + 7) 142 [.ref 0, .int a1] (g0, N) (fun w h' => ∃ g', h' = (g', N) ∧ HI g' ∧ Fr F_X10_count_0 A_X10_count_0 g0 g' ∧ ∃ r : Int32, w = some (.int r) ∧ True) := by
  have hF0 : Fr F_X10_count_0 A_X10_count_0 g0 g0 := Fr.rf
  refine Ev.mk rfl rfl ⟨Nat.le_of_ble_eq_true rfl, Or.inr (q_rc hI0.1 kx_0 rfl)⟩ ?_
  show At _ none _ _ (0, [(0, .ref 0), (1, .int a1)], [], (_, _)) _
  refine At.enter rfl ?_
  refine r_iload_n rfl ?_
  by_cases c143_0 : a1.toInt = 0
  · refine r_tsw 76 (by rw [c143_0]; rfl) ?_
    refine At.enter rfl ?_
    refine r_aload_n rfl ?_
    refine q_getR (Sh.ref hI0.1 kx_0 rfl) ?_
    obtain ⟨v144, hv144⟩ : ∃ v, gI g0 1 0 = v := ⟨_, rfl⟩
    have rv144 := RgF.at hI0.2.1 (p := 1) (b := 0) rfl
    rw [hv144] at rv144
    dsimp only at rv144
    refine q_getI (Sh.int hI0.1 kx_1 rfl) v144 hv144 ?_
    refine r_ireti ?_
    exact ⟨_, rfl, hI0, hF0, _, rfl, trivial⟩
  by_cases c143_1 : a1.toInt = 1
  · refine r_tsw 84 (by rw [c143_1]; rfl) ?_
    refine At.enter rfl ?_
    refine r_aload_n rfl ?_
    refine q_getR (Sh.ref hI0.1 kx_0 rfl) ?_
    obtain ⟨v145, hv145⟩ : ∃ v, gI g0 1 4 = v := ⟨_, rfl⟩
    have rv145 := RgF.at hI0.2.1 (p := 1) (b := 4) rfl
    rw [hv145] at rv145
    dsimp only at rv145
    refine q_getI (Sh.int hI0.1 kx_1 rfl) v145 hv145 ?_
    refine r_ireti ?_
    exact ⟨_, rfl, hI0, hF0, _, rfl, trivial⟩
  by_cases c143_2 : a1.toInt = 2
  · refine r_tsw 92 (by rw [c143_2]; rfl) ?_
    refine At.enter rfl ?_
    refine r_aload_n rfl ?_
    refine q_getR (Sh.ref hI0.1 kx_0 rfl) ?_
    obtain ⟨v146, hv146⟩ : ∃ v, gI g0 1 6 = v := ⟨_, rfl⟩
    have rv146 := RgF.at hI0.2.1 (p := 1) (b := 6) rfl
    rw [hv146] at rv146
    dsimp only at rv146
    refine q_getI (Sh.int hI0.1 kx_1 rfl) v146 hv146 ?_
    refine r_ireti ?_
    exact ⟨_, rfl, hI0, hF0, _, rfl, trivial⟩
  by_cases c143_3 : a1.toInt = 3
  · refine r_tsw 100 (by rw [c143_3]; rfl) ?_
    refine At.enter rfl ?_
    refine r_aload_n rfl ?_
    refine q_getR (Sh.ref hI0.1 kx_0 rfl) ?_
    obtain ⟨v147, hv147⟩ : ∃ v, gI g0 1 12 = v := ⟨_, rfl⟩
    have rv147 := RgF.at hI0.2.1 (p := 1) (b := 12) rfl
    rw [hv147] at rv147
    dsimp only at rv147
    refine q_getI (Sh.int hI0.1 kx_1 rfl) v147 hv147 ?_
    refine r_ireti ?_
    exact ⟨_, rfl, hI0, hF0, _, rfl, trivial⟩
  by_cases c143_4 : a1.toInt = 4
  · refine r_tsw 108 (by rw [c143_4]; rfl) ?_
    refine At.enter rfl ?_
    refine r_aload_n rfl ?_
    refine q_inlV 112 rfl [.ref 0] [] (Nat.le_of_ble_eq_true rfl) rfl ?_
    refine Ev.mk rfl rfl ⟨Nat.le_of_ble_eq_true rfl, Or.inr (q_rc hI0.1 kx_0 rfl)⟩ ?_
    show At _ none _ _ (0, [(0, .ref 0)], [], (_, _)) _
    refine At.enter rfl ?_
    refine r_aload_n rfl ?_
    obtain ⟨v148, hv148⟩ : ∃ v, gI g0 0 14 = v := ⟨_, rfl⟩
    refine q_getI (Sh.int hI0.1 kx_0 rfl) v148 hv148 ?_
    refine r_ifs 7 rfl (fun c149 => ?_) (fun c149 => ?_)
    · have c149_ : v148.toInt ≠ 0 := en_k_ne_t c149
      refine At.enter rfl ?_
      refine r_aload_n rfl ?_
      refine q_getR (Sh.ref hI0.1 kx_0 rfl) ?_
      refine q_aret ?_
      refine At.enter rfl ?_
      refine r_callV 115 rfl [.ref 188] [] (Nat.le_of_ble_eq_true rfl) rfl (T_X1_comeByNoon_188 _ hI0) ?_
      rintro _ _ ⟨g150, rfl, hI151, hF152, v153, rfl, hr154⟩
      refine At.sti ?_
      have hF155 := Fr.tr hF0 hF152 rfl rfl
      refine At.enter rfl ?_
      refine r_ireti ?_
      exact ⟨_, rfl, hI151, hF155, _, rfl, trivial⟩
    · have c149_ : v148.toInt = 0 := en_k_ne_f c149
      refine At.enter rfl ?_
      refine r_aload_n rfl ?_
      refine q_getR (Sh.ref hI0.1 kx_0 rfl) ?_
      refine r_iconst 0 rfl ?_
      refine r_callV 15 rfl [.ref 188, .int 0] [] (Nat.le_of_ble_eq_true rfl) rfl (T_X1_layOut_188 _ hI0 0) ?_
      rintro _ _ ⟨g156, rfl, hI157, hF158, rfl⟩
      refine At.stn ?_
      have hF161 := Fr.tr hF0 hF158 rfl rfl
      refine At.enter rfl ?_
      refine r_aload_n rfl ?_
      refine q_getR (Sh.ref hI157.1 kx_0 rfl) ?_
      refine r_callV 22 rfl [.ref 188] [] (Nat.le_of_ble_eq_true rfl) rfl (T_X1_runWhole_188 _ hI157) ?_
      rintro _ _ ⟨g162, rfl, hI163, hF164, rfl⟩
      refine At.stn ?_
      have hF167 := Fr.tr hF161 hF164 rfl rfl
      refine At.enter rfl ?_
      refine r_aload_n rfl ?_
      refine r_iconst 1 rfl ?_
      refine q_putI (Sh.int hI163.1 kx_0 rfl) rfl ?_
      have hI168 := HI.wI0 hI163 kx_0 rfl (p := 0) (b := 14) (v := 1) rfl
      have hF169 := Fr.wI (p := 0) (b := 14) (v := 1) hF167 rfl
      refine Ar.fall 27 rfl ?_
      refine At.enter rfl ?_
      refine r_aload_n rfl ?_
      refine q_getR (Sh.ref hI168.1 kx_0 rfl) ?_
      refine q_aret ?_
      refine At.enter rfl ?_
      refine r_callV 115 rfl [.ref 188] [] (Nat.le_of_ble_eq_true rfl) rfl (T_X1_comeByNoon_188 _ hI168) ?_
      rintro _ _ ⟨g170, rfl, hI171, hF172, v173, rfl, hr174⟩
      refine At.sti ?_
      have hF175 := Fr.tr hF169 hF172 rfl rfl
      refine At.enter rfl ?_
      refine r_ireti ?_
      exact ⟨_, rfl, hI171, hF175, _, rfl, trivial⟩
  by_cases c143_5 : a1.toInt = 5
  · refine r_tsw 116 (by rw [c143_5]; rfl) ?_
    refine At.enter rfl ?_
    refine r_aload_n rfl ?_
    refine q_inlV 120 rfl [.ref 0] [] (Nat.le_of_ble_eq_true rfl) rfl ?_
    refine Ev.mk rfl rfl ⟨Nat.le_of_ble_eq_true rfl, Or.inr (q_rc hI0.1 kx_0 rfl)⟩ ?_
    show At _ none _ _ (0, [(0, .ref 0)], [], (_, _)) _
    refine At.enter rfl ?_
    refine r_aload_n rfl ?_
    obtain ⟨v176, hv176⟩ : ∃ v, gI g0 0 14 = v := ⟨_, rfl⟩
    refine q_getI (Sh.int hI0.1 kx_0 rfl) v176 hv176 ?_
    refine r_ifs 7 rfl (fun c177 => ?_) (fun c177 => ?_)
    · have c177_ : v176.toInt ≠ 0 := en_k_ne_t c177
      refine At.enter rfl ?_
      refine r_aload_n rfl ?_
      refine q_getR (Sh.ref hI0.1 kx_0 rfl) ?_
      refine q_aret ?_
      refine At.enter rfl ?_
      refine r_callV 123 rfl [.ref 188] [] (Nat.le_of_ble_eq_true rfl) rfl (T_X1_failures_188 _ hI0) ?_
      rintro _ _ ⟨g178, rfl, hI179, hF180, v181, rfl, hr182⟩
      refine At.sti ?_
      have hF183 := Fr.tr hF0 hF180 rfl rfl
      refine At.enter rfl ?_
      refine r_ireti ?_
      exact ⟨_, rfl, hI179, hF183, _, rfl, trivial⟩
    · have c177_ : v176.toInt = 0 := en_k_ne_f c177
      refine At.enter rfl ?_
      refine r_aload_n rfl ?_
      refine q_getR (Sh.ref hI0.1 kx_0 rfl) ?_
      refine r_iconst 0 rfl ?_
      refine r_callV 15 rfl [.ref 188, .int 0] [] (Nat.le_of_ble_eq_true rfl) rfl (T_X1_layOut_188 _ hI0 0) ?_
      rintro _ _ ⟨g184, rfl, hI185, hF186, rfl⟩
      refine At.stn ?_
      have hF189 := Fr.tr hF0 hF186 rfl rfl
      refine At.enter rfl ?_
      refine r_aload_n rfl ?_
      refine q_getR (Sh.ref hI185.1 kx_0 rfl) ?_
      refine r_callV 22 rfl [.ref 188] [] (Nat.le_of_ble_eq_true rfl) rfl (T_X1_runWhole_188 _ hI185) ?_
      rintro _ _ ⟨g190, rfl, hI191, hF192, rfl⟩
      refine At.stn ?_
      have hF195 := Fr.tr hF189 hF192 rfl rfl
      refine At.enter rfl ?_
      refine r_aload_n rfl ?_
      refine r_iconst 1 rfl ?_
      refine q_putI (Sh.int hI191.1 kx_0 rfl) rfl ?_
      have hI196 := HI.wI0 hI191 kx_0 rfl (p := 0) (b := 14) (v := 1) rfl
      have hF197 := Fr.wI (p := 0) (b := 14) (v := 1) hF195 rfl
      refine Ar.fall 27 rfl ?_
      refine At.enter rfl ?_
      refine r_aload_n rfl ?_
      refine q_getR (Sh.ref hI196.1 kx_0 rfl) ?_
      refine q_aret ?_
      refine At.enter rfl ?_
      refine r_callV 123 rfl [.ref 188] [] (Nat.le_of_ble_eq_true rfl) rfl (T_X1_failures_188 _ hI196) ?_
      rintro _ _ ⟨g198, rfl, hI199, hF200, v201, rfl, hr202⟩
      refine At.sti ?_
      have hF203 := Fr.tr hF197 hF200 rfl rfl
      refine At.enter rfl ?_
      refine r_ireti ?_
      exact ⟨_, rfl, hI199, hF203, _, rfl, trivial⟩
  by_cases c143_6 : a1.toInt = 6
  · refine r_tsw 124 (by rw [c143_6]; rfl) ?_
    refine At.enter rfl ?_
    refine r_aload_n rfl ?_
    refine q_getR (Sh.ref hI0.1 kx_0 rfl) ?_
    obtain ⟨v204, hv204⟩ : ∃ v, gI g0 174 1 = v := ⟨_, rfl⟩
    have rv204 := RgF.at hI0.2.1 (p := 174) (b := 1) rfl
    rw [hv204] at rv204
    dsimp only at rv204
    refine q_getI (Sh.int hI0.1 kx_174 rfl) v204 hv204 ?_
    refine r_ireti ?_
    exact ⟨_, rfl, hI0, hF0, _, rfl, trivial⟩
  by_cases c143_7 : a1.toInt = 7
  · refine r_tsw 132 (by rw [c143_7]; rfl) ?_
    refine At.enter rfl ?_
    refine r_aload_n rfl ?_
    refine q_getR (Sh.ref hI0.1 kx_0 rfl) ?_
    refine r_iconst 1 rfl ?_
    obtain ⟨v205, hv205⟩ : ∃ v, eA g0 230 1 = v := ⟨_, rfl⟩
    refine q_iald (Sh.arr hI0.1 ka_230) 1 rfl (by decide) v205 hv205 ?_
    refine r_ireti ?_
    exact ⟨_, rfl, hI0, hF0, _, rfl, trivial⟩
  by_cases c143_8 : a1.toInt = 8
  · refine r_tsw 139 (by rw [c143_8]; rfl) ?_
    refine At.enter rfl ?_
    refine r_aload_n rfl ?_
    refine q_getR (Sh.ref hI0.1 kx_0 rfl) ?_
    refine r_iconst 2 rfl ?_
    obtain ⟨v206, hv206⟩ : ∃ v, eA g0 230 2 = v := ⟨_, rfl⟩
    refine q_iald (Sh.arr hI0.1 ka_230) 2 rfl (by decide) v206 hv206 ?_
    refine r_ireti ?_
    exact ⟨_, rfl, hI0, hF0, _, rfl, trivial⟩
  by_cases c143_9 : a1.toInt = 9
  · refine r_tsw 146 (by rw [c143_9]; rfl) ?_
    refine At.enter rfl ?_
    refine r_aload_n rfl ?_
    refine q_getR (Sh.ref hI0.1 kx_0 rfl) ?_
    refine r_iconst 3 rfl ?_
    obtain ⟨v207, hv207⟩ : ∃ v, eA g0 230 3 = v := ⟨_, rfl⟩
    refine q_iald (Sh.arr hI0.1 ka_230) 3 rfl (by decide) v207 hv207 ?_
    refine r_ireti ?_
    exact ⟨_, rfl, hI0, hF0, _, rfl, trivial⟩
  by_cases c143_10 : a1.toInt = 10
  · refine r_tsw 153 (by rw [c143_10]; rfl) ?_
    refine At.enter rfl ?_
    refine r_aload_n rfl ?_
    refine q_getR (Sh.ref hI0.1 kx_0 rfl) ?_
    refine r_iconst 5 rfl ?_
    obtain ⟨v208, hv208⟩ : ∃ v, eA g0 230 5 = v := ⟨_, rfl⟩
    refine q_iald (Sh.arr hI0.1 ka_230) 5 rfl (by decide) v208 hv208 ?_
    refine r_ireti ?_
    exact ⟨_, rfl, hI0, hF0, _, rfl, trivial⟩
  by_cases c143_11 : a1.toInt = 11
  · refine r_tsw 160 (by rw [c143_11]; rfl) ?_
    refine At.enter rfl ?_
    refine r_aload_n rfl ?_
    refine q_getR (Sh.ref hI0.1 kx_0 rfl) ?_
    refine r_bipush 6 rfl ?_
    obtain ⟨v209, hv209⟩ : ∃ v, eA g0 230 6 = v := ⟨_, rfl⟩
    refine q_iald (Sh.arr hI0.1 ka_230) 6 rfl (by decide) v209 hv209 ?_
    refine r_ireti ?_
    exact ⟨_, rfl, hI0, hF0, _, rfl, trivial⟩
  by_cases c143_12 : a1.toInt = 12
  · refine r_tsw 168 (by rw [c143_12]; rfl) ?_
    refine At.enter rfl ?_
    refine r_aload_n rfl ?_
    refine q_getR (Sh.ref hI0.1 kx_0 rfl) ?_
    obtain ⟨v210, hv210⟩ : ∃ v, gI g0 1 9 = v := ⟨_, rfl⟩
    refine q_getI (Sh.int hI0.1 kx_1 rfl) v210 hv210 ?_
    refine r_ireti ?_
    exact ⟨_, rfl, hI0, hF0, _, rfl, trivial⟩
  by_cases c143_13 : a1.toInt = 13
  · refine r_tsw 176 (by rw [c143_13]; rfl) ?_
    refine At.enter rfl ?_
    refine r_aload_n rfl ?_
    refine q_getR (Sh.ref hI0.1 kx_0 rfl) ?_
    obtain ⟨v211, hv211⟩ : ∃ v, gI g0 1 10 = v := ⟨_, rfl⟩
    refine q_getI (Sh.int hI0.1 kx_1 rfl) v211 hv211 ?_
    refine r_ireti ?_
    exact ⟨_, rfl, hI0, hF0, _, rfl, trivial⟩
  by_cases c143_14 : a1.toInt = 14
  · refine r_tsw 184 (by rw [c143_14]; rfl) ?_
    refine At.enter rfl ?_
    refine r_aload_n rfl ?_
    refine q_getR (Sh.ref hI0.1 kx_0 rfl) ?_
    obtain ⟨v212, hv212⟩ : ∃ v, gI g0 1 11 = v := ⟨_, rfl⟩
    refine q_getI (Sh.int hI0.1 kx_1 rfl) v212 hv212 ?_
    refine r_ireti ?_
    exact ⟨_, rfl, hI0, hF0, _, rfl, trivial⟩
  have c213 : a1.toInt < 0 ∨ 14 < a1.toInt := by omega
  refine r_tsw 192 (by unfold en_sw; rw [if_pos c213]; rfl) ?_
  refine At.enter rfl ?_
  refine r_iconst (-1) rfl ?_
  refine r_ireti ?_
  exact ⟨_, rfl, hI0, hF0, _, rfl, trivial⟩

def F_X10_status_0 : List (Nat × Nat) := []
def A_X10_status_0 : List Nat := []
set_option maxRecDepth 100000 in
set_option maxHeartbeats 4000000 in
theorem T_X10_status_0 (d : Nat) {N : Nat} {g0 : List en_E} (hI0 : HI g0) : Ev (d + 1) 143 [.ref 0] (g0, N) (fun w h' => ∃ g', h' = (g', N) ∧ HI g' ∧ Fr F_X10_status_0 A_X10_status_0 g0 g' ∧ ∃ r : Int32, w = some (.int r) ∧ True) := by
  have hF0 : Fr F_X10_status_0 A_X10_status_0 g0 g0 := Fr.rf
  refine Ev.mk rfl rfl ⟨Nat.le_of_ble_eq_true rfl, Or.inr (q_rc hI0.1 kx_0 rfl)⟩ ?_
  show At _ none _ _ (0, [(0, .ref 0)], [], (_, _)) _
  refine At.enter rfl ?_
  refine r_aload_n rfl ?_
  obtain ⟨v3, hv3⟩ : ∃ v, gI g0 0 17 = v := ⟨_, rfl⟩
  refine q_getI (Sh.int hI0.1 kx_0 rfl) v3 hv3 ?_
  refine r_ireti ?_
  exact ⟨_, rfl, hI0, hF0, _, rfl, trivial⟩

def F_X5_kindOf : List (Nat × Nat) := []
def A_X5_kindOf : List Nat := []
set_option maxRecDepth 100000 in
set_option maxHeartbeats 4000000 in
theorem T_X5_kindOf (d : Nat) {N : Nat} {g0 : List en_E} (hI0 : HI g0) (a0 : Int32) : Ev (d + 1) 74 [.int a0] (g0, N) (fun w h' => ∃ g', h' = (g', N) ∧ HI g' ∧ Fr F_X5_kindOf A_X5_kindOf g0 g' ∧ ∃ r : Int32, w = some (.int r) ∧ (0 ≤ r.toInt ∧ r.toInt ≤ 3) ∧ (r.toInt ≠ 3 → a0.toInt ≠ -1)) := by
  have hF0 : Fr F_X5_kindOf A_X5_kindOf g0 g0 := Fr.rf
  refine Ev.mk rfl rfl ⟨Nat.le_of_ble_eq_true rfl, Or.inl rfl⟩ ?_
  show At _ none _ _ (0, [(0, .int a0)], [], (_, _)) _
  refine At.enter rfl ?_
  refine r_iload_n rfl ?_
  refine r_iconst (-1) rfl ?_
  refine r_ics 5 rfl (fun c15 => ?_) (fun c15 => ?_)
  · have c15_ : a0.toInt ≠ (-1) := en_i_ne_t c15
    refine At.enter rfl ?_
    refine r_iload_n rfl ?_
    refine r_bipush 97 rfl ?_
    refine r_ics 13 rfl (fun c16 => ?_) (fun c16 => ?_)
    · have c16_ : a0.toInt < 97 := en_i_lt_t c16
      refine At.enter rfl ?_
      refine r_iload_n rfl ?_
      refine r_bipush 48 rfl ?_
      refine r_ics 29 rfl (fun c17 => ?_) (fun c17 => ?_)
      · have c17_ : a0.toInt < 48 := en_i_lt_t c17
        refine At.enter rfl ?_
        refine r_iconst 2 rfl ?_
        refine Ar.fall 40 rfl ?_
        refine At.enter rfl ?_
        refine r_ireti ?_
        have zv18 : (2 : Int32).toInt = 2 := rfl
        exact ⟨_, rfl, hI0, hF0, _, rfl, by decide, (by omega)⟩
      · have c17_ : a0.toInt ≥ 48 := en_i_lt_f c17
        refine At.enter rfl ?_
        refine r_iload_n rfl ?_
        refine r_bipush 57 rfl ?_
        refine r_ics 35 rfl (fun c19 => ?_) (fun c19 => ?_)
        · have c19_ : a0.toInt > 57 := en_i_gt_t c19
          refine At.enter rfl ?_
          refine r_iconst 2 rfl ?_
          refine Ar.fall 40 rfl ?_
          refine At.enter rfl ?_
          refine r_ireti ?_
          have zv20 : (2 : Int32).toInt = 2 := rfl
          exact ⟨_, rfl, hI0, hF0, _, rfl, by decide, (by omega)⟩
        · have c19_ : a0.toInt ≤ 57 := en_i_gt_f c19
          refine At.enter rfl ?_
          refine r_iconst 1 rfl ?_
          refine r_goto ?_
          refine At.enter rfl ?_
          refine r_ireti ?_
          have zv21 : (1 : Int32).toInt = 1 := rfl
          exact ⟨_, rfl, hI0, hF0, _, rfl, by decide, (by omega)⟩
    · have c16_ : a0.toInt ≥ 97 := en_i_lt_f c16
      refine At.enter rfl ?_
      refine r_iload_n rfl ?_
      refine r_bipush 122 rfl ?_
      refine r_ics 19 rfl (fun c22 => ?_) (fun c22 => ?_)
      · have c22_ : a0.toInt > 122 := en_i_gt_t c22
        refine At.enter rfl ?_
        refine r_iload_n rfl ?_
        refine r_bipush 48 rfl ?_
        refine r_ics 29 rfl (fun c23 => ?_) (fun c23 => ?_)
        · have c23_ : a0.toInt < 48 := en_i_lt_t c23
          exfalso; omega
        · have c23_ : a0.toInt ≥ 48 := en_i_lt_f c23
          refine At.enter rfl ?_
          refine r_iload_n rfl ?_
          refine r_bipush 57 rfl ?_
          refine r_ics 35 rfl (fun c24 => ?_) (fun c24 => ?_)
          · have c24_ : a0.toInt > 57 := en_i_gt_t c24
            refine At.enter rfl ?_
            refine r_iconst 2 rfl ?_
            refine Ar.fall 40 rfl ?_
            refine At.enter rfl ?_
            refine r_ireti ?_
            have zv25 : (2 : Int32).toInt = 2 := rfl
            exact ⟨_, rfl, hI0, hF0, _, rfl, by decide, (by omega)⟩
          · have c24_ : a0.toInt ≤ 57 := en_i_gt_f c24
            exfalso; omega
      · have c22_ : a0.toInt ≤ 122 := en_i_gt_f c22
        refine At.enter rfl ?_
        refine r_iconst 0 rfl ?_
        refine r_goto ?_
        refine At.enter rfl ?_
        refine r_ireti ?_
        have zv26 : (0 : Int32).toInt = 0 := rfl
        exact ⟨_, rfl, hI0, hF0, _, rfl, by decide, (by omega)⟩
  · have c15_ : a0.toInt = (-1) := en_i_ne_f c15
    refine At.enter rfl ?_
    refine r_iconst 3 rfl ?_
    refine r_ireti ?_
    have zv27 : (3 : Int32).toInt = 3 := rfl
    exact ⟨_, rfl, hI0, hF0, _, rfl, by decide, (by omega)⟩

def F_X5_isSingle_176 : List (Nat × Nat) := []
def A_X5_isSingle_176 : List Nat := []
set_option maxRecDepth 100000 in
set_option maxHeartbeats 4000000 in
theorem T_X5_isSingle_176 (d : Nat) {N : Nat} {g0 : List en_E} (hI0 : HI g0) (a1 : Int32) : Ev (d + 2) 75 [.ref 176, .int a1] (g0, N) (fun w h' => ∃ g', h' = (g', N) ∧ HI g' ∧ Fr F_X5_isSingle_176 A_X5_isSingle_176 g0 g' ∧ ∃ r : Int32, w = some (.int r) ∧ (0 ≤ r.toInt ∧ r.toInt ≤ 1)) := by
  have hF0 : Fr F_X5_isSingle_176 A_X5_isSingle_176 g0 g0 := Fr.rf
  refine Ev.mk rfl rfl ⟨Nat.le_of_ble_eq_true rfl, Or.inr (q_rc hI0.1 kx_176 rfl)⟩ ?_
  show At _ none _ _ (0, [(0, .ref 176), (1, .int a1)], [], (_, _)) _
  refine At.enter rfl ?_
  refine r_aload_n rfl ?_
  obtain ⟨v25, hv25⟩ : ∃ v, gI g0 176 3 = v := ⟨_, rfl⟩
  refine q_getI (Sh.int hI0.1 kx_176 rfl) v25 hv25 ?_
  refine r_iconst 2 rfl ?_
  refine r_ics 8 rfl (fun c26 => ?_) (fun c26 => ?_)
  · have c26_ : v25.toInt ≠ 2 := en_i_ne_t c26
    refine At.enter rfl ?_
    refine r_iconst 0 rfl ?_
    refine Ar.fall 28 rfl ?_
    refine At.enter rfl ?_
    refine r_iretz (by decide) ?_
    exact ⟨_, rfl, hI0, hF0, _, rfl, by decide⟩
  · have c26_ : v25.toInt = 2 := en_i_ne_f c26
    refine At.enter rfl ?_
    refine r_aload_n rfl ?_
    refine q_getR (Sh.ref hI0.1 kx_176 rfl) ?_
    refine r_aload_n rfl ?_
    obtain ⟨v27, hv27⟩ : ∃ v, gI g0 176 4 = v := ⟨_, rfl⟩
    have rv27 := RgF.at hI0.2.1 (p := 176) (b := 4) rfl
    rw [hv27] at rv27
    dsimp only at rv27
    refine q_getI (Sh.int hI0.1 kx_176 rfl) v27 hv27 ?_
    refine r_callV 19 rfl [.ref 174, .int v27] [] (Nat.le_of_ble_eq_true rfl) rfl (T_X8_at_174 _ hI0 v27) ?_
    rintro _ _ ⟨g28, rfl, hI29, hF30, v31, rfl, hr32⟩
    refine At.sti ?_
    have hF33 := Fr.tr hF0 hF30 rfl rfl
    obtain ⟨v34, hv34⟩ : ∃ v, gI g0 174 1 = v := ⟨_, rfl⟩
    have rv34 := RgF.at hI0.2.1 (p := 174) (b := 1) rfl
    rw [hv34] at rv34
    dsimp only at rv34
    have tv34 := congrArg Int32.toInt hv34
    have x35 := HI.eqI hI0 (p := 174) (b := 1) (hv34)
    refine At.enter rfl ?_
    refine r_iload_n rfl ?_
    refine r_ics 23 rfl (fun c36 => ?_) (fun c36 => ?_)
    · have c36_ : v31.toInt ≠ a1.toInt := en_i_ne_t c36
      refine At.enter rfl ?_
      refine r_iconst 0 rfl ?_
      refine Ar.fall 28 rfl ?_
      refine At.enter rfl ?_
      refine r_iretz (by decide) ?_
      exact ⟨_, rfl, hI29, hF33, _, rfl, by decide⟩
    · have c36_ : v31.toInt = a1.toInt := en_i_ne_f c36
      refine At.enter rfl ?_
      refine r_iconst 1 rfl ?_
      refine r_goto ?_
      refine At.enter rfl ?_
      refine r_iretz (by decide) ?_
      exact ⟨_, rfl, hI29, hF33, _, rfl, by decide⟩

def F_X5_step_176 : List (Nat × Nat) := [(176, 3), (176, 4), (176, 5)]
def A_X5_step_176 : List Nat := []
set_option maxRecDepth 100000 in
set_option maxHeartbeats 4000000 in
theorem T_X5_step_176 (d : Nat) {N : Nat} {g0 : List en_E} (hI0 : HI g0) : Ev (d + 2) 73 [.ref 176] (g0, N) (fun w h' => ∃ g', h' = (g', N) ∧ HI g' ∧ Fr F_X5_step_176 A_X5_step_176 g0 g' ∧ w = none) := by
  have hF0 : Fr F_X5_step_176 A_X5_step_176 g0 g0 := Fr.rf
  refine Ev.mk rfl rfl ⟨Nat.le_of_ble_eq_true rfl, Or.inr (q_rc hI0.1 kx_176 rfl)⟩ ?_
  show At _ none _ _ (0, [(0, .ref 176)], [], (_, _)) _
  refine At.enter rfl ?_
  refine r_aload_n rfl ?_
  obtain ⟨v1385, hv1385⟩ : ∃ v, gI g0 176 5 = v := ⟨_, rfl⟩
  have rv1385 := RgF.at hI0.2.1 (p := 176) (b := 5) rfl
  rw [hv1385] at rv1385
  dsimp only at rv1385
  refine q_getI (Sh.int hI0.1 kx_176 rfl) v1385 hv1385 ?_
  refine r_istore_n ([(1, .int v1385), (0, .ref 176)]) rfl ?_
  refine Ar.fall 5 rfl ?_
  refine w_loopI (fun n_ l_ g_ => ∃ x1718 : Int32, n_ = 400 - x1718.toInt ∧ HI g_ ∧ Fr F_X5_step_176 A_X5_step_176 g0 g_ ∧ en_get 0 l_ = some (.ref 176) ∧ en_get 1 l_ = some (.int x1718) ∧ (0 ≤ x1718.toInt ∧ x1718.toInt ≤ 400)) ?_ (400 - v1385.toInt) ⟨v1385, by first | rfl | omega, hI0, hF0, rfl, rfl, by omega⟩
  rintro n1723 l1722 g1719 ⟨x1718, hm1728, hI1720, hF1721, e1725, e1726, r1727⟩ ih1724
  refine At.enter rfl ?_
  refine r_iload_n e1726 ?_
  refine r_aload_n e1725 ?_
  refine q_getR (Sh.ref hI1720.1 kx_176 rfl) ?_
  obtain ⟨v1729, hv1729⟩ : ∃ v, gI g0 174 1 = v := ⟨_, rfl⟩
  have rv1729 := RgF.at hI0.2.1 (p := 174) (b := 1) rfl
  rw [hv1729] at rv1729
  dsimp only at rv1729
  refine q_getI (Sh.int hI1720.1 kx_174 rfl) v1729 ((hF1721.1 174 1 (by decide)).trans hv1729) ?_
  have bv1731 := q_bnd x1718
  have bv1732 := q_bnd v1729
  refine r_ics 16 rfl (fun c1730 => ?_) (fun c1730 => ?_)
  · have c1730_ : x1718.toInt ≥ v1729.toInt := en_i_ge_t c1730
    refine At.enter rfl ?_
    refine r_aload_n e1725 ?_
    refine r_iload_n e1726 ?_
    refine q_putI (Sh.int hI1720.1 kx_176 rfl) rfl ?_
    have hI1733 := HI.wI1 hI1720 kx_176 rfl (p := 176) (b := 4) (v := x1718) rfl (by dsimp only; omega)
    have hF1734 := Fr.wI (p := 176) (b := 4) (v := x1718) hF1721 rfl
    refine r_aload_n e1725 ?_
    refine r_aload_n e1725 ?_
    refine q_getR (Sh.ref hI1733.1 kx_176 rfl) ?_
    refine r_iload_n e1726 ?_
    refine r_callV 49 rfl [.ref 174, .int x1718] [.ref 176] (Nat.le_of_ble_eq_true rfl) rfl (T_X8_at_174 _ hI1733 x1718) ?_
    rintro _ _ ⟨g1735, rfl, hI1736, hF1737, v1738, rfl, hr1739⟩
    refine At.sti ?_
    have hF1740 := Fr.tr hF1734 hF1737 rfl rfl
    have x1741 := HI.eqI hI1733 (p := 174) (b := 1) ((((gI_sI_ne (by decide)).trans (hF1721.1 174 1 (by decide))).trans hv1729))
    refine At.enter rfl ?_
    refine r_callS 52 rfl [.int v1738] [.ref 176] (Nat.le_of_ble_eq_true rfl) rfl (T_X5_kindOf _ hI1736 v1738) ?_
    rintro _ _ ⟨g1742, rfl, hI1743, hF1744, v1745, rfl, hr1746⟩
    refine At.sti ?_
    have hF1747 := Fr.tr hF1740 hF1744 rfl rfl
    refine At.enter rfl ?_
    refine q_putI (Sh.int hI1743.1 kx_176 rfl) rfl ?_
    have hI1748 := HI.wI0 hI1743 kx_176 rfl (p := 176) (b := 3) (v := v1745) rfl
    have hF1749 := Fr.wI (p := 176) (b := 3) (v := v1745) hF1747 rfl
    refine r_aload_n e1725 ?_
    refine q_getI (Sh.int hI1748.1 kx_176 rfl) v1745 (gI_sI_eq hI1743.1 kx_176 rfl _) ?_
    refine r_iconst 3 rfl ?_
    refine r_ics 63 rfl (fun c1750 => ?_) (fun c1750 => ?_)
    · have c1750_ : v1745.toInt = 3 := en_i_eq_t c1750
      refine w_loopI (fun n_ l_ g_ => ∃ x1778 : Int32, n_ = 400 - x1778.toInt ∧ HI g_ ∧ Fr F_X5_step_176 A_X5_step_176 g0 g_ ∧ en_get 0 l_ = some (.ref 176) ∧ en_get 1 l_ = some (.int x1778) ∧ (0 ≤ x1778.toInt ∧ x1778.toInt ≤ 400)) ?_ (400 - x1718.toInt) ⟨x1718, by first | rfl | omega, hI1748, hF1749, e1725, e1726, by omega⟩
      rintro n1783 l1782 g1779 ⟨x1778, hm1788, hI1780, hF1781, e1785, e1786, r1787⟩ ih1784
      refine At.enter rfl ?_
      refine r_iload_n e1786 ?_
      refine r_aload_n e1785 ?_
      refine q_getR (Sh.ref hI1780.1 kx_176 rfl) ?_
      refine q_getI (Sh.int hI1780.1 kx_174 rfl) v1729 ((hF1781.1 174 1 (by decide)).trans hv1729) ?_
      have bv1790 := q_bnd x1778
      refine r_ics 77 rfl (fun c1789 => ?_) (fun c1789 => ?_)
      · have c1789_ : x1778.toInt ≥ v1729.toInt := en_i_ge_t c1789
        refine At.enter rfl ?_
        refine r_aload_n e1785 ?_
        refine r_iload_n e1786 ?_
        refine q_putI (Sh.int hI1780.1 kx_176 rfl) rfl ?_
        have hI1791 := HI.wI1 hI1780 kx_176 rfl (p := 176) (b := 5) (v := x1778) rfl (by dsimp only; omega)
        have hF1792 := Fr.wI (p := 176) (b := 5) (v := x1778) hF1781 rfl
        refine r_vret ?_
        exact ⟨_, rfl, hI1791, hF1792, rfl⟩
      · have c1789_ : x1778.toInt < v1729.toInt := en_i_ge_f c1789
        refine At.enter rfl ?_
        refine r_aload_n e1785 ?_
        obtain ⟨v1793, hv1793⟩ : ∃ v, gI g1779 176 3 = v := ⟨_, rfl⟩
        refine q_getI (Sh.int hI1780.1 kx_176 rfl) v1793 hv1793 ?_
        refine r_iconst 2 rfl ?_
        refine r_ics 85 rfl (fun c1794 => ?_) (fun c1794 => ?_)
        · have c1794_ : v1793.toInt = 2 := en_i_eq_t c1794
          refine At.enter rfl ?_
          refine r_aload_n e1785 ?_
          refine r_iload_n e1786 ?_
          refine q_putI (Sh.int hI1780.1 kx_176 rfl) rfl ?_
          have hI1795 := HI.wI1 hI1780 kx_176 rfl (p := 176) (b := 5) (v := x1778) rfl (by dsimp only; omega)
          have hF1796 := Fr.wI (p := 176) (b := 5) (v := x1778) hF1781 rfl
          refine r_vret ?_
          exact ⟨_, rfl, hI1795, hF1796, rfl⟩
        · have c1794_ : v1793.toInt ≠ 2 := en_i_eq_f c1794
          refine At.enter rfl ?_
          refine r_aload_n e1785 ?_
          refine q_getR (Sh.ref hI1780.1 kx_176 rfl) ?_
          refine r_iload_n e1786 ?_
          refine r_callV 93 rfl [.ref 174, .int x1778] [] (Nat.le_of_ble_eq_true rfl) rfl (T_X8_at_174 _ hI1780 x1778) ?_
          rintro _ _ ⟨g1797, rfl, hI1798, hF1799, v1800, rfl, hr1801⟩
          refine At.sti ?_
          have hF1802 := Fr.tr hF1781 hF1799 rfl rfl
          have x1803 := HI.eqI hI1780 (p := 174) (b := 1) (((hF1781.1 174 1 (by decide)).trans hv1729))
          refine At.enter rfl ?_
          refine r_callS 96 rfl [.int v1800] [] (Nat.le_of_ble_eq_true rfl) rfl (T_X5_kindOf _ hI1798 v1800) ?_
          rintro _ _ ⟨g1804, rfl, hI1805, hF1806, v1807, rfl, hr1808⟩
          refine At.sti ?_
          have hF1809 := Fr.tr hF1802 hF1806 rfl rfl
          refine At.enter rfl ?_
          refine r_aload_n e1785 ?_
          refine q_getI (Sh.int hI1805.1 kx_176 rfl) v1793 (((hF1806.1 176 3 (by decide)).trans (hF1799.1 176 3 (by decide))).trans hv1793) ?_
          refine r_ics 103 rfl (fun c1810 => ?_) (fun c1810 => ?_)
          · have c1810_ : v1807.toInt ≠ v1793.toInt := en_i_ne_t c1810
            refine At.enter rfl ?_
            refine r_aload_n e1785 ?_
            refine r_iload_n e1786 ?_
            refine q_putI (Sh.int hI1805.1 kx_176 rfl) rfl ?_
            have hI1811 := HI.wI1 hI1805 kx_176 rfl (p := 176) (b := 5) (v := x1778) rfl (by dsimp only; omega)
            have hF1812 := Fr.wI (p := 176) (b := 5) (v := x1778) hF1809 rfl
            refine r_vret ?_
            exact ⟨_, rfl, hI1811, hF1812, rfl⟩
          · have c1810_ : v1807.toInt = v1793.toInt := en_i_ne_f c1810
            refine At.enter rfl ?_
            refine q_iinc e1786 (x1778.toInt + 1) rfl (by omega) (fun v1813 hv1813 => ?_)
            refine r_goto ?_
            exact ih1784 (400 - v1813.toInt) _ _ ⟨v1813, by first | rfl | omega, hI1805, hF1809, (w_p1 (by decide) (Or.inr rfl) e1785), (w_e1 _ _ _), by omega⟩ ⟨by omega, by omega⟩
    · have c1750_ : v1745.toInt ≠ 3 := en_i_eq_f c1750
      refine At.enter rfl ?_
      refine q_iinc e1726 (x1718.toInt + 1) rfl (by omega) (fun v1814 hv1814 => ?_)
      refine Ar.fall 66 rfl ?_
      refine w_loopI (fun n_ l_ g_ => ∃ x1842 : Int32, n_ = 401 - x1842.toInt ∧ HI g_ ∧ Fr F_X5_step_176 A_X5_step_176 g0 g_ ∧ en_get 0 l_ = some (.ref 176) ∧ en_get 1 l_ = some (.int x1842) ∧ (1 ≤ x1842.toInt ∧ x1842.toInt ≤ 401)) ?_ (401 - v1814.toInt) ⟨v1814, by first | rfl | omega, hI1748, hF1749, (w_p1 (by decide) (Or.inr rfl) e1725), (w_e1 _ _ _), by omega⟩
      rintro n1847 l1846 g1843 ⟨x1842, hm1852, hI1844, hF1845, e1849, e1850, r1851⟩ ih1848
      refine At.enter rfl ?_
      refine r_iload_n e1850 ?_
      refine r_aload_n e1849 ?_
      refine q_getR (Sh.ref hI1844.1 kx_176 rfl) ?_
      refine q_getI (Sh.int hI1844.1 kx_174 rfl) v1729 ((hF1845.1 174 1 (by decide)).trans hv1729) ?_
      have bv1854 := q_bnd x1842
      refine r_ics 77 rfl (fun c1853 => ?_) (fun c1853 => ?_)
      · have c1853_ : x1842.toInt ≥ v1729.toInt := en_i_ge_t c1853
        refine At.enter rfl ?_
        refine r_aload_n e1849 ?_
        refine r_iload_n e1850 ?_
        refine q_putI (Sh.int hI1844.1 kx_176 rfl) rfl ?_
        have hI1855 := HI.wI1 hI1844 kx_176 rfl (p := 176) (b := 5) (v := x1842) rfl (by dsimp only; omega)
        have hF1856 := Fr.wI (p := 176) (b := 5) (v := x1842) hF1845 rfl
        refine r_vret ?_
        exact ⟨_, rfl, hI1855, hF1856, rfl⟩
      · have c1853_ : x1842.toInt < v1729.toInt := en_i_ge_f c1853
        refine At.enter rfl ?_
        refine r_aload_n e1849 ?_
        obtain ⟨v1857, hv1857⟩ : ∃ v, gI g1843 176 3 = v := ⟨_, rfl⟩
        refine q_getI (Sh.int hI1844.1 kx_176 rfl) v1857 hv1857 ?_
        refine r_iconst 2 rfl ?_
        refine r_ics 85 rfl (fun c1858 => ?_) (fun c1858 => ?_)
        · have c1858_ : v1857.toInt = 2 := en_i_eq_t c1858
          refine At.enter rfl ?_
          refine r_aload_n e1849 ?_
          refine r_iload_n e1850 ?_
          refine q_putI (Sh.int hI1844.1 kx_176 rfl) rfl ?_
          have hI1859 := HI.wI1 hI1844 kx_176 rfl (p := 176) (b := 5) (v := x1842) rfl (by dsimp only; omega)
          have hF1860 := Fr.wI (p := 176) (b := 5) (v := x1842) hF1845 rfl
          refine r_vret ?_
          exact ⟨_, rfl, hI1859, hF1860, rfl⟩
        · have c1858_ : v1857.toInt ≠ 2 := en_i_eq_f c1858
          refine At.enter rfl ?_
          refine r_aload_n e1849 ?_
          refine q_getR (Sh.ref hI1844.1 kx_176 rfl) ?_
          refine r_iload_n e1850 ?_
          refine r_callV 93 rfl [.ref 174, .int x1842] [] (Nat.le_of_ble_eq_true rfl) rfl (T_X8_at_174 _ hI1844 x1842) ?_
          rintro _ _ ⟨g1861, rfl, hI1862, hF1863, v1864, rfl, hr1865⟩
          refine At.sti ?_
          have hF1866 := Fr.tr hF1845 hF1863 rfl rfl
          have x1867 := HI.eqI hI1844 (p := 174) (b := 1) (((hF1845.1 174 1 (by decide)).trans hv1729))
          refine At.enter rfl ?_
          refine r_callS 96 rfl [.int v1864] [] (Nat.le_of_ble_eq_true rfl) rfl (T_X5_kindOf _ hI1862 v1864) ?_
          rintro _ _ ⟨g1868, rfl, hI1869, hF1870, v1871, rfl, hr1872⟩
          refine At.sti ?_
          have hF1873 := Fr.tr hF1866 hF1870 rfl rfl
          refine At.enter rfl ?_
          refine r_aload_n e1849 ?_
          refine q_getI (Sh.int hI1869.1 kx_176 rfl) v1857 (((hF1870.1 176 3 (by decide)).trans (hF1863.1 176 3 (by decide))).trans hv1857) ?_
          refine r_ics 103 rfl (fun c1874 => ?_) (fun c1874 => ?_)
          · have c1874_ : v1871.toInt ≠ v1857.toInt := en_i_ne_t c1874
            refine At.enter rfl ?_
            refine r_aload_n e1849 ?_
            refine r_iload_n e1850 ?_
            refine q_putI (Sh.int hI1869.1 kx_176 rfl) rfl ?_
            have hI1875 := HI.wI1 hI1869 kx_176 rfl (p := 176) (b := 5) (v := x1842) rfl (by dsimp only; omega)
            have hF1876 := Fr.wI (p := 176) (b := 5) (v := x1842) hF1873 rfl
            refine r_vret ?_
            exact ⟨_, rfl, hI1875, hF1876, rfl⟩
          · have c1874_ : v1871.toInt = v1857.toInt := en_i_ne_f c1874
            refine At.enter rfl ?_
            refine q_iinc e1850 (x1842.toInt + 1) rfl (by omega) (fun v1877 hv1877 => ?_)
            refine r_goto ?_
            exact ih1848 (401 - v1877.toInt) _ _ ⟨v1877, by first | rfl | omega, hI1869, hF1873, (w_p1 (by decide) (Or.inr rfl) e1849), (w_e1 _ _ _), by omega⟩ ⟨by omega, by omega⟩
  · have c1730_ : x1718.toInt < v1729.toInt := en_i_ge_f c1730
    refine At.enter rfl ?_
    refine r_aload_n e1725 ?_
    refine q_getR (Sh.ref hI1720.1 kx_176 rfl) ?_
    refine r_iload_n e1726 ?_
    refine r_callV 24 rfl [.ref 174, .int x1718] [] (Nat.le_of_ble_eq_true rfl) rfl (T_X8_at_174 _ hI1720 x1718) ?_
    rintro _ _ ⟨g1878, rfl, hI1879, hF1880, v1881, rfl, hr1882⟩
    refine At.sti ?_
    have hF1883 := Fr.tr hF1721 hF1880 rfl rfl
    have x1884 := HI.eqI hI1720 (p := 174) (b := 1) (((hF1721.1 174 1 (by decide)).trans hv1729))
    refine At.enter rfl ?_
    refine r_bipush 32 rfl ?_
    refine r_ics 29 rfl (fun c1885 => ?_) (fun c1885 => ?_)
    · have c1885_ : v1881.toInt ≠ 32 := en_i_ne_t c1885
      refine At.enter rfl ?_
      refine r_aload_n e1725 ?_
      refine r_iload_n e1726 ?_
      refine q_putI (Sh.int hI1879.1 kx_176 rfl) rfl ?_
      have hI1886 := HI.wI1 hI1879 kx_176 rfl (p := 176) (b := 4) (v := x1718) rfl (by dsimp only; omega)
      have hF1887 := Fr.wI (p := 176) (b := 4) (v := x1718) hF1883 rfl
      refine r_aload_n e1725 ?_
      refine r_aload_n e1725 ?_
      refine q_getR (Sh.ref hI1886.1 kx_176 rfl) ?_
      refine r_iload_n e1726 ?_
      refine r_callV 49 rfl [.ref 174, .int x1718] [.ref 176] (Nat.le_of_ble_eq_true rfl) rfl (T_X8_at_174 _ hI1886 x1718) ?_
      rintro _ _ ⟨g1888, rfl, hI1889, hF1890, v1891, rfl, hr1892⟩
      refine At.sti ?_
      have hF1893 := Fr.tr hF1887 hF1890 rfl rfl
      have x1894 := HI.eqI hI1886 (p := 174) (b := 1) ((((gI_sI_ne (by decide)).trans ((hF1880.1 174 1 (by decide)).trans (hF1721.1 174 1 (by decide)))).trans hv1729))
      refine At.enter rfl ?_
      refine r_callS 52 rfl [.int v1891] [.ref 176] (Nat.le_of_ble_eq_true rfl) rfl (T_X5_kindOf _ hI1889 v1891) ?_
      rintro _ _ ⟨g1895, rfl, hI1896, hF1897, v1898, rfl, hr1899⟩
      refine At.sti ?_
      have hF1900 := Fr.tr hF1893 hF1897 rfl rfl
      refine At.enter rfl ?_
      refine q_putI (Sh.int hI1896.1 kx_176 rfl) rfl ?_
      have hI1901 := HI.wI0 hI1896 kx_176 rfl (p := 176) (b := 3) (v := v1898) rfl
      have hF1902 := Fr.wI (p := 176) (b := 3) (v := v1898) hF1900 rfl
      refine r_aload_n e1725 ?_
      refine q_getI (Sh.int hI1901.1 kx_176 rfl) v1898 (gI_sI_eq hI1896.1 kx_176 rfl _) ?_
      refine r_iconst 3 rfl ?_
      refine r_ics 63 rfl (fun c1903 => ?_) (fun c1903 => ?_)
      · have c1903_ : v1898.toInt = 3 := en_i_eq_t c1903
        refine w_loopI (fun n_ l_ g_ => ∃ x1958 : Int32, n_ = 400 - x1958.toInt ∧ HI g_ ∧ Fr F_X5_step_176 A_X5_step_176 g0 g_ ∧ en_get 0 l_ = some (.ref 176) ∧ en_get 1 l_ = some (.int x1958) ∧ (0 ≤ x1958.toInt ∧ x1958.toInt ≤ 400)) ?_ (400 - x1718.toInt) ⟨x1718, by first | rfl | omega, hI1901, hF1902, e1725, e1726, by omega⟩
        rintro n1963 l1962 g1959 ⟨x1958, hm1968, hI1960, hF1961, e1965, e1966, r1967⟩ ih1964
        refine At.enter rfl ?_
        refine r_iload_n e1966 ?_
        refine r_aload_n e1965 ?_
        refine q_getR (Sh.ref hI1960.1 kx_176 rfl) ?_
        refine q_getI (Sh.int hI1960.1 kx_174 rfl) v1729 ((hF1961.1 174 1 (by decide)).trans hv1729) ?_
        have bv1970 := q_bnd x1958
        refine r_ics 77 rfl (fun c1969 => ?_) (fun c1969 => ?_)
        · have c1969_ : x1958.toInt ≥ v1729.toInt := en_i_ge_t c1969
          refine At.enter rfl ?_
          refine r_aload_n e1965 ?_
          refine r_iload_n e1966 ?_
          refine q_putI (Sh.int hI1960.1 kx_176 rfl) rfl ?_
          have hI1971 := HI.wI1 hI1960 kx_176 rfl (p := 176) (b := 5) (v := x1958) rfl (by dsimp only; omega)
          have hF1972 := Fr.wI (p := 176) (b := 5) (v := x1958) hF1961 rfl
          refine r_vret ?_
          exact ⟨_, rfl, hI1971, hF1972, rfl⟩
        · have c1969_ : x1958.toInt < v1729.toInt := en_i_ge_f c1969
          refine At.enter rfl ?_
          refine r_aload_n e1965 ?_
          obtain ⟨v1973, hv1973⟩ : ∃ v, gI g1959 176 3 = v := ⟨_, rfl⟩
          refine q_getI (Sh.int hI1960.1 kx_176 rfl) v1973 hv1973 ?_
          refine r_iconst 2 rfl ?_
          refine r_ics 85 rfl (fun c1974 => ?_) (fun c1974 => ?_)
          · have c1974_ : v1973.toInt = 2 := en_i_eq_t c1974
            refine At.enter rfl ?_
            refine r_aload_n e1965 ?_
            refine r_iload_n e1966 ?_
            refine q_putI (Sh.int hI1960.1 kx_176 rfl) rfl ?_
            have hI1975 := HI.wI1 hI1960 kx_176 rfl (p := 176) (b := 5) (v := x1958) rfl (by dsimp only; omega)
            have hF1976 := Fr.wI (p := 176) (b := 5) (v := x1958) hF1961 rfl
            refine r_vret ?_
            exact ⟨_, rfl, hI1975, hF1976, rfl⟩
          · have c1974_ : v1973.toInt ≠ 2 := en_i_eq_f c1974
            refine At.enter rfl ?_
            refine r_aload_n e1965 ?_
            refine q_getR (Sh.ref hI1960.1 kx_176 rfl) ?_
            refine r_iload_n e1966 ?_
            refine r_callV 93 rfl [.ref 174, .int x1958] [] (Nat.le_of_ble_eq_true rfl) rfl (T_X8_at_174 _ hI1960 x1958) ?_
            rintro _ _ ⟨g1977, rfl, hI1978, hF1979, v1980, rfl, hr1981⟩
            refine At.sti ?_
            have hF1982 := Fr.tr hF1961 hF1979 rfl rfl
            have x1983 := HI.eqI hI1960 (p := 174) (b := 1) (((hF1961.1 174 1 (by decide)).trans hv1729))
            refine At.enter rfl ?_
            refine r_callS 96 rfl [.int v1980] [] (Nat.le_of_ble_eq_true rfl) rfl (T_X5_kindOf _ hI1978 v1980) ?_
            rintro _ _ ⟨g1984, rfl, hI1985, hF1986, v1987, rfl, hr1988⟩
            refine At.sti ?_
            have hF1989 := Fr.tr hF1982 hF1986 rfl rfl
            refine At.enter rfl ?_
            refine r_aload_n e1965 ?_
            refine q_getI (Sh.int hI1985.1 kx_176 rfl) v1973 (((hF1986.1 176 3 (by decide)).trans (hF1979.1 176 3 (by decide))).trans hv1973) ?_
            refine r_ics 103 rfl (fun c1990 => ?_) (fun c1990 => ?_)
            · have c1990_ : v1987.toInt ≠ v1973.toInt := en_i_ne_t c1990
              refine At.enter rfl ?_
              refine r_aload_n e1965 ?_
              refine r_iload_n e1966 ?_
              refine q_putI (Sh.int hI1985.1 kx_176 rfl) rfl ?_
              have hI1991 := HI.wI1 hI1985 kx_176 rfl (p := 176) (b := 5) (v := x1958) rfl (by dsimp only; omega)
              have hF1992 := Fr.wI (p := 176) (b := 5) (v := x1958) hF1989 rfl
              refine r_vret ?_
              exact ⟨_, rfl, hI1991, hF1992, rfl⟩
            · have c1990_ : v1987.toInt = v1973.toInt := en_i_ne_f c1990
              refine At.enter rfl ?_
              refine q_iinc e1966 (x1958.toInt + 1) rfl (by omega) (fun v1993 hv1993 => ?_)
              refine r_goto ?_
              exact ih1964 (400 - v1993.toInt) _ _ ⟨v1993, by first | rfl | omega, hI1985, hF1989, (w_p1 (by decide) (Or.inr rfl) e1965), (w_e1 _ _ _), by omega⟩ ⟨by omega, by omega⟩
      · have c1903_ : v1898.toInt ≠ 3 := en_i_eq_f c1903
        refine At.enter rfl ?_
        refine q_iinc e1726 (x1718.toInt + 1) rfl (by omega) (fun v1994 hv1994 => ?_)
        refine Ar.fall 66 rfl ?_
        refine w_loopI (fun n_ l_ g_ => ∃ x2022 : Int32, n_ = 400 - x2022.toInt ∧ HI g_ ∧ Fr F_X5_step_176 A_X5_step_176 g0 g_ ∧ en_get 0 l_ = some (.ref 176) ∧ en_get 1 l_ = some (.int x2022) ∧ (1 ≤ x2022.toInt ∧ x2022.toInt ≤ 400)) ?_ (400 - v1994.toInt) ⟨v1994, by first | rfl | omega, hI1901, hF1902, (w_p1 (by decide) (Or.inr rfl) e1725), (w_e1 _ _ _), by omega⟩
        rintro n2027 l2026 g2023 ⟨x2022, hm2032, hI2024, hF2025, e2029, e2030, r2031⟩ ih2028
        refine At.enter rfl ?_
        refine r_iload_n e2030 ?_
        refine r_aload_n e2029 ?_
        refine q_getR (Sh.ref hI2024.1 kx_176 rfl) ?_
        refine q_getI (Sh.int hI2024.1 kx_174 rfl) v1729 ((hF2025.1 174 1 (by decide)).trans hv1729) ?_
        have bv2034 := q_bnd x2022
        refine r_ics 77 rfl (fun c2033 => ?_) (fun c2033 => ?_)
        · have c2033_ : x2022.toInt ≥ v1729.toInt := en_i_ge_t c2033
          refine At.enter rfl ?_
          refine r_aload_n e2029 ?_
          refine r_iload_n e2030 ?_
          refine q_putI (Sh.int hI2024.1 kx_176 rfl) rfl ?_
          have hI2035 := HI.wI1 hI2024 kx_176 rfl (p := 176) (b := 5) (v := x2022) rfl (by dsimp only; omega)
          have hF2036 := Fr.wI (p := 176) (b := 5) (v := x2022) hF2025 rfl
          refine r_vret ?_
          exact ⟨_, rfl, hI2035, hF2036, rfl⟩
        · have c2033_ : x2022.toInt < v1729.toInt := en_i_ge_f c2033
          refine At.enter rfl ?_
          refine r_aload_n e2029 ?_
          obtain ⟨v2037, hv2037⟩ : ∃ v, gI g2023 176 3 = v := ⟨_, rfl⟩
          refine q_getI (Sh.int hI2024.1 kx_176 rfl) v2037 hv2037 ?_
          refine r_iconst 2 rfl ?_
          refine r_ics 85 rfl (fun c2038 => ?_) (fun c2038 => ?_)
          · have c2038_ : v2037.toInt = 2 := en_i_eq_t c2038
            refine At.enter rfl ?_
            refine r_aload_n e2029 ?_
            refine r_iload_n e2030 ?_
            refine q_putI (Sh.int hI2024.1 kx_176 rfl) rfl ?_
            have hI2039 := HI.wI1 hI2024 kx_176 rfl (p := 176) (b := 5) (v := x2022) rfl (by dsimp only; omega)
            have hF2040 := Fr.wI (p := 176) (b := 5) (v := x2022) hF2025 rfl
            refine r_vret ?_
            exact ⟨_, rfl, hI2039, hF2040, rfl⟩
          · have c2038_ : v2037.toInt ≠ 2 := en_i_eq_f c2038
            refine At.enter rfl ?_
            refine r_aload_n e2029 ?_
            refine q_getR (Sh.ref hI2024.1 kx_176 rfl) ?_
            refine r_iload_n e2030 ?_
            refine r_callV 93 rfl [.ref 174, .int x2022] [] (Nat.le_of_ble_eq_true rfl) rfl (T_X8_at_174 _ hI2024 x2022) ?_
            rintro _ _ ⟨g2041, rfl, hI2042, hF2043, v2044, rfl, hr2045⟩
            refine At.sti ?_
            have hF2046 := Fr.tr hF2025 hF2043 rfl rfl
            have x2047 := HI.eqI hI2024 (p := 174) (b := 1) (((hF2025.1 174 1 (by decide)).trans hv1729))
            refine At.enter rfl ?_
            refine r_callS 96 rfl [.int v2044] [] (Nat.le_of_ble_eq_true rfl) rfl (T_X5_kindOf _ hI2042 v2044) ?_
            rintro _ _ ⟨g2048, rfl, hI2049, hF2050, v2051, rfl, hr2052⟩
            refine At.sti ?_
            have hF2053 := Fr.tr hF2046 hF2050 rfl rfl
            refine At.enter rfl ?_
            refine r_aload_n e2029 ?_
            refine q_getI (Sh.int hI2049.1 kx_176 rfl) v2037 (((hF2050.1 176 3 (by decide)).trans (hF2043.1 176 3 (by decide))).trans hv2037) ?_
            refine r_ics 103 rfl (fun c2054 => ?_) (fun c2054 => ?_)
            · have c2054_ : v2051.toInt ≠ v2037.toInt := en_i_ne_t c2054
              refine At.enter rfl ?_
              refine r_aload_n e2029 ?_
              refine r_iload_n e2030 ?_
              refine q_putI (Sh.int hI2049.1 kx_176 rfl) rfl ?_
              have hI2055 := HI.wI1 hI2049 kx_176 rfl (p := 176) (b := 5) (v := x2022) rfl (by dsimp only; omega)
              have hF2056 := Fr.wI (p := 176) (b := 5) (v := x2022) hF2053 rfl
              refine r_vret ?_
              exact ⟨_, rfl, hI2055, hF2056, rfl⟩
            · have c2054_ : v2051.toInt = v2037.toInt := en_i_ne_f c2054
              refine At.enter rfl ?_
              refine q_iinc e2030 (x2022.toInt + 1) rfl (by omega) (fun v2057 hv2057 => ?_)
              refine r_goto ?_
              exact ih2028 (400 - v2057.toInt) _ _ ⟨v2057, by first | rfl | omega, hI2049, hF2053, (w_p1 (by decide) (Or.inr rfl) e2029), (w_e1 _ _ _), by omega⟩ ⟨by omega, by omega⟩
    · have c1885_ : v1881.toInt = 32 := en_i_ne_f c1885
      refine At.enter rfl ?_
      refine q_iinc e1726 (x1718.toInt + 1) rfl (by omega) (fun v2058 hv2058 => ?_)
      refine r_goto ?_
      exact ih1724 (400 - v2058.toInt) _ _ ⟨v2058, by first | rfl | omega, hI1879, hF1883, (w_p1 (by decide) (Or.inr rfl) e1725), (w_e1 _ _ _), by omega⟩ ⟨by omega, by omega⟩

def F_X5_numberHere_176 : List (Nat × Nat) := []
def A_X5_numberHere_176 : List Nat := []
set_option maxRecDepth 100000 in
set_option maxHeartbeats 4000000 in
theorem T_X5_numberHere_176 (d : Nat) {N : Nat} {g0 : List en_E} (hI0 : HI g0) : Ev (d + 2) 77 [.ref 176] (g0, N) (fun w h' => ∃ g', h' = (g', N) ∧ HI g' ∧ Fr F_X5_numberHere_176 A_X5_numberHere_176 g0 g' ∧ ∃ r : Int32, w = some (.int r) ∧ True) := by
  have hF0 : Fr F_X5_numberHere_176 A_X5_numberHere_176 g0 g0 := Fr.rf
  refine Ev.mk rfl rfl ⟨Nat.le_of_ble_eq_true rfl, Or.inr (q_rc hI0.1 kx_176 rfl)⟩ ?_
  show At _ none _ _ (0, [(0, .ref 176)], [], (_, _)) _
  refine At.enter rfl ?_
  refine r_iconst 0 rfl ?_
  refine r_istore_n ([(1, .int 0), (0, .ref 176)]) rfl ?_
  refine r_aload_n rfl ?_
  obtain ⟨v147, hv147⟩ : ∃ v, gI g0 176 4 = v := ⟨_, rfl⟩
  have rv147 := RgF.at hI0.2.1 (p := 176) (b := 4) rfl
  rw [hv147] at rv147
  dsimp only at rv147
  refine q_getI (Sh.int hI0.1 kx_176 rfl) v147 hv147 ?_
  refine r_istore_n ([(2, .int v147), (1, .int 0), (0, .ref 176)]) rfl ?_
  refine Ar.fall 7 rfl ?_
  have z_201 : (0 : Int32).toInt = 0 := rfl
  refine w_loopI (fun n_ l_ g_ => ∃ x189 : Int32, ∃ x190 : Int32, n_ = 400 - x190.toInt ∧ HI g_ ∧ Fr F_X5_numberHere_176 A_X5_numberHere_176 g0 g_ ∧ en_get 0 l_ = some (.ref 176) ∧ en_get 1 l_ = some (.int x189) ∧ en_get 2 l_ = some (.int x190) ∧ (0 ≤ x190.toInt ∧ x190.toInt ≤ 400)) ?_ (400 - v147.toInt) ⟨0, v147, by first | rfl | omega, hI0, hF0, rfl, rfl, rfl, by omega⟩
  rintro n195 l194 g191 ⟨x189, x190, hm202, hI192, hF193, e197, e198, e199, r200⟩ ih196
  refine At.enter rfl ?_
  refine r_iload_n e199 ?_
  refine r_aload_n e197 ?_
  obtain ⟨v203, hv203⟩ : ∃ v, gI g0 176 5 = v := ⟨_, rfl⟩
  have rv203 := RgF.at hI0.2.1 (p := 176) (b := 5) rfl
  rw [hv203] at rv203
  dsimp only at rv203
  refine q_getI (Sh.int hI192.1 kx_176 rfl) v203 ((hF193.1 176 5 (by decide)).trans hv203) ?_
  have bv205 := q_bnd x190
  have bv206 := q_bnd v203
  refine r_ics 15 rfl (fun c204 => ?_) (fun c204 => ?_)
  · have c204_ : x190.toInt ≥ v203.toInt := en_i_ge_t c204
    refine At.enter rfl ?_
    refine r_iload_n e198 ?_
    refine r_ireti ?_
    exact ⟨_, rfl, hI192, hF193, _, rfl, trivial⟩
  · have c204_ : x190.toInt < v203.toInt := en_i_ge_f c204
    refine At.enter rfl ?_
    refine r_iload_n e198 ?_
    refine r_sipush 1000 rfl ?_
    refine r_ics 22 rfl (fun c207 => ?_) (fun c207 => ?_)
    · have c207_ : x189.toInt > 1000 := en_i_gt_t c207
      refine At.enter rfl ?_
      refine r_iload_n e198 ?_
      refine r_ireti ?_
      exact ⟨_, rfl, hI192, hF193, _, rfl, trivial⟩
    · have c207_ : x189.toInt ≤ 1000 := en_i_gt_f c207
      refine At.enter rfl ?_
      refine r_iload_n e198 ?_
      refine r_bipush 10 rfl ?_
      refine q_imulO (fun v208 _ => ?_)
      refine r_aload_n e197 ?_
      refine q_getR (Sh.ref hI192.1 kx_176 rfl) ?_
      refine r_iload_n e199 ?_
      refine r_callV 34 rfl [.ref 174, .int x190] [.int v208] (Nat.le_of_ble_eq_true rfl) rfl (T_X8_at_174 _ hI192 x190) ?_
      rintro _ _ ⟨g209, rfl, hI210, hF211, v212, rfl, hr213⟩
      refine At.sti ?_
      have hF214 := Fr.tr hF193 hF211 rfl rfl
      obtain ⟨v215, hv215⟩ : ∃ v, gI g0 174 1 = v := ⟨_, rfl⟩
      have rv215 := RgF.at hI0.2.1 (p := 174) (b := 1) rfl
      rw [hv215] at rv215
      dsimp only at rv215
      have tv215 := congrArg Int32.toInt hv215
      have x216 := HI.eqI hI192 (p := 174) (b := 1) (((hF193.1 174 1 (by decide)).trans hv215))
      refine At.enter rfl ?_
      refine q_iaddO (fun v217 _ => ?_)
      refine r_bipush 48 rfl ?_
      refine q_isubO (fun v218 _ => ?_)
      refine r_istore_n _ rfl ?_
      refine q_iinc (w_p1 (by decide) (Or.inr rfl) e199) (x190.toInt + 1) rfl (by omega) (fun v219 hv219 => ?_)
      refine r_goto ?_
      have bv220 := q_bnd v218
      exact ih196 (400 - v219.toInt) _ _ ⟨v218, v219, by first | rfl | omega, hI210, hF214, (w_p1 (by decide) (Or.inr rfl) (w_p1 (by decide) (Or.inr rfl) e197)), (w_p1 (by decide) (Or.inr rfl) (w_e1 _ _ _)), (w_e1 _ _ _), by omega⟩ ⟨by omega, by omega⟩

def F_X4_add_177 : List (Nat × Nat) := [(177, 0)]
def A_X4_add_177 : List Nat := [178, 179]
set_option maxRecDepth 100000 in
set_option maxHeartbeats 4000000 in
theorem T_X4_add_177 (d : Nat) {N : Nat} {g0 : List en_E} (hI0 : HI g0) (a1 : Int32) (a2 : Int32) : Ev (d + 1) 60 [.ref 177, .int a1, .int a2] (g0, N) (fun w h' => ∃ g', h' = (g', N) ∧ HI g' ∧ Fr F_X4_add_177 A_X4_add_177 g0 g' ∧ ∃ r : Int32, w = some (.int r) ∧ ((-1) ≤ r.toInt ∧ r.toInt ≤ 399)) := by
  have hF0 : Fr F_X4_add_177 A_X4_add_177 g0 g0 := Fr.rf
  refine Ev.mk rfl rfl ⟨Nat.le_of_ble_eq_true rfl, Or.inr (q_rc hI0.1 kx_177 rfl)⟩ ?_
  show At _ none _ _ (0, [(0, .ref 177), (1, .int a1), (2, .int a2)], [], (_, _)) _
  refine At.enter rfl ?_
  refine r_aload_n rfl ?_
  obtain ⟨v21, hv21⟩ : ∃ v, gI g0 177 0 = v := ⟨_, rfl⟩
  have rv21 := RgF.at hI0.2.1 (p := 177) (b := 0) rfl
  rw [hv21] at rv21
  dsimp only at rv21
  refine q_getI (Sh.int hI0.1 kx_177 rfl) v21 hv21 ?_
  refine r_sipush 400 rfl ?_
  refine r_ics 10 rfl (fun c22 => ?_) (fun c22 => ?_)
  · have c22_ : v21.toInt < 400 := en_i_lt_t c22
    refine At.enter rfl ?_
    refine r_aload_n rfl ?_
    refine q_getR (Sh.ref hI0.1 kx_177 rfl) ?_
    refine r_aload_n rfl ?_
    refine q_getI (Sh.int hI0.1 kx_177 rfl) v21 hv21 ?_
    refine r_iload_n rfl ?_
    refine q_iast (Sh.arr hI0.1 ka_178) (v21.toInt) rfl (by omega) ?_
    have hI23 := HI.wA0 hI0 ka_178 (p := 178) rfl rfl (v21.toInt) (a1)
    have hF24 := Fr.wA (p := 178) (j := v21.toInt) (v := a1) hF0 rfl
    refine r_aload_n rfl ?_
    refine q_getR (Sh.ref hI23.1 kx_177 rfl) ?_
    refine r_aload_n rfl ?_
    refine q_getI (Sh.int hI23.1 kx_177 rfl) v21 ((gI_sW).trans hv21) ?_
    refine r_iload_n rfl ?_
    refine q_iast (Sh.arr hI23.1 ka_179) (v21.toInt) rfl (by omega) ?_
    have hI25 := HI.wA0 hI23 ka_179 (p := 179) rfl rfl (v21.toInt) (a2)
    have hF26 := Fr.wA (p := 179) (j := v21.toInt) (v := a2) hF24 rfl
    refine r_aload_n rfl ?_
    refine r_dup rfl ?_
    refine q_getI (Sh.int hI25.1 kx_177 rfl) v21 (((gI_sW).trans (gI_sW)).trans hv21) ?_
    refine r_iconst 1 rfl ?_
    refine q_iadd (v21.toInt + 1) rfl (by omega) (fun v27 hv27 => ?_)
    refine q_putI (Sh.int hI25.1 kx_177 rfl) rfl ?_
    have hI28 := HI.wI1 hI25 kx_177 rfl (p := 177) (b := 0) (v := v27) rfl (by dsimp only; omega)
    have hF29 := Fr.wI (p := 177) (b := 0) (v := v27) hF26 rfl
    refine r_aload_n rfl ?_
    refine q_getI (Sh.int hI28.1 kx_177 rfl) v27 (gI_sI_eq hI25.1 kx_177 rfl _) ?_
    refine r_iconst 1 rfl ?_
    refine q_isub (v27.toInt - 1) rfl (by omega) (fun v30 hv30 => ?_)
    refine r_ireti ?_
    exact ⟨_, rfl, hI28, hF29, _, rfl, by omega⟩
  · have c22_ : v21.toInt ≥ 400 := en_i_lt_f c22
    refine At.enter rfl ?_
    refine r_iconst (-1) rfl ?_
    refine r_ireti ?_
    exact ⟨_, rfl, hI0, hF0, _, rfl, by decide⟩

def F_X4_aimAtEnd_177 : List (Nat × Nat) := []
def A_X4_aimAtEnd_177 : List Nat := [179]
set_option maxRecDepth 100000 in
set_option maxHeartbeats 4000000 in
theorem T_X4_aimAtEnd_177 (d : Nat) {N : Nat} {g0 : List en_E} (hI0 : HI g0) (a1 : Int32) : Ev (d + 1) 61 [.ref 177, .int a1] (g0, N) (fun w h' => ∃ g', h' = (g', N) ∧ HI g' ∧ Fr F_X4_aimAtEnd_177 A_X4_aimAtEnd_177 g0 g' ∧ w = none) := by
  have hF0 : Fr F_X4_aimAtEnd_177 A_X4_aimAtEnd_177 g0 g0 := Fr.rf
  refine Ev.mk rfl rfl ⟨Nat.le_of_ble_eq_true rfl, Or.inr (q_rc hI0.1 kx_177 rfl)⟩ ?_
  show At _ none _ _ (0, [(0, .ref 177), (1, .int a1)], [], (_, _)) _
  refine At.enter rfl ?_
  refine r_iload_n rfl ?_
  refine r_ifs 4 rfl (fun c15 => ?_) (fun c15 => ?_)
  · have c15_ : a1.toInt < 0 := en_k_lt_t c15
    refine At.enter rfl ?_
    refine r_vret ?_
    exact ⟨_, rfl, hI0, hF0, rfl⟩
  · have c15_ : a1.toInt ≥ 0 := en_k_lt_f c15
    refine At.enter rfl ?_
    refine r_iload_n rfl ?_
    refine r_aload_n rfl ?_
    obtain ⟨v16, hv16⟩ : ∃ v, gI g0 177 0 = v := ⟨_, rfl⟩
    have rv16 := RgF.at hI0.2.1 (p := 177) (b := 0) rfl
    rw [hv16] at rv16
    dsimp only at rv16
    refine q_getI (Sh.int hI0.1 kx_177 rfl) v16 hv16 ?_
    have bv18 := q_bnd a1
    have bv19 := q_bnd v16
    refine r_ics 12 rfl (fun c17 => ?_) (fun c17 => ?_)
    · have c17_ : a1.toInt ≥ v16.toInt := en_i_ge_t c17
      refine At.enter rfl ?_
      refine r_vret ?_
      exact ⟨_, rfl, hI0, hF0, rfl⟩
    · have c17_ : a1.toInt < v16.toInt := en_i_ge_f c17
      refine At.enter rfl ?_
      refine r_aload_n rfl ?_
      refine q_getR (Sh.ref hI0.1 kx_177 rfl) ?_
      refine r_iload_n rfl ?_
      refine r_aload_n rfl ?_
      refine q_getI (Sh.int hI0.1 kx_177 rfl) v16 hv16 ?_
      refine q_iast (Sh.arr hI0.1 ka_179) (a1.toInt) rfl (by omega) ?_
      have hI20 := HI.wA0 hI0 ka_179 (p := 179) rfl rfl (a1.toInt) (v16)
      have hF21 := Fr.wA (p := 179) (j := a1.toInt) (v := v16) hF0 rfl
      refine Ar.fall 22 rfl ?_
      refine At.enter rfl ?_
      refine r_vret ?_
      exact ⟨_, rfl, hI20, hF21, rfl⟩

def F_X5_isWord_176 : List (Nat × Nat) := []
def A_X5_isWord_176 : List Nat := []
set_option maxRecDepth 100000 in
set_option maxHeartbeats 4000000 in
theorem T_X5_isWord_176 (d : Nat) {N : Nat} {g0 : List en_E} (hI0 : HI g0) (f1 : UInt32) (h_f1 : 1 ≤ f1.toNat ∧ f1.toNat ≤ 17) : Ev (d + 2) 76 [.ref 176, .float f1] (g0, N) (fun w h' => ∃ g', h' = (g', N) ∧ HI g' ∧ Fr F_X5_isWord_176 A_X5_isWord_176 g0 g' ∧ ∃ r : Int32, w = some (.int r) ∧ (0 ≤ r.toInt ∧ r.toInt ≤ 1)) := by
  have hF0 : Fr F_X5_isWord_176 A_X5_isWord_176 g0 g0 := Fr.rf
  obtain ⟨m_f1, e_f1⟩ : ∃ m : Int, ((en_tl.getD (f1.toNat - 1) 0 : Nat) : Int) = m := ⟨_, rfl⟩
  have r_f1 := st_lenf h_f1
  rw [e_f1] at r_f1
  refine Ev.mk rfl rfl ⟨Nat.le_of_ble_eq_true rfl, Or.inr (q_rc hI0.1 kx_176 rfl)⟩ ?_
  show At _ none _ _ (0, [(0, .ref 176), (1, .float f1)], [], (_, _)) _
  refine At.enter rfl ?_
  refine r_aload_n rfl ?_
  obtain ⟨v333, hv333⟩ : ∃ v, gI g0 176 3 = v := ⟨_, rfl⟩
  refine q_getI (Sh.int hI0.1 kx_176 rfl) v333 hv333 ?_
  refine r_ifs 7 rfl (fun c334 => ?_) (fun c334 => ?_)
  · have c334_ : v333.toInt ≠ 0 := en_k_ne_t c334
    refine At.enter rfl ?_
    refine r_iconst 0 rfl ?_
    refine r_iretz (by decide) ?_
    exact ⟨_, rfl, hI0, hF0, _, rfl, by decide⟩
  · have c334_ : v333.toInt = 0 := en_k_ne_f c334
    refine At.enter rfl ?_
    refine r_aload_n rfl ?_
    obtain ⟨v335, hv335⟩ : ∃ v, gI g0 176 5 = v := ⟨_, rfl⟩
    have rv335 := RgF.at hI0.2.1 (p := 176) (b := 5) rfl
    rw [hv335] at rv335
    dsimp only at rv335
    refine q_getI (Sh.int hI0.1 kx_176 rfl) v335 hv335 ?_
    refine r_aload_n rfl ?_
    obtain ⟨v336, hv336⟩ : ∃ v, gI g0 176 4 = v := ⟨_, rfl⟩
    have rv336 := RgF.at hI0.2.1 (p := 176) (b := 4) rfl
    rw [hv336] at rv336
    dsimp only at rv336
    refine q_getI (Sh.int hI0.1 kx_176 rfl) v336 hv336 ?_
    refine q_isub (v335.toInt - v336.toInt) rfl (by omega) (fun v337 hv337 => ?_)
    refine r_sload_n rfl ?_
    refine q_slen rfl (Nat.le_of_ble_eq_true rfl) h_f1 m_f1 e_f1 (fun v338 hv338 => ?_)
    refine r_ics 23 rfl (fun c339 => ?_) (fun c339 => ?_)
    · have c339_ : v337.toInt = v338.toInt := en_i_eq_t c339
      refine At.enter rfl ?_
      refine r_iconst 0 rfl ?_
      refine r_istore_n ([(2, .int 0), (0, .ref 176), (1, .float f1)]) rfl ?_
      refine Ar.fall 27 rfl ?_
      have z_477 : (0 : Int32).toInt = 0 := rfl
      refine w_loopI (fun n_ l_ g_ => ∃ x466 : Int32, n_ = 8 - x466.toInt ∧ HI g_ ∧ Fr F_X5_isWord_176 A_X5_isWord_176 g0 g_ ∧ en_get 0 l_ = some (.ref 176) ∧ en_get 1 l_ = some (.float f1) ∧ en_get 2 l_ = some (.int x466) ∧ (0 ≤ x466.toInt ∧ x466.toInt ≤ 8)) ?_ (8 - 0) ⟨0, by first | rfl | omega, hI0, hF0, rfl, rfl, rfl, by decide⟩
      rintro n471 l470 g467 ⟨x466, hm478, hI468, hF469, e473, e474, e475, r476⟩ ih472
      refine At.enter rfl ?_
      refine r_iload_n e475 ?_
      refine r_sload_n e474 ?_
      refine q_slen rfl (Nat.le_of_ble_eq_true rfl) h_f1 m_f1 e_f1 (fun v479 hv479 => ?_)
      have bv481 := q_bnd x466
      have bv482 := q_bnd v479
      refine r_ics 35 rfl (fun c480 => ?_) (fun c480 => ?_)
      · have c480_ : x466.toInt ≥ v479.toInt := en_i_ge_t c480
        refine At.enter rfl ?_
        refine r_iconst 1 rfl ?_
        refine r_iretz (by decide) ?_
        exact ⟨_, rfl, hI468, hF469, _, rfl, by decide⟩
      · have c480_ : x466.toInt < v479.toInt := en_i_ge_f c480
        refine At.enter rfl ?_
        refine r_aload_n e473 ?_
        refine q_getR (Sh.ref hI468.1 kx_176 rfl) ?_
        refine r_aload_n e473 ?_
        refine q_getI (Sh.int hI468.1 kx_176 rfl) v336 ((hF469.1 176 4 (by decide)).trans hv336) ?_
        refine r_iload_n e475 ?_
        refine q_iadd (v336.toInt + x466.toInt) rfl (by omega) (fun v483 hv483 => ?_)
        refine r_callV 48 rfl [.ref 174, .int v483] [] (Nat.le_of_ble_eq_true rfl) rfl (T_X8_at_174 _ hI468 v483) ?_
        rintro _ _ ⟨g484, rfl, hI485, hF486, v487, rfl, hr488⟩
        refine At.sti ?_
        have hF489 := Fr.tr hF469 hF486 rfl rfl
        obtain ⟨v490, hv490⟩ : ∃ v, gI g0 174 1 = v := ⟨_, rfl⟩
        have rv490 := RgF.at hI0.2.1 (p := 174) (b := 1) rfl
        rw [hv490] at rv490
        dsimp only at rv490
        have tv490 := congrArg Int32.toInt hv490
        have x491 := HI.eqI hI468 (p := 174) (b := 1) (((hF469.1 174 1 (by decide)).trans hv490))
        refine At.enter rfl ?_
        refine r_sload_n e474 ?_
        refine r_iload_n e475 ?_
        refine q_scha rfl (Nat.le_of_ble_eq_true rfl) h_f1 m_f1 e_f1 (x466.toInt) rfl (by omega) (fun v492 hv492 => ?_)
        obtain ⟨hv492, gv492⟩ := hv492
        refine r_ics 56 rfl (fun c493 => ?_) (fun c493 => ?_)
        · have c493_ : v487.toInt = v492.toInt := en_i_eq_t c493
          refine At.enter rfl ?_
          refine q_iinc e475 (x466.toInt + 1) rfl (by omega) (fun v494 hv494 => ?_)
          refine r_goto ?_
          exact ih472 (8 - v494.toInt) _ _ ⟨v494, by first | rfl | omega, hI485, hF489, (w_p1 (by decide) (Or.inr rfl) e473), (w_p1 (by decide) (Or.inr rfl) e474), (w_e1 _ _ _), by omega⟩ ⟨by omega, by omega⟩
        · have c493_ : v487.toInt ≠ v492.toInt := en_i_eq_f c493
          refine At.enter rfl ?_
          refine r_iconst 0 rfl ?_
          refine r_iretz (by decide) ?_
          exact ⟨_, rfl, hI485, hF489, _, rfl, by decide⟩
    · have c339_ : v337.toInt ≠ v338.toInt := en_i_eq_f c339
      refine At.enter rfl ?_
      refine r_iconst 0 rfl ?_
      refine r_iretz (by decide) ?_
      exact ⟨_, rfl, hI0, hF0, _, rfl, by decide⟩

def F_X5_wordHere_176 : List (Nat × Nat) := []
def A_X5_wordHere_176 : List Nat := []
set_option maxRecDepth 100000 in
set_option maxHeartbeats 4000000 in
theorem T_X5_wordHere_176 (d : Nat) {N : Nat} {g0 : List en_E} (hI0 : HI g0) : Ev (d + 3) 78 [.ref 176] (g0, N) (fun w h' => ∃ g', h' = (g', N) ∧ HI g' ∧ Fr F_X5_wordHere_176 A_X5_wordHere_176 g0 g' ∧ ∃ r : Int32, w = some (.int r) ∧ ((-1) ≤ r.toInt ∧ r.toInt ≤ 8)) := by
  have hF0 : Fr F_X5_wordHere_176 A_X5_wordHere_176 g0 g0 := Fr.rf
  refine Ev.mk rfl rfl ⟨Nat.le_of_ble_eq_true rfl, Or.inr (q_rc hI0.1 kx_176 rfl)⟩ ?_
  show At _ none _ _ (0, [(0, .ref 176)], [], (_, _)) _
  refine At.enter rfl ?_
  refine r_iconst 0 rfl ?_
  refine r_istore_n ([(1, .int 0), (0, .ref 176)]) rfl ?_
  refine Ar.fall 2 rfl ?_
  have z_1491 : (0 : Int32).toInt = 0 := rfl
  refine w_loopI (fun n_ l_ g_ => ∃ x1481 : Int32, n_ = 9 - x1481.toInt ∧ HI g_ ∧ Fr F_X5_wordHere_176 A_X5_wordHere_176 g0 g_ ∧ en_get 0 l_ = some (.ref 176) ∧ en_get 1 l_ = some (.int x1481) ∧ (0 ≤ x1481.toInt ∧ x1481.toInt ≤ 9)) ?_ (9 - 0) ⟨0, by first | rfl | omega, hI0, hF0, rfl, rfl, by decide⟩
  rintro n1486 l1485 g1482 ⟨x1481, hm1492, hI1483, hF1484, e1488, e1489, r1490⟩ ih1487
  refine At.enter rfl ?_
  refine r_iload_n e1489 ?_
  refine r_bipush 9 rfl ?_
  refine r_ics 8 rfl (fun c1493 => ?_) (fun c1493 => ?_)
  · have c1493_ : x1481.toInt ≥ 9 := en_i_ge_t c1493
    refine At.enter rfl ?_
    refine r_iconst (-1) rfl ?_
    refine r_ireti ?_
    exact ⟨_, rfl, hI1483, hF1484, _, rfl, by decide⟩
  · have c1493_ : x1481.toInt < 9 := en_i_ge_f c1493
    refine At.enter rfl ?_
    refine r_aload_n e1488 ?_
    refine r_iload_n e1489 ?_
    refine q_inlS 13 rfl [.int x1481] [.ref 176] (Nat.le_of_ble_eq_true rfl) rfl ?_
    refine Ev.mk rfl rfl ⟨Nat.le_of_ble_eq_true rfl, Or.inl rfl⟩ ?_
    show At _ none _ _ (0, [(0, .int x1481)], [], (_, _)) _
    refine At.enter rfl ?_
    refine r_iload_n rfl ?_
    by_cases c1494_0 : x1481.toInt = 0
    · refine r_tsw 52 (by rw [c1494_0]; rfl) ?_
      refine At.enter rfl ?_
      refine r_ldcS (by decide) 5 rfl ?_
      refine q_sret ?_
      refine At.enter rfl ?_
      refine r_callV 16 rfl [.ref 176, .float 5] [] (Nat.le_of_ble_eq_true rfl) rfl (T_X5_isWord_176 _ hI1483 5 (by decide)) ?_
      rintro _ _ ⟨g1495, rfl, hI1496, hF1497, v1498, rfl, hr1499⟩
      refine At.sti ?_
      have hF1500 := Fr.tr hF1484 hF1497 rfl rfl
      refine At.enter rfl ?_
      refine r_ifs 19 rfl (fun c1501 => ?_) (fun c1501 => ?_)
      · have c1501_ : v1498.toInt = 0 := en_k_eq_t c1501
        refine At.enter rfl ?_
        refine q_iinc e1489 (x1481.toInt + 1) rfl (by omega) (fun v1502 hv1502 => ?_)
        refine r_goto ?_
        exact ih1487 (9 - v1502.toInt) _ _ ⟨v1502, by first | rfl | omega, hI1496, hF1500, (w_p1 (by decide) (Or.inr rfl) e1488), (w_e1 _ _ _), by omega⟩ ⟨by omega, by omega⟩
      · have c1501_ : v1498.toInt ≠ 0 := en_k_eq_f c1501
        refine At.enter rfl ?_
        refine r_iload_n e1489 ?_
        refine r_ireti ?_
        exact ⟨_, rfl, hI1496, hF1500, _, rfl, by omega⟩
    by_cases c1494_1 : x1481.toInt = 1
    · refine r_tsw 55 (by rw [c1494_1]; rfl) ?_
      refine At.enter rfl ?_
      refine r_ldcS (by decide) 6 rfl ?_
      refine q_sret ?_
      refine At.enter rfl ?_
      refine r_callV 16 rfl [.ref 176, .float 6] [] (Nat.le_of_ble_eq_true rfl) rfl (T_X5_isWord_176 _ hI1483 6 (by decide)) ?_
      rintro _ _ ⟨g1503, rfl, hI1504, hF1505, v1506, rfl, hr1507⟩
      refine At.sti ?_
      have hF1508 := Fr.tr hF1484 hF1505 rfl rfl
      refine At.enter rfl ?_
      refine r_ifs 19 rfl (fun c1509 => ?_) (fun c1509 => ?_)
      · have c1509_ : v1506.toInt = 0 := en_k_eq_t c1509
        refine At.enter rfl ?_
        refine q_iinc e1489 (x1481.toInt + 1) rfl (by omega) (fun v1510 hv1510 => ?_)
        refine r_goto ?_
        exact ih1487 (9 - v1510.toInt) _ _ ⟨v1510, by first | rfl | omega, hI1504, hF1508, (w_p1 (by decide) (Or.inr rfl) e1488), (w_e1 _ _ _), by omega⟩ ⟨by omega, by omega⟩
      · have c1509_ : v1506.toInt ≠ 0 := en_k_eq_f c1509
        refine At.enter rfl ?_
        refine r_iload_n e1489 ?_
        refine r_ireti ?_
        exact ⟨_, rfl, hI1504, hF1508, _, rfl, by omega⟩
    by_cases c1494_2 : x1481.toInt = 2
    · refine r_tsw 58 (by rw [c1494_2]; rfl) ?_
      refine At.enter rfl ?_
      refine r_ldcS (by decide) 7 rfl ?_
      refine q_sret ?_
      refine At.enter rfl ?_
      refine r_callV 16 rfl [.ref 176, .float 7] [] (Nat.le_of_ble_eq_true rfl) rfl (T_X5_isWord_176 _ hI1483 7 (by decide)) ?_
      rintro _ _ ⟨g1511, rfl, hI1512, hF1513, v1514, rfl, hr1515⟩
      refine At.sti ?_
      have hF1516 := Fr.tr hF1484 hF1513 rfl rfl
      refine At.enter rfl ?_
      refine r_ifs 19 rfl (fun c1517 => ?_) (fun c1517 => ?_)
      · have c1517_ : v1514.toInt = 0 := en_k_eq_t c1517
        refine At.enter rfl ?_
        refine q_iinc e1489 (x1481.toInt + 1) rfl (by omega) (fun v1518 hv1518 => ?_)
        refine r_goto ?_
        exact ih1487 (9 - v1518.toInt) _ _ ⟨v1518, by first | rfl | omega, hI1512, hF1516, (w_p1 (by decide) (Or.inr rfl) e1488), (w_e1 _ _ _), by omega⟩ ⟨by omega, by omega⟩
      · have c1517_ : v1514.toInt ≠ 0 := en_k_eq_f c1517
        refine At.enter rfl ?_
        refine r_iload_n e1489 ?_
        refine r_ireti ?_
        exact ⟨_, rfl, hI1512, hF1516, _, rfl, by omega⟩
    by_cases c1494_3 : x1481.toInt = 3
    · refine r_tsw 61 (by rw [c1494_3]; rfl) ?_
      refine At.enter rfl ?_
      refine r_ldcS (by decide) 8 rfl ?_
      refine q_sret ?_
      refine At.enter rfl ?_
      refine r_callV 16 rfl [.ref 176, .float 8] [] (Nat.le_of_ble_eq_true rfl) rfl (T_X5_isWord_176 _ hI1483 8 (by decide)) ?_
      rintro _ _ ⟨g1519, rfl, hI1520, hF1521, v1522, rfl, hr1523⟩
      refine At.sti ?_
      have hF1524 := Fr.tr hF1484 hF1521 rfl rfl
      refine At.enter rfl ?_
      refine r_ifs 19 rfl (fun c1525 => ?_) (fun c1525 => ?_)
      · have c1525_ : v1522.toInt = 0 := en_k_eq_t c1525
        refine At.enter rfl ?_
        refine q_iinc e1489 (x1481.toInt + 1) rfl (by omega) (fun v1526 hv1526 => ?_)
        refine r_goto ?_
        exact ih1487 (9 - v1526.toInt) _ _ ⟨v1526, by first | rfl | omega, hI1520, hF1524, (w_p1 (by decide) (Or.inr rfl) e1488), (w_e1 _ _ _), by omega⟩ ⟨by omega, by omega⟩
      · have c1525_ : v1522.toInt ≠ 0 := en_k_eq_f c1525
        refine At.enter rfl ?_
        refine r_iload_n e1489 ?_
        refine r_ireti ?_
        exact ⟨_, rfl, hI1520, hF1524, _, rfl, by omega⟩
    by_cases c1494_4 : x1481.toInt = 4
    · refine r_tsw 64 (by rw [c1494_4]; rfl) ?_
      refine At.enter rfl ?_
      refine r_ldcS (by decide) 9 rfl ?_
      refine q_sret ?_
      refine At.enter rfl ?_
      refine r_callV 16 rfl [.ref 176, .float 9] [] (Nat.le_of_ble_eq_true rfl) rfl (T_X5_isWord_176 _ hI1483 9 (by decide)) ?_
      rintro _ _ ⟨g1527, rfl, hI1528, hF1529, v1530, rfl, hr1531⟩
      refine At.sti ?_
      have hF1532 := Fr.tr hF1484 hF1529 rfl rfl
      refine At.enter rfl ?_
      refine r_ifs 19 rfl (fun c1533 => ?_) (fun c1533 => ?_)
      · have c1533_ : v1530.toInt = 0 := en_k_eq_t c1533
        refine At.enter rfl ?_
        refine q_iinc e1489 (x1481.toInt + 1) rfl (by omega) (fun v1534 hv1534 => ?_)
        refine r_goto ?_
        exact ih1487 (9 - v1534.toInt) _ _ ⟨v1534, by first | rfl | omega, hI1528, hF1532, (w_p1 (by decide) (Or.inr rfl) e1488), (w_e1 _ _ _), by omega⟩ ⟨by omega, by omega⟩
      · have c1533_ : v1530.toInt ≠ 0 := en_k_eq_f c1533
        refine At.enter rfl ?_
        refine r_iload_n e1489 ?_
        refine r_ireti ?_
        exact ⟨_, rfl, hI1528, hF1532, _, rfl, by omega⟩
    by_cases c1494_5 : x1481.toInt = 5
    · refine r_tsw 67 (by rw [c1494_5]; rfl) ?_
      refine At.enter rfl ?_
      refine r_ldcS (by decide) 10 rfl ?_
      refine q_sret ?_
      refine At.enter rfl ?_
      refine r_callV 16 rfl [.ref 176, .float 10] [] (Nat.le_of_ble_eq_true rfl) rfl (T_X5_isWord_176 _ hI1483 10 (by decide)) ?_
      rintro _ _ ⟨g1535, rfl, hI1536, hF1537, v1538, rfl, hr1539⟩
      refine At.sti ?_
      have hF1540 := Fr.tr hF1484 hF1537 rfl rfl
      refine At.enter rfl ?_
      refine r_ifs 19 rfl (fun c1541 => ?_) (fun c1541 => ?_)
      · have c1541_ : v1538.toInt = 0 := en_k_eq_t c1541
        refine At.enter rfl ?_
        refine q_iinc e1489 (x1481.toInt + 1) rfl (by omega) (fun v1542 hv1542 => ?_)
        refine r_goto ?_
        exact ih1487 (9 - v1542.toInt) _ _ ⟨v1542, by first | rfl | omega, hI1536, hF1540, (w_p1 (by decide) (Or.inr rfl) e1488), (w_e1 _ _ _), by omega⟩ ⟨by omega, by omega⟩
      · have c1541_ : v1538.toInt ≠ 0 := en_k_eq_f c1541
        refine At.enter rfl ?_
        refine r_iload_n e1489 ?_
        refine r_ireti ?_
        exact ⟨_, rfl, hI1536, hF1540, _, rfl, by omega⟩
    by_cases c1494_6 : x1481.toInt = 6
    · refine r_tsw 70 (by rw [c1494_6]; rfl) ?_
      refine At.enter rfl ?_
      refine r_ldcS (by decide) 11 rfl ?_
      refine q_sret ?_
      refine At.enter rfl ?_
      refine r_callV 16 rfl [.ref 176, .float 11] [] (Nat.le_of_ble_eq_true rfl) rfl (T_X5_isWord_176 _ hI1483 11 (by decide)) ?_
      rintro _ _ ⟨g1543, rfl, hI1544, hF1545, v1546, rfl, hr1547⟩
      refine At.sti ?_
      have hF1548 := Fr.tr hF1484 hF1545 rfl rfl
      refine At.enter rfl ?_
      refine r_ifs 19 rfl (fun c1549 => ?_) (fun c1549 => ?_)
      · have c1549_ : v1546.toInt = 0 := en_k_eq_t c1549
        refine At.enter rfl ?_
        refine q_iinc e1489 (x1481.toInt + 1) rfl (by omega) (fun v1550 hv1550 => ?_)
        refine r_goto ?_
        exact ih1487 (9 - v1550.toInt) _ _ ⟨v1550, by first | rfl | omega, hI1544, hF1548, (w_p1 (by decide) (Or.inr rfl) e1488), (w_e1 _ _ _), by omega⟩ ⟨by omega, by omega⟩
      · have c1549_ : v1546.toInt ≠ 0 := en_k_eq_f c1549
        refine At.enter rfl ?_
        refine r_iload_n e1489 ?_
        refine r_ireti ?_
        exact ⟨_, rfl, hI1544, hF1548, _, rfl, by omega⟩
    by_cases c1494_7 : x1481.toInt = 7
    · refine r_tsw 73 (by rw [c1494_7]; rfl) ?_
      refine At.enter rfl ?_
      refine r_ldcS (by decide) 12 rfl ?_
      refine q_sret ?_
      refine At.enter rfl ?_
      refine r_callV 16 rfl [.ref 176, .float 12] [] (Nat.le_of_ble_eq_true rfl) rfl (T_X5_isWord_176 _ hI1483 12 (by decide)) ?_
      rintro _ _ ⟨g1551, rfl, hI1552, hF1553, v1554, rfl, hr1555⟩
      refine At.sti ?_
      have hF1556 := Fr.tr hF1484 hF1553 rfl rfl
      refine At.enter rfl ?_
      refine r_ifs 19 rfl (fun c1557 => ?_) (fun c1557 => ?_)
      · have c1557_ : v1554.toInt = 0 := en_k_eq_t c1557
        refine At.enter rfl ?_
        refine q_iinc e1489 (x1481.toInt + 1) rfl (by omega) (fun v1558 hv1558 => ?_)
        refine r_goto ?_
        exact ih1487 (9 - v1558.toInt) _ _ ⟨v1558, by first | rfl | omega, hI1552, hF1556, (w_p1 (by decide) (Or.inr rfl) e1488), (w_e1 _ _ _), by omega⟩ ⟨by omega, by omega⟩
      · have c1557_ : v1554.toInt ≠ 0 := en_k_eq_f c1557
        refine At.enter rfl ?_
        refine r_iload_n e1489 ?_
        refine r_ireti ?_
        exact ⟨_, rfl, hI1552, hF1556, _, rfl, by omega⟩
    by_cases c1494_8 : x1481.toInt = 8
    · refine r_tsw 76 (by rw [c1494_8]; rfl) ?_
      refine At.enter rfl ?_
      refine r_ldcS (by decide) 13 rfl ?_
      refine q_sret ?_
      refine At.enter rfl ?_
      refine r_callV 16 rfl [.ref 176, .float 13] [] (Nat.le_of_ble_eq_true rfl) rfl (T_X5_isWord_176 _ hI1483 13 (by decide)) ?_
      rintro _ _ ⟨g1559, rfl, hI1560, hF1561, v1562, rfl, hr1563⟩
      refine At.sti ?_
      have hF1564 := Fr.tr hF1484 hF1561 rfl rfl
      refine At.enter rfl ?_
      refine r_ifs 19 rfl (fun c1565 => ?_) (fun c1565 => ?_)
      · have c1565_ : v1562.toInt = 0 := en_k_eq_t c1565
        refine At.enter rfl ?_
        refine q_iinc e1489 (x1481.toInt + 1) rfl (by omega) (fun v1566 hv1566 => ?_)
        refine r_goto ?_
        exact ih1487 (9 - v1566.toInt) _ _ ⟨v1566, by first | rfl | omega, hI1560, hF1564, (w_p1 (by decide) (Or.inr rfl) e1488), (w_e1 _ _ _), by omega⟩ ⟨by omega, by omega⟩
      · have c1565_ : v1562.toInt ≠ 0 := en_k_eq_f c1565
        refine At.enter rfl ?_
        refine r_iload_n e1489 ?_
        refine r_ireti ?_
        exact ⟨_, rfl, hI1560, hF1564, _, rfl, by omega⟩
    exfalso; omega

def F_rd : List (Nat × Nat) := [(176, 2), (176, 3), (176, 4), (176, 5), (176, 6), (177, 0), (177, 3), (177, 4)]
def A_rd : List Nat := [178, 179, 180, 181, 182, 183]

def F_X5_joinHere_176 : List (Nat × Nat) := []
def A_X5_joinHere_176 : List Nat := []
set_option maxRecDepth 100000 in
set_option maxHeartbeats 4000000 in
theorem T_X5_joinHere_176 (d : Nat) {N : Nat} {g0 : List en_E} (hI0 : HI g0) (a1 : Int32) : Ev (d + 3) 66 [.ref 176, .int a1] (g0, N) (fun w h' => ∃ g', h' = (g', N) ∧ HI g' ∧ Fr F_X5_joinHere_176 A_X5_joinHere_176 g0 g' ∧ ∃ r : Int32, w = some (.int r) ∧ ((-1) ≤ r.toInt ∧ r.toInt ≤ 11)) := by
  have hF0 : Fr F_X5_joinHere_176 A_X5_joinHere_176 g0 g0 := Fr.rf
  refine Ev.mk rfl rfl ⟨Nat.le_of_ble_eq_true rfl, Or.inr (q_rc hI0.1 kx_176 rfl)⟩ ?_
  show At _ none _ _ (0, [(0, .ref 176), (1, .int a1)], [], (_, _)) _
  refine At.enter rfl ?_
  refine r_iload_n rfl ?_
  by_cases c89_0 : a1.toInt = 0
  · refine r_tsw 28 (by rw [c89_0]; rfl) ?_
    refine At.enter rfl ?_
    refine r_aload_n rfl ?_
    refine r_ldcS (by decide) 15 rfl ?_
    refine r_callV 34 rfl [.ref 176, .float 15] [] (Nat.le_of_ble_eq_true rfl) rfl (T_X5_isWord_176 _ hI0 15 (by decide)) ?_
    rintro _ _ ⟨g90, rfl, hI91, hF92, v93, rfl, hr94⟩
    refine At.sti ?_
    have hF95 := Fr.tr hF0 hF92 rfl rfl
    refine At.enter rfl ?_
    refine r_ifs 37 rfl (fun c96 => ?_) (fun c96 => ?_)
    · have c96_ : v93.toInt = 0 := en_k_eq_t c96
      refine At.enter rfl ?_
      refine r_iconst (-1) rfl ?_
      refine Ar.fall 43 rfl ?_
      refine At.enter rfl ?_
      refine r_ireti ?_
      exact ⟨_, rfl, hI91, hF95, _, rfl, by decide⟩
    · have c96_ : v93.toInt ≠ 0 := en_k_eq_f c96
      refine At.enter rfl ?_
      refine r_bipush 11 rfl ?_
      refine r_goto ?_
      refine At.enter rfl ?_
      refine r_ireti ?_
      exact ⟨_, rfl, hI91, hF95, _, rfl, by decide⟩
  by_cases c89_1 : a1.toInt = 1
  · refine r_tsw 44 (by rw [c89_1]; rfl) ?_
    refine At.enter rfl ?_
    refine r_aload_n rfl ?_
    refine r_ldcS (by decide) 16 rfl ?_
    refine r_callV 50 rfl [.ref 176, .float 16] [] (Nat.le_of_ble_eq_true rfl) rfl (T_X5_isWord_176 _ hI0 16 (by decide)) ?_
    rintro _ _ ⟨g97, rfl, hI98, hF99, v100, rfl, hr101⟩
    refine At.sti ?_
    have hF102 := Fr.tr hF0 hF99 rfl rfl
    refine At.enter rfl ?_
    refine r_ifs 53 rfl (fun c103 => ?_) (fun c103 => ?_)
    · have c103_ : v100.toInt = 0 := en_k_eq_t c103
      refine At.enter rfl ?_
      refine r_iconst (-1) rfl ?_
      refine Ar.fall 59 rfl ?_
      refine At.enter rfl ?_
      refine r_ireti ?_
      exact ⟨_, rfl, hI98, hF102, _, rfl, by decide⟩
    · have c103_ : v100.toInt ≠ 0 := en_k_eq_f c103
      refine At.enter rfl ?_
      refine r_bipush 10 rfl ?_
      refine r_goto ?_
      refine At.enter rfl ?_
      refine r_ireti ?_
      exact ⟨_, rfl, hI98, hF102, _, rfl, by decide⟩
  by_cases c89_2 : a1.toInt = 2
  · refine r_tsw 60 (by rw [c89_2]; rfl) ?_
    refine At.enter rfl ?_
    refine r_aload_n rfl ?_
    refine r_bipush 43 rfl ?_
    refine r_callV 66 rfl [.ref 176, .int 43] [] (Nat.le_of_ble_eq_true rfl) rfl (T_X5_isSingle_176 _ hI0 43) ?_
    rintro _ _ ⟨g104, rfl, hI105, hF106, v107, rfl, hr108⟩
    refine At.sti ?_
    have hF109 := Fr.tr hF0 hF106 rfl rfl
    refine At.enter rfl ?_
    refine r_ifs 69 rfl (fun c110 => ?_) (fun c110 => ?_)
    · have c110_ : v107.toInt = 0 := en_k_eq_t c110
      refine At.enter rfl ?_
      refine r_aload_n rfl ?_
      refine r_bipush 45 rfl ?_
      refine r_callV 79 rfl [.ref 176, .int 45] [] (Nat.le_of_ble_eq_true rfl) rfl (T_X5_isSingle_176 _ hI105 45) ?_
      rintro _ _ ⟨g111, rfl, hI112, hF113, v114, rfl, hr115⟩
      refine At.sti ?_
      have hF116 := Fr.tr hF109 hF113 rfl rfl
      refine At.enter rfl ?_
      refine r_ifs 82 rfl (fun c117 => ?_) (fun c117 => ?_)
      · have c117_ : v114.toInt = 0 := en_k_eq_t c117
        refine At.enter rfl ?_
        refine r_iconst (-1) rfl ?_
        refine Ar.fall 87 rfl ?_
        refine At.enter rfl ?_
        refine r_ireti ?_
        exact ⟨_, rfl, hI112, hF116, _, rfl, by decide⟩
      · have c117_ : v114.toInt ≠ 0 := en_k_eq_f c117
        refine At.enter rfl ?_
        refine r_iconst 3 rfl ?_
        refine r_goto ?_
        refine At.enter rfl ?_
        refine r_ireti ?_
        exact ⟨_, rfl, hI112, hF116, _, rfl, by decide⟩
    · have c110_ : v107.toInt ≠ 0 := en_k_eq_f c110
      refine At.enter rfl ?_
      refine r_iconst 2 rfl ?_
      refine r_goto ?_
      refine At.enter rfl ?_
      refine r_ireti ?_
      exact ⟨_, rfl, hI105, hF109, _, rfl, by decide⟩
  have c118 : a1.toInt < 0 ∨ 2 < a1.toInt := by omega
  refine r_tsw 88 (by unfold en_sw; rw [if_pos c118]; rfl) ?_
  refine At.enter rfl ?_
  refine r_aload_n rfl ?_
  refine r_bipush 42 rfl ?_
  refine r_callV 94 rfl [.ref 176, .int 42] [] (Nat.le_of_ble_eq_true rfl) rfl (T_X5_isSingle_176 _ hI0 42) ?_
  rintro _ _ ⟨g119, rfl, hI120, hF121, v122, rfl, hr123⟩
  refine At.sti ?_
  have hF124 := Fr.tr hF0 hF121 rfl rfl
  refine At.enter rfl ?_
  refine r_ifs 97 rfl (fun c125 => ?_) (fun c125 => ?_)
  · have c125_ : v122.toInt = 0 := en_k_eq_t c125
    refine At.enter rfl ?_
    refine r_aload_n rfl ?_
    refine r_bipush 47 rfl ?_
    refine r_callV 107 rfl [.ref 176, .int 47] [] (Nat.le_of_ble_eq_true rfl) rfl (T_X5_isSingle_176 _ hI120 47) ?_
    rintro _ _ ⟨g126, rfl, hI127, hF128, v129, rfl, hr130⟩
    refine At.sti ?_
    have hF131 := Fr.tr hF124 hF128 rfl rfl
    refine At.enter rfl ?_
    refine r_ifs 110 rfl (fun c132 => ?_) (fun c132 => ?_)
    · have c132_ : v129.toInt = 0 := en_k_eq_t c132
      refine At.enter rfl ?_
      refine r_iconst (-1) rfl ?_
      refine Ar.fall 115 rfl ?_
      refine At.enter rfl ?_
      refine r_ireti ?_
      exact ⟨_, rfl, hI127, hF131, _, rfl, by decide⟩
    · have c132_ : v129.toInt ≠ 0 := en_k_eq_f c132
      refine At.enter rfl ?_
      refine r_iconst 5 rfl ?_
      refine r_goto ?_
      refine At.enter rfl ?_
      refine r_ireti ?_
      exact ⟨_, rfl, hI127, hF131, _, rfl, by decide⟩
  · have c125_ : v122.toInt ≠ 0 := en_k_eq_f c125
    refine At.enter rfl ?_
    refine r_iconst 4 rfl ?_
    refine r_goto ?_
    refine At.enter rfl ?_
    refine r_ireti ?_
    exact ⟨_, rfl, hI120, hF124, _, rfl, by decide⟩

def F_X5_comparisonHere_176 : List (Nat × Nat) := []
def A_X5_comparisonHere_176 : List Nat := []
set_option maxRecDepth 100000 in
set_option maxHeartbeats 4000000 in
theorem T_X5_comparisonHere_176 (d : Nat) {N : Nat} {g0 : List en_E} (hI0 : HI g0) : Ev (d + 3) 68 [.ref 176] (g0, N) (fun w h' => ∃ g', h' = (g', N) ∧ HI g' ∧ Fr F_X5_comparisonHere_176 A_X5_comparisonHere_176 g0 g' ∧ ∃ r : Int32, w = some (.int r) ∧ ((-1) ≤ r.toInt ∧ r.toInt ≤ 8)) := by
  have hF0 : Fr F_X5_comparisonHere_176 A_X5_comparisonHere_176 g0 g0 := Fr.rf
  refine Ev.mk rfl rfl ⟨Nat.le_of_ble_eq_true rfl, Or.inr (q_rc hI0.1 kx_176 rfl)⟩ ?_
  show At _ none _ _ (0, [(0, .ref 176)], [], (_, _)) _
  refine At.enter rfl ?_
  refine r_aload_n rfl ?_
  refine r_bipush 60 rfl ?_
  refine r_callV 6 rfl [.ref 176, .int 60] [] (Nat.le_of_ble_eq_true rfl) rfl (T_X5_isSingle_176 _ hI0 60) ?_
  rintro _ _ ⟨g43, rfl, hI44, hF45, v46, rfl, hr47⟩
  refine At.sti ?_
  have hF48 := Fr.tr hF0 hF45 rfl rfl
  refine At.enter rfl ?_
  refine r_ifs 9 rfl (fun c49 => ?_) (fun c49 => ?_)
  · have c49_ : v46.toInt = 0 := en_k_eq_t c49
    refine At.enter rfl ?_
    refine r_aload_n rfl ?_
    refine r_bipush 62 rfl ?_
    refine r_callV 20 rfl [.ref 176, .int 62] [] (Nat.le_of_ble_eq_true rfl) rfl (T_X5_isSingle_176 _ hI44 62) ?_
    rintro _ _ ⟨g50, rfl, hI51, hF52, v53, rfl, hr54⟩
    refine At.sti ?_
    have hF55 := Fr.tr hF48 hF52 rfl rfl
    refine At.enter rfl ?_
    refine r_ifs 23 rfl (fun c56 => ?_) (fun c56 => ?_)
    · have c56_ : v53.toInt = 0 := en_k_eq_t c56
      refine At.enter rfl ?_
      refine r_aload_n rfl ?_
      refine r_bipush 61 rfl ?_
      refine r_callV 34 rfl [.ref 176, .int 61] [] (Nat.le_of_ble_eq_true rfl) rfl (T_X5_isSingle_176 _ hI51 61) ?_
      rintro _ _ ⟨g57, rfl, hI58, hF59, v60, rfl, hr61⟩
      refine At.sti ?_
      have hF62 := Fr.tr hF55 hF59 rfl rfl
      refine At.enter rfl ?_
      refine r_ifs 37 rfl (fun c63 => ?_) (fun c63 => ?_)
      · have c63_ : v60.toInt = 0 := en_k_eq_t c63
        refine At.enter rfl ?_
        refine r_iconst (-1) rfl ?_
        refine Ar.fall 43 rfl ?_
        refine At.enter rfl ?_
        refine r_ireti ?_
        exact ⟨_, rfl, hI58, hF62, _, rfl, by decide⟩
      · have c63_ : v60.toInt ≠ 0 := en_k_eq_f c63
        refine At.enter rfl ?_
        refine r_bipush 8 rfl ?_
        refine r_goto ?_
        refine At.enter rfl ?_
        refine r_ireti ?_
        exact ⟨_, rfl, hI58, hF62, _, rfl, by decide⟩
    · have c56_ : v53.toInt ≠ 0 := en_k_eq_f c56
      refine At.enter rfl ?_
      refine r_bipush 7 rfl ?_
      refine r_goto ?_
      refine At.enter rfl ?_
      refine r_ireti ?_
      exact ⟨_, rfl, hI51, hF55, _, rfl, by decide⟩
  · have c49_ : v46.toInt ≠ 0 := en_k_eq_f c49
    refine At.enter rfl ?_
    refine r_bipush 6 rfl ?_
    refine r_goto ?_
    refine At.enter rfl ?_
    refine r_ireti ?_
    exact ⟨_, rfl, hI44, hF48, _, rfl, by decide⟩

def F_X5_expect_176 : List (Nat × Nat) := [(176, 2), (176, 3), (176, 4), (176, 5)]
def A_X5_expect_176 : List Nat := []
set_option maxRecDepth 100000 in
set_option maxHeartbeats 4000000 in
theorem T_X5_expect_176 (d : Nat) {N : Nat} {g0 : List en_E} (hI0 : HI g0) (a1 : Int32) : Ev (d + 3) 71 [.ref 176, .int a1] (g0, N) (fun w h' => ∃ g', h' = (g', N) ∧ HI g' ∧ Fr F_X5_expect_176 A_X5_expect_176 g0 g' ∧ w = none) := by
  have hF0 : Fr F_X5_expect_176 A_X5_expect_176 g0 g0 := Fr.rf
  refine Ev.mk rfl rfl ⟨Nat.le_of_ble_eq_true rfl, Or.inr (q_rc hI0.1 kx_176 rfl)⟩ ?_
  show At _ none _ _ (0, [(0, .ref 176), (1, .int a1)], [], (_, _)) _
  refine At.enter rfl ?_
  refine r_aload_n rfl ?_
  refine r_iload_n rfl ?_
  refine r_callV 5 rfl [.ref 176, .int a1] [] (Nat.le_of_ble_eq_true rfl) rfl (T_X5_isSingle_176 _ hI0 a1) ?_
  rintro _ _ ⟨g37, rfl, hI38, hF39, v40, rfl, hr41⟩
  refine At.sti ?_
  have hF42 := Fr.tr hF0 hF39 rfl rfl
  refine At.enter rfl ?_
  refine r_ifs 8 rfl (fun c43 => ?_) (fun c43 => ?_)
  · have c43_ : v40.toInt = 0 := en_k_eq_t c43
    refine At.enter rfl ?_
    refine r_aload_n rfl ?_
    refine q_inlV 19 rfl [.ref 176] [] (Nat.le_of_ble_eq_true rfl) rfl ?_
    refine Ev.mk rfl rfl ⟨Nat.le_of_ble_eq_true rfl, Or.inr (q_rc hI38.1 kx_176 rfl)⟩ ?_
    show At _ none _ _ (0, [(0, .ref 176)], [], (_, _)) _
    refine At.enter rfl ?_
    refine r_aload_n rfl ?_
    obtain ⟨v44, hv44⟩ : ∃ v, gI g0 176 2 = v := ⟨_, rfl⟩
    refine q_getI (Sh.int hI38.1 kx_176 rfl) v44 ((hF39.1 176 2 (by decide)).trans hv44) ?_
    refine r_iconst (-1) rfl ?_
    refine r_ics 8 rfl (fun c45 => ?_) (fun c45 => ?_)
    · have c45_ : v44.toInt ≠ (-1) := en_i_ne_t c45
      refine At.enter rfl ?_
      refine q_vret ?_
      refine At.enter rfl ?_
      refine r_vret ?_
      exact ⟨_, rfl, hI38, hF42, rfl⟩
    · have c45_ : v44.toInt = (-1) := en_i_ne_f c45
      refine At.enter rfl ?_
      refine r_aload_n rfl ?_
      refine r_aload_n rfl ?_
      obtain ⟨v46, hv46⟩ : ∃ v, gI g0 176 4 = v := ⟨_, rfl⟩
      have rv46 := RgF.at hI0.2.1 (p := 176) (b := 4) rfl
      rw [hv46] at rv46
      dsimp only at rv46
      refine q_getI (Sh.int hI38.1 kx_176 rfl) v46 ((hF39.1 176 4 (by decide)).trans hv46) ?_
      refine q_putI (Sh.int hI38.1 kx_176 rfl) rfl ?_
      have hI47 := HI.wI0 hI38 kx_176 rfl (p := 176) (b := 2) (v := v46) rfl
      have hF48 := Fr.wI (p := 176) (b := 2) (v := v46) hF42 rfl
      refine Ar.fall 16 rfl ?_
      refine At.enter rfl ?_
      refine q_vret ?_
      refine At.enter rfl ?_
      refine r_vret ?_
      exact ⟨_, rfl, hI47, hF48, rfl⟩
  · have c43_ : v40.toInt ≠ 0 := en_k_eq_f c43
    refine At.enter rfl ?_
    refine r_aload_n rfl ?_
    refine r_callV 12 rfl [.ref 176] [] (Nat.le_of_ble_eq_true rfl) rfl (T_X5_step_176 _ hI38) ?_
    rintro _ _ ⟨g49, rfl, hI50, hF51, rfl⟩
    refine At.stn ?_
    have hF54 := Fr.tr hF42 hF51 rfl rfl
    refine At.enter rfl ?_
    refine r_goto ?_
    refine At.enter rfl ?_
    refine r_vret ?_
    exact ⟨_, rfl, hI50, hF54, rfl⟩

def QJ (n : Nat) : Prop := ∀ e : Nat, 4 * n + 20 ≤ e → ∀ {N : Nat} {g0 : List en_E}, HI g0 → ∀ (a1 : Int32) (h_a1 : 0 ≤ a1.toInt ∧ a1.toInt ≤ 3) (a2 : Int32) (h_a2 : 0 ≤ a2.toInt ∧ a2.toInt ≤ 8), 10 * (9 - a2.toInt) + (8 - 2 * a1.toInt) ≤ (n : Int) → Ev e 65 [.ref 176, .int a1, .int a2] (g0, N) (fun w h' => ∃ g', h' = (g', N) ∧ HI g' ∧ Fr F_rd A_rd g0 g' ∧ w = none)
def QP (n : Nat) : Prop := ∀ e : Nat, 4 * n + 20 ≤ e → ∀ {N : Nat} {g0 : List en_E}, HI g0 → ∀ (a1 : Int32) (h_a1 : 0 ≤ a1.toInt ∧ a1.toInt ≤ 8), 10 * (9 - a1.toInt) + 5 ≤ (n : Int) → Ev e 67 [.ref 176, .int a1] (g0, N) (fun w h' => ∃ g', h' = (g', N) ∧ HI g' ∧ Fr F_rd A_rd g0 g' ∧ w = none)
def QT (n : Nat) : Prop := ∀ e : Nat, 4 * n + 20 ≤ e → ∀ {N : Nat} {g0 : List en_E}, HI g0 → ∀ (a1 : Int32) (h_a1 : 0 ≤ a1.toInt ∧ a1.toInt ≤ 8), 10 * (9 - a1.toInt) + 1 ≤ (n : Int) → Ev e 69 [.ref 176, .int a1] (g0, N) (fun w h' => ∃ g', h' = (g', N) ∧ HI g' ∧ Fr F_rd A_rd g0 g' ∧ w = none)

set_option maxRecDepth 100000 in
set_option maxHeartbeats 4000000 in
theorem S_X5_readJoined_176 (n : Nat) (IHJ : QJ n) (IHP : QP n) (IHT : QT n) : QJ (n + 1) := by
  intro e he N g0 hI0 a1 h_a1 a2 h_a2 hm
  obtain ⟨d, rfl⟩ : ∃ d, e = d + 4 := ⟨e - 4, by omega⟩
  have hF0 : Fr F_rd A_rd g0 g0 := Fr.rf
  refine Ev.mk rfl rfl ⟨Nat.le_of_ble_eq_true rfl, Or.inr (q_rc hI0.1 kx_176 rfl)⟩ ?_
  show At _ none _ _ (0, [(0, .ref 176), (1, .int a1), (2, .int a2)], [], (_, _)) _
  refine At.enter rfl ?_
  refine r_iconst (-1) rfl ?_
  refine r_istore_n ([(3, .int (-1)), (0, .ref 176), (1, .int a1), (2, .int a2)]) rfl ?_
  refine r_iconst (-1) rfl ?_
  refine r_istore ([(4, .int (-1)), (3, .int (-1)), (0, .ref 176), (1, .int a1), (2, .int a2)]) rfl ?_
  refine r_iconst 0 rfl ?_
  refine r_istore ([(5, .int 0), (4, .int (-1)), (3, .int (-1)), (0, .ref 176), (1, .int a1), (2, .int a2)]) rfl ?_
  refine Ar.fall 8 rfl ?_
  have z_14003 : ((-1) : Int32).toInt = (-1) := rfl
  have z_14004 : ((-1) : Int32).toInt = (-1) := rfl
  have z_14005 : (0 : Int32).toInt = 0 := rfl
  refine w_loopI (fun n_ l_ g_ => ∃ x13985 : Int32, ∃ x13986 : Int32, ∃ x13987 : Int32, n_ = 400 - x13987.toInt ∧ HI g_ ∧ Fr F_rd A_rd g0 g_ ∧ en_get 0 l_ = some (.ref 176) ∧ en_get 1 l_ = some (.int a1) ∧ en_get 2 l_ = some (.int a2) ∧ en_get 3 l_ = some (.int x13985) ∧ en_get 4 l_ = some (.int x13986) ∧ en_get 5 l_ = some (.int x13987) ∧ ((-1) ≤ x13985.toInt ∧ x13985.toInt ≤ 11) ∧ ((-1) ≤ x13986.toInt ∧ x13986.toInt ≤ 399) ∧ (0 ≤ x13987.toInt ∧ x13987.toInt ≤ 400)) ?_ (400 - 0) ⟨(-1), (-1), 0, by first | rfl | omega, hI0, hF0, rfl, rfl, rfl, rfl, rfl, rfl, by decide, by decide, by decide⟩
  rintro n13992 l13991 g13988 ⟨x13985, x13986, x13987, hm14006, hI13989, hF13990, e13994, e13995, e13996, e13997, e13998, e13999, r14000, r14001, r14002⟩ ih13993
  refine At.enter rfl ?_
  refine r_iload e13999 ?_
  refine r_sipush 400 rfl ?_
  refine r_ics 16 rfl (fun c14007 => ?_) (fun c14007 => ?_)
  · have c14007_ : x13987.toInt ≥ 400 := en_i_ge_t c14007
    refine At.enter rfl ?_
    refine r_vret ?_
    exact ⟨_, rfl, hI13989, hF13990, rfl⟩
  · have c14007_ : x13987.toInt < 400 := en_i_ge_f c14007
    refine At.enter rfl ?_
    refine r_iload_n e13995 ?_
    refine r_iconst 1 rfl ?_
    refine r_ics 21 rfl (fun c14008 => ?_) (fun c14008 => ?_)
    · have c14008_ : a1.toInt ≠ 1 := en_i_ne_t c14008
      refine At.enter rfl ?_
      refine r_iload_n e13995 ?_
      refine r_iconst 3 rfl ?_
      refine r_ics 34 rfl (fun c14009 => ?_) (fun c14009 => ?_)
      · have c14009_ : a1.toInt ≠ 3 := en_i_ne_t c14009
        refine At.enter rfl ?_
        refine r_aload_n e13994 ?_
        refine r_iload_n e13995 ?_
        refine r_iconst 1 rfl ?_
        refine q_iadd (a1.toInt + 1) rfl (by omega) (fun v14010 hv14010 => ?_)
        refine r_iload_n e13996 ?_
        refine r_callV 50 rfl [.ref 176, .int v14010, .int a2] [] (Nat.le_of_ble_eq_true rfl) rfl (IHJ _ (by omega) hI13989 v14010 (by omega) a2 (by omega) (by omega)) ?_
        rintro _ _ ⟨g14011, rfl, hI14012, hF14013, rfl⟩
        refine At.stn ?_
        have hF14016 := Fr.tr hF13990 hF14013 rfl rfl
        refine At.enter rfl ?_
        refine r_iload e13998 ?_
        refine r_iconst (-1) rfl ?_
        refine r_ics 56 rfl (fun c14017 => ?_) (fun c14017 => ?_)
        · have c14017_ : x13986.toInt = (-1) := en_i_eq_t c14017
          refine At.enter rfl ?_
          refine r_iload_n e13997 ?_
          refine r_iconst (-1) rfl ?_
          refine r_ics 73 rfl (fun c14018 => ?_) (fun c14018 => ?_)
          · have c14018_ : x13985.toInt = (-1) := en_i_eq_t c14018
            refine At.enter rfl ?_
            refine r_aload_n e13994 ?_
            obtain ⟨v14019, hv14019⟩ : ∃ v, gI g14011 176 2 = v := ⟨_, rfl⟩
            refine q_getI (Sh.int hI14012.1 kx_176 rfl) v14019 hv14019 ?_
            refine r_iconst (-1) rfl ?_
            refine r_ics 91 rfl (fun c14020 => ?_) (fun c14020 => ?_)
            · have c14020_ : v14019.toInt ≠ (-1) := en_i_ne_t c14020
              refine At.enter rfl ?_
              refine r_iconst (-1) rfl ?_
              refine Ar.fall 100 rfl ?_
              refine At.enter rfl ?_
              refine r_istore_n _ rfl ?_
              refine r_iload_n (w_e1 _ _ _) ?_
              refine r_iconst (-1) rfl ?_
              refine r_icf 106 rfl (by decide) ?_
              refine At.enter rfl ?_
              refine r_vret ?_
              exact ⟨_, rfl, hI14012, hF14016, rfl⟩
            · have c14020_ : v14019.toInt = (-1) := en_i_ne_f c14020
              refine At.enter rfl ?_
              refine r_aload_n e13994 ?_
              refine r_iload_n e13995 ?_
              refine r_callV 96 rfl [.ref 176, .int a1] [] (Nat.le_of_ble_eq_true rfl) rfl (T_X5_joinHere_176 _ hI14012 a1) ?_
              rintro _ _ ⟨g14021, rfl, hI14022, hF14023, v14024, rfl, hr14025⟩
              refine At.sti ?_
              have hF14026 := Fr.tr hF14016 hF14023 rfl rfl
              refine At.enter rfl ?_
              refine r_goto ?_
              refine At.enter rfl ?_
              refine r_istore_n _ rfl ?_
              refine r_iload_n (w_e1 _ _ _) ?_
              refine r_iconst (-1) rfl ?_
              refine r_ics 106 rfl (fun c14027 => ?_) (fun c14027 => ?_)
              · have c14027_ : v14024.toInt ≠ (-1) := en_i_ne_t c14027
                refine At.enter rfl ?_
                refine r_aload_n (w_p1 (by decide) (Or.inr rfl) e13994) ?_
                refine r_callV 111 rfl [.ref 176] [] (Nat.le_of_ble_eq_true rfl) rfl (T_X5_step_176 _ hI14022) ?_
                rintro _ _ ⟨g14028, rfl, hI14029, hF14030, rfl⟩
                refine At.stn ?_
                have hF14033 := Fr.tr hF14026 hF14030 rfl rfl
                refine At.enter rfl ?_
                refine r_iload_n (w_p1 (by decide) (Or.inr rfl) e13995) ?_
                refine r_ifs 115 rfl (fun c14034 => ?_) (fun c14034 => ?_)
                · have c14034_ : a1.toInt = 0 := en_k_eq_t c14034
                  refine At.enter rfl ?_
                  refine r_aload_n (w_p1 (by decide) (Or.inr rfl) e13994) ?_
                  refine q_getR (Sh.ref hI14029.1 kx_176 rfl) ?_
                  refine r_iload_n (w_e1 _ _ _) ?_
                  refine r_iconst 0 rfl ?_
                  refine r_callV 129 rfl [.ref 177, .int v14024, .int 0] [] (Nat.le_of_ble_eq_true rfl) rfl (T_X4_add_177 _ hI14029 v14024 0) ?_
                  rintro _ _ ⟨g14035, rfl, hI14036, hF14037, v14038, rfl, hr14039⟩
                  refine At.sti ?_
                  have hF14040 := Fr.tr hF14033 hF14037 rfl rfl
                  refine At.enter rfl ?_
                  refine r_goto ?_
                  refine At.enter rfl ?_
                  refine r_istore _ rfl ?_
                  refine q_iinc (w_p1 (by decide) (Or.inr rfl) (w_p1 (by decide) (Or.inr rfl) e13999)) (x13987.toInt + 1) rfl (by omega) (fun v14041 hv14041 => ?_)
                  refine r_goto ?_
                  exact ih13993 (400 - v14041.toInt) _ _ ⟨v14024, v14038, v14041, by first | rfl | omega, hI14036, hF14040, (w_p1 (by decide) (Or.inr rfl) (w_p1 (by decide) (Or.inr rfl) (w_p1 (by decide) (Or.inr rfl) e13994))), (w_p1 (by decide) (Or.inr rfl) (w_p1 (by decide) (Or.inr rfl) (w_p1 (by decide) (Or.inr rfl) e13995))), (w_p1 (by decide) (Or.inr rfl) (w_p1 (by decide) (Or.inr rfl) (w_p1 (by decide) (Or.inr rfl) e13996))), (w_p1 (by decide) (Or.inr rfl) (w_p1 (by decide) (Or.inr rfl) (w_e1 _ _ _))), (w_p1 (by decide) (Or.inr rfl) (w_e1 _ _ _)), (w_e1 _ _ _), by omega, by omega, by omega⟩ ⟨by omega, by omega⟩
                · have c14034_ : a1.toInt ≠ 0 := en_k_eq_f c14034
                  refine At.enter rfl ?_
                  refine r_iload_n (w_p1 (by decide) (Or.inr rfl) e13995) ?_
                  refine r_iconst 1 rfl ?_
                  refine r_ics 120 rfl (fun c14042 => ?_) (fun c14042 => ?_)
                  · have c14042_ : a1.toInt ≠ 1 := en_i_ne_t c14042
                    refine At.enter rfl ?_
                    refine r_iconst (-1) rfl ?_
                    refine Ar.fall 133 rfl ?_
                    refine At.enter rfl ?_
                    refine r_istore _ rfl ?_
                    refine q_iinc (w_p1 (by decide) (Or.inr rfl) (w_p1 (by decide) (Or.inr rfl) e13999)) (x13987.toInt + 1) rfl (by omega) (fun v14043 hv14043 => ?_)
                    refine r_goto ?_
                    exact ih13993 (400 - v14043.toInt) _ _ ⟨v14024, (-1), v14043, by first | rfl | omega, hI14029, hF14033, (w_p1 (by decide) (Or.inr rfl) (w_p1 (by decide) (Or.inr rfl) (w_p1 (by decide) (Or.inr rfl) e13994))), (w_p1 (by decide) (Or.inr rfl) (w_p1 (by decide) (Or.inr rfl) (w_p1 (by decide) (Or.inr rfl) e13995))), (w_p1 (by decide) (Or.inr rfl) (w_p1 (by decide) (Or.inr rfl) (w_p1 (by decide) (Or.inr rfl) e13996))), (w_p1 (by decide) (Or.inr rfl) (w_p1 (by decide) (Or.inr rfl) (w_e1 _ _ _))), (w_p1 (by decide) (Or.inr rfl) (w_e1 _ _ _)), (w_e1 _ _ _), by omega, by decide, by omega⟩ ⟨by omega, by omega⟩
                  · have c14042_ : a1.toInt = 1 := en_i_ne_f c14042
                    refine At.enter rfl ?_
                    refine r_aload_n (w_p1 (by decide) (Or.inr rfl) e13994) ?_
                    refine q_getR (Sh.ref hI14029.1 kx_176 rfl) ?_
                    refine r_iload_n (w_e1 _ _ _) ?_
                    refine r_iconst 0 rfl ?_
                    refine r_callV 129 rfl [.ref 177, .int v14024, .int 0] [] (Nat.le_of_ble_eq_true rfl) rfl (T_X4_add_177 _ hI14029 v14024 0) ?_
                    rintro _ _ ⟨g14044, rfl, hI14045, hF14046, v14047, rfl, hr14048⟩
                    refine At.sti ?_
                    have hF14049 := Fr.tr hF14033 hF14046 rfl rfl
                    refine At.enter rfl ?_
                    refine r_goto ?_
                    refine At.enter rfl ?_
                    refine r_istore _ rfl ?_
                    refine q_iinc (w_p1 (by decide) (Or.inr rfl) (w_p1 (by decide) (Or.inr rfl) e13999)) (x13987.toInt + 1) rfl (by omega) (fun v14050 hv14050 => ?_)
                    refine r_goto ?_
                    exact ih13993 (400 - v14050.toInt) _ _ ⟨v14024, v14047, v14050, by first | rfl | omega, hI14045, hF14049, (w_p1 (by decide) (Or.inr rfl) (w_p1 (by decide) (Or.inr rfl) (w_p1 (by decide) (Or.inr rfl) e13994))), (w_p1 (by decide) (Or.inr rfl) (w_p1 (by decide) (Or.inr rfl) (w_p1 (by decide) (Or.inr rfl) e13995))), (w_p1 (by decide) (Or.inr rfl) (w_p1 (by decide) (Or.inr rfl) (w_p1 (by decide) (Or.inr rfl) e13996))), (w_p1 (by decide) (Or.inr rfl) (w_p1 (by decide) (Or.inr rfl) (w_e1 _ _ _))), (w_p1 (by decide) (Or.inr rfl) (w_e1 _ _ _)), (w_e1 _ _ _), by omega, by omega, by omega⟩ ⟨by omega, by omega⟩
              · have c14027_ : v14024.toInt = (-1) := en_i_ne_f c14027
                refine At.enter rfl ?_
                refine r_vret ?_
                exact ⟨_, rfl, hI14022, hF14026, rfl⟩
          · have c14018_ : x13985.toInt ≠ (-1) := en_i_eq_f c14018
            refine At.enter rfl ?_
            refine r_aload_n e13994 ?_
            refine q_getR (Sh.ref hI14012.1 kx_176 rfl) ?_
            refine r_iload_n e13997 ?_
            refine r_iconst 0 rfl ?_
            refine r_callV 82 rfl [.ref 177, .int x13985, .int 0] [] (Nat.le_of_ble_eq_true rfl) rfl (T_X4_add_177 _ hI14012 x13985 0) ?_
            rintro _ _ ⟨g14051, rfl, hI14052, hF14053, v14054, rfl, hr14055⟩
            refine At.sti ?_
            have hF14056 := Fr.tr hF14016 hF14053 rfl rfl
            refine At.enter rfl ?_
            refine r_pop rfl ?_
            refine Ar.fall 83 rfl ?_
            refine At.enter rfl ?_
            refine r_aload_n e13994 ?_
            obtain ⟨v14057, hv14057⟩ : ∃ v, gI g14011 176 2 = v := ⟨_, rfl⟩
            refine q_getI (Sh.int hI14052.1 kx_176 rfl) v14057 ((hF14053.1 176 2 (by decide)).trans hv14057) ?_
            refine r_iconst (-1) rfl ?_
            refine r_ics 91 rfl (fun c14058 => ?_) (fun c14058 => ?_)
            · have c14058_ : v14057.toInt ≠ (-1) := en_i_ne_t c14058
              refine At.enter rfl ?_
              refine r_iconst (-1) rfl ?_
              refine Ar.fall 100 rfl ?_
              refine At.enter rfl ?_
              refine r_istore_n _ rfl ?_
              refine r_iload_n (w_e1 _ _ _) ?_
              refine r_iconst (-1) rfl ?_
              refine r_icf 106 rfl (by decide) ?_
              refine At.enter rfl ?_
              refine r_vret ?_
              exact ⟨_, rfl, hI14052, hF14056, rfl⟩
            · have c14058_ : v14057.toInt = (-1) := en_i_ne_f c14058
              refine At.enter rfl ?_
              refine r_aload_n e13994 ?_
              refine r_iload_n e13995 ?_
              refine r_callV 96 rfl [.ref 176, .int a1] [] (Nat.le_of_ble_eq_true rfl) rfl (T_X5_joinHere_176 _ hI14052 a1) ?_
              rintro _ _ ⟨g14059, rfl, hI14060, hF14061, v14062, rfl, hr14063⟩
              refine At.sti ?_
              have hF14064 := Fr.tr hF14056 hF14061 rfl rfl
              refine At.enter rfl ?_
              refine r_goto ?_
              refine At.enter rfl ?_
              refine r_istore_n _ rfl ?_
              refine r_iload_n (w_e1 _ _ _) ?_
              refine r_iconst (-1) rfl ?_
              refine r_ics 106 rfl (fun c14065 => ?_) (fun c14065 => ?_)
              · have c14065_ : v14062.toInt ≠ (-1) := en_i_ne_t c14065
                refine At.enter rfl ?_
                refine r_aload_n (w_p1 (by decide) (Or.inr rfl) e13994) ?_
                refine r_callV 111 rfl [.ref 176] [] (Nat.le_of_ble_eq_true rfl) rfl (T_X5_step_176 _ hI14060) ?_
                rintro _ _ ⟨g14066, rfl, hI14067, hF14068, rfl⟩
                refine At.stn ?_
                have hF14071 := Fr.tr hF14064 hF14068 rfl rfl
                refine At.enter rfl ?_
                refine r_iload_n (w_p1 (by decide) (Or.inr rfl) e13995) ?_
                refine r_ifs 115 rfl (fun c14072 => ?_) (fun c14072 => ?_)
                · have c14072_ : a1.toInt = 0 := en_k_eq_t c14072
                  refine At.enter rfl ?_
                  refine r_aload_n (w_p1 (by decide) (Or.inr rfl) e13994) ?_
                  refine q_getR (Sh.ref hI14067.1 kx_176 rfl) ?_
                  refine r_iload_n (w_e1 _ _ _) ?_
                  refine r_iconst 0 rfl ?_
                  refine r_callV 129 rfl [.ref 177, .int v14062, .int 0] [] (Nat.le_of_ble_eq_true rfl) rfl (T_X4_add_177 _ hI14067 v14062 0) ?_
                  rintro _ _ ⟨g14073, rfl, hI14074, hF14075, v14076, rfl, hr14077⟩
                  refine At.sti ?_
                  have hF14078 := Fr.tr hF14071 hF14075 rfl rfl
                  refine At.enter rfl ?_
                  refine r_goto ?_
                  refine At.enter rfl ?_
                  refine r_istore _ rfl ?_
                  refine q_iinc (w_p1 (by decide) (Or.inr rfl) (w_p1 (by decide) (Or.inr rfl) e13999)) (x13987.toInt + 1) rfl (by omega) (fun v14079 hv14079 => ?_)
                  refine r_goto ?_
                  exact ih13993 (400 - v14079.toInt) _ _ ⟨v14062, v14076, v14079, by first | rfl | omega, hI14074, hF14078, (w_p1 (by decide) (Or.inr rfl) (w_p1 (by decide) (Or.inr rfl) (w_p1 (by decide) (Or.inr rfl) e13994))), (w_p1 (by decide) (Or.inr rfl) (w_p1 (by decide) (Or.inr rfl) (w_p1 (by decide) (Or.inr rfl) e13995))), (w_p1 (by decide) (Or.inr rfl) (w_p1 (by decide) (Or.inr rfl) (w_p1 (by decide) (Or.inr rfl) e13996))), (w_p1 (by decide) (Or.inr rfl) (w_p1 (by decide) (Or.inr rfl) (w_e1 _ _ _))), (w_p1 (by decide) (Or.inr rfl) (w_e1 _ _ _)), (w_e1 _ _ _), by omega, by omega, by omega⟩ ⟨by omega, by omega⟩
                · have c14072_ : a1.toInt ≠ 0 := en_k_eq_f c14072
                  refine At.enter rfl ?_
                  refine r_iload_n (w_p1 (by decide) (Or.inr rfl) e13995) ?_
                  refine r_iconst 1 rfl ?_
                  refine r_ics 120 rfl (fun c14080 => ?_) (fun c14080 => ?_)
                  · have c14080_ : a1.toInt ≠ 1 := en_i_ne_t c14080
                    refine At.enter rfl ?_
                    refine r_iconst (-1) rfl ?_
                    refine Ar.fall 133 rfl ?_
                    refine At.enter rfl ?_
                    refine r_istore _ rfl ?_
                    refine q_iinc (w_p1 (by decide) (Or.inr rfl) (w_p1 (by decide) (Or.inr rfl) e13999)) (x13987.toInt + 1) rfl (by omega) (fun v14081 hv14081 => ?_)
                    refine r_goto ?_
                    exact ih13993 (400 - v14081.toInt) _ _ ⟨v14062, (-1), v14081, by first | rfl | omega, hI14067, hF14071, (w_p1 (by decide) (Or.inr rfl) (w_p1 (by decide) (Or.inr rfl) (w_p1 (by decide) (Or.inr rfl) e13994))), (w_p1 (by decide) (Or.inr rfl) (w_p1 (by decide) (Or.inr rfl) (w_p1 (by decide) (Or.inr rfl) e13995))), (w_p1 (by decide) (Or.inr rfl) (w_p1 (by decide) (Or.inr rfl) (w_p1 (by decide) (Or.inr rfl) e13996))), (w_p1 (by decide) (Or.inr rfl) (w_p1 (by decide) (Or.inr rfl) (w_e1 _ _ _))), (w_p1 (by decide) (Or.inr rfl) (w_e1 _ _ _)), (w_e1 _ _ _), by omega, by decide, by omega⟩ ⟨by omega, by omega⟩
                  · have c14080_ : a1.toInt = 1 := en_i_ne_f c14080
                    refine At.enter rfl ?_
                    refine r_aload_n (w_p1 (by decide) (Or.inr rfl) e13994) ?_
                    refine q_getR (Sh.ref hI14067.1 kx_176 rfl) ?_
                    refine r_iload_n (w_e1 _ _ _) ?_
                    refine r_iconst 0 rfl ?_
                    refine r_callV 129 rfl [.ref 177, .int v14062, .int 0] [] (Nat.le_of_ble_eq_true rfl) rfl (T_X4_add_177 _ hI14067 v14062 0) ?_
                    rintro _ _ ⟨g14082, rfl, hI14083, hF14084, v14085, rfl, hr14086⟩
                    refine At.sti ?_
                    have hF14087 := Fr.tr hF14071 hF14084 rfl rfl
                    refine At.enter rfl ?_
                    refine r_goto ?_
                    refine At.enter rfl ?_
                    refine r_istore _ rfl ?_
                    refine q_iinc (w_p1 (by decide) (Or.inr rfl) (w_p1 (by decide) (Or.inr rfl) e13999)) (x13987.toInt + 1) rfl (by omega) (fun v14088 hv14088 => ?_)
                    refine r_goto ?_
                    exact ih13993 (400 - v14088.toInt) _ _ ⟨v14062, v14085, v14088, by first | rfl | omega, hI14083, hF14087, (w_p1 (by decide) (Or.inr rfl) (w_p1 (by decide) (Or.inr rfl) (w_p1 (by decide) (Or.inr rfl) e13994))), (w_p1 (by decide) (Or.inr rfl) (w_p1 (by decide) (Or.inr rfl) (w_p1 (by decide) (Or.inr rfl) e13995))), (w_p1 (by decide) (Or.inr rfl) (w_p1 (by decide) (Or.inr rfl) (w_p1 (by decide) (Or.inr rfl) e13996))), (w_p1 (by decide) (Or.inr rfl) (w_p1 (by decide) (Or.inr rfl) (w_e1 _ _ _))), (w_p1 (by decide) (Or.inr rfl) (w_e1 _ _ _)), (w_e1 _ _ _), by omega, by omega, by omega⟩ ⟨by omega, by omega⟩
              · have c14065_ : v14062.toInt = (-1) := en_i_ne_f c14065
                refine At.enter rfl ?_
                refine r_vret ?_
                exact ⟨_, rfl, hI14060, hF14064, rfl⟩
        · have c14017_ : x13986.toInt ≠ (-1) := en_i_eq_f c14017
          refine At.enter rfl ?_
          refine r_aload_n e13994 ?_
          refine q_getR (Sh.ref hI14012.1 kx_176 rfl) ?_
          refine r_iload e13998 ?_
          refine r_callV 65 rfl [.ref 177, .int x13986] [] (Nat.le_of_ble_eq_true rfl) rfl (T_X4_aimAtEnd_177 _ hI14012 x13986) ?_
          rintro _ _ ⟨g14089, rfl, hI14090, hF14091, rfl⟩
          refine At.stn ?_
          have hF14094 := Fr.tr hF14016 hF14091 rfl rfl
          refine At.enter rfl ?_
          refine r_goto ?_
          refine At.enter rfl ?_
          refine r_aload_n e13994 ?_
          obtain ⟨v14095, hv14095⟩ : ∃ v, gI g14011 176 2 = v := ⟨_, rfl⟩
          refine q_getI (Sh.int hI14090.1 kx_176 rfl) v14095 ((hF14091.1 176 2 (by decide)).trans hv14095) ?_
          refine r_iconst (-1) rfl ?_
          refine r_ics 91 rfl (fun c14096 => ?_) (fun c14096 => ?_)
          · have c14096_ : v14095.toInt ≠ (-1) := en_i_ne_t c14096
            refine At.enter rfl ?_
            refine r_iconst (-1) rfl ?_
            refine Ar.fall 100 rfl ?_
            refine At.enter rfl ?_
            refine r_istore_n _ rfl ?_
            refine r_iload_n (w_e1 _ _ _) ?_
            refine r_iconst (-1) rfl ?_
            refine r_icf 106 rfl (by decide) ?_
            refine At.enter rfl ?_
            refine r_vret ?_
            exact ⟨_, rfl, hI14090, hF14094, rfl⟩
          · have c14096_ : v14095.toInt = (-1) := en_i_ne_f c14096
            refine At.enter rfl ?_
            refine r_aload_n e13994 ?_
            refine r_iload_n e13995 ?_
            refine r_callV 96 rfl [.ref 176, .int a1] [] (Nat.le_of_ble_eq_true rfl) rfl (T_X5_joinHere_176 _ hI14090 a1) ?_
            rintro _ _ ⟨g14097, rfl, hI14098, hF14099, v14100, rfl, hr14101⟩
            refine At.sti ?_
            have hF14102 := Fr.tr hF14094 hF14099 rfl rfl
            refine At.enter rfl ?_
            refine r_goto ?_
            refine At.enter rfl ?_
            refine r_istore_n _ rfl ?_
            refine r_iload_n (w_e1 _ _ _) ?_
            refine r_iconst (-1) rfl ?_
            refine r_ics 106 rfl (fun c14103 => ?_) (fun c14103 => ?_)
            · have c14103_ : v14100.toInt ≠ (-1) := en_i_ne_t c14103
              refine At.enter rfl ?_
              refine r_aload_n (w_p1 (by decide) (Or.inr rfl) e13994) ?_
              refine r_callV 111 rfl [.ref 176] [] (Nat.le_of_ble_eq_true rfl) rfl (T_X5_step_176 _ hI14098) ?_
              rintro _ _ ⟨g14104, rfl, hI14105, hF14106, rfl⟩
              refine At.stn ?_
              have hF14109 := Fr.tr hF14102 hF14106 rfl rfl
              refine At.enter rfl ?_
              refine r_iload_n (w_p1 (by decide) (Or.inr rfl) e13995) ?_
              refine r_ifs 115 rfl (fun c14110 => ?_) (fun c14110 => ?_)
              · have c14110_ : a1.toInt = 0 := en_k_eq_t c14110
                refine At.enter rfl ?_
                refine r_aload_n (w_p1 (by decide) (Or.inr rfl) e13994) ?_
                refine q_getR (Sh.ref hI14105.1 kx_176 rfl) ?_
                refine r_iload_n (w_e1 _ _ _) ?_
                refine r_iconst 0 rfl ?_
                refine r_callV 129 rfl [.ref 177, .int v14100, .int 0] [] (Nat.le_of_ble_eq_true rfl) rfl (T_X4_add_177 _ hI14105 v14100 0) ?_
                rintro _ _ ⟨g14111, rfl, hI14112, hF14113, v14114, rfl, hr14115⟩
                refine At.sti ?_
                have hF14116 := Fr.tr hF14109 hF14113 rfl rfl
                refine At.enter rfl ?_
                refine r_goto ?_
                refine At.enter rfl ?_
                refine r_istore _ rfl ?_
                refine q_iinc (w_p1 (by decide) (Or.inr rfl) (w_p1 (by decide) (Or.inr rfl) e13999)) (x13987.toInt + 1) rfl (by omega) (fun v14117 hv14117 => ?_)
                refine r_goto ?_
                exact ih13993 (400 - v14117.toInt) _ _ ⟨v14100, v14114, v14117, by first | rfl | omega, hI14112, hF14116, (w_p1 (by decide) (Or.inr rfl) (w_p1 (by decide) (Or.inr rfl) (w_p1 (by decide) (Or.inr rfl) e13994))), (w_p1 (by decide) (Or.inr rfl) (w_p1 (by decide) (Or.inr rfl) (w_p1 (by decide) (Or.inr rfl) e13995))), (w_p1 (by decide) (Or.inr rfl) (w_p1 (by decide) (Or.inr rfl) (w_p1 (by decide) (Or.inr rfl) e13996))), (w_p1 (by decide) (Or.inr rfl) (w_p1 (by decide) (Or.inr rfl) (w_e1 _ _ _))), (w_p1 (by decide) (Or.inr rfl) (w_e1 _ _ _)), (w_e1 _ _ _), by omega, by omega, by omega⟩ ⟨by omega, by omega⟩
              · have c14110_ : a1.toInt ≠ 0 := en_k_eq_f c14110
                refine At.enter rfl ?_
                refine r_iload_n (w_p1 (by decide) (Or.inr rfl) e13995) ?_
                refine r_iconst 1 rfl ?_
                refine r_ics 120 rfl (fun c14118 => ?_) (fun c14118 => ?_)
                · have c14118_ : a1.toInt ≠ 1 := en_i_ne_t c14118
                  refine At.enter rfl ?_
                  refine r_iconst (-1) rfl ?_
                  refine Ar.fall 133 rfl ?_
                  refine At.enter rfl ?_
                  refine r_istore _ rfl ?_
                  refine q_iinc (w_p1 (by decide) (Or.inr rfl) (w_p1 (by decide) (Or.inr rfl) e13999)) (x13987.toInt + 1) rfl (by omega) (fun v14119 hv14119 => ?_)
                  refine r_goto ?_
                  exact ih13993 (400 - v14119.toInt) _ _ ⟨v14100, (-1), v14119, by first | rfl | omega, hI14105, hF14109, (w_p1 (by decide) (Or.inr rfl) (w_p1 (by decide) (Or.inr rfl) (w_p1 (by decide) (Or.inr rfl) e13994))), (w_p1 (by decide) (Or.inr rfl) (w_p1 (by decide) (Or.inr rfl) (w_p1 (by decide) (Or.inr rfl) e13995))), (w_p1 (by decide) (Or.inr rfl) (w_p1 (by decide) (Or.inr rfl) (w_p1 (by decide) (Or.inr rfl) e13996))), (w_p1 (by decide) (Or.inr rfl) (w_p1 (by decide) (Or.inr rfl) (w_e1 _ _ _))), (w_p1 (by decide) (Or.inr rfl) (w_e1 _ _ _)), (w_e1 _ _ _), by omega, by decide, by omega⟩ ⟨by omega, by omega⟩
                · have c14118_ : a1.toInt = 1 := en_i_ne_f c14118
                  refine At.enter rfl ?_
                  refine r_aload_n (w_p1 (by decide) (Or.inr rfl) e13994) ?_
                  refine q_getR (Sh.ref hI14105.1 kx_176 rfl) ?_
                  refine r_iload_n (w_e1 _ _ _) ?_
                  refine r_iconst 0 rfl ?_
                  refine r_callV 129 rfl [.ref 177, .int v14100, .int 0] [] (Nat.le_of_ble_eq_true rfl) rfl (T_X4_add_177 _ hI14105 v14100 0) ?_
                  rintro _ _ ⟨g14120, rfl, hI14121, hF14122, v14123, rfl, hr14124⟩
                  refine At.sti ?_
                  have hF14125 := Fr.tr hF14109 hF14122 rfl rfl
                  refine At.enter rfl ?_
                  refine r_goto ?_
                  refine At.enter rfl ?_
                  refine r_istore _ rfl ?_
                  refine q_iinc (w_p1 (by decide) (Or.inr rfl) (w_p1 (by decide) (Or.inr rfl) e13999)) (x13987.toInt + 1) rfl (by omega) (fun v14126 hv14126 => ?_)
                  refine r_goto ?_
                  exact ih13993 (400 - v14126.toInt) _ _ ⟨v14100, v14123, v14126, by first | rfl | omega, hI14121, hF14125, (w_p1 (by decide) (Or.inr rfl) (w_p1 (by decide) (Or.inr rfl) (w_p1 (by decide) (Or.inr rfl) e13994))), (w_p1 (by decide) (Or.inr rfl) (w_p1 (by decide) (Or.inr rfl) (w_p1 (by decide) (Or.inr rfl) e13995))), (w_p1 (by decide) (Or.inr rfl) (w_p1 (by decide) (Or.inr rfl) (w_p1 (by decide) (Or.inr rfl) e13996))), (w_p1 (by decide) (Or.inr rfl) (w_p1 (by decide) (Or.inr rfl) (w_e1 _ _ _))), (w_p1 (by decide) (Or.inr rfl) (w_e1 _ _ _)), (w_e1 _ _ _), by omega, by omega, by omega⟩ ⟨by omega, by omega⟩
            · have c14103_ : v14100.toInt = (-1) := en_i_ne_f c14103
              refine At.enter rfl ?_
              refine r_vret ?_
              exact ⟨_, rfl, hI14098, hF14102, rfl⟩
      · have c14009_ : a1.toInt = 3 := en_i_ne_f c14009
        refine At.enter rfl ?_
        refine r_aload_n e13994 ?_
        refine r_iload_n e13996 ?_
        refine r_callV 39 rfl [.ref 176, .int a2] [] (Nat.le_of_ble_eq_true rfl) rfl (IHT _ (by omega) hI13989 a2 (by omega) (by omega)) ?_
        rintro _ _ ⟨g14127, rfl, hI14128, hF14129, rfl⟩
        refine At.stn ?_
        have hF14132 := Fr.tr hF13990 hF14129 rfl rfl
        refine At.enter rfl ?_
        refine r_goto ?_
        refine At.enter rfl ?_
        refine r_iload e13998 ?_
        refine r_iconst (-1) rfl ?_
        refine r_ics 56 rfl (fun c14133 => ?_) (fun c14133 => ?_)
        · have c14133_ : x13986.toInt = (-1) := en_i_eq_t c14133
          refine At.enter rfl ?_
          refine r_iload_n e13997 ?_
          refine r_iconst (-1) rfl ?_
          refine r_ics 73 rfl (fun c14134 => ?_) (fun c14134 => ?_)
          · have c14134_ : x13985.toInt = (-1) := en_i_eq_t c14134
            refine At.enter rfl ?_
            refine r_aload_n e13994 ?_
            obtain ⟨v14135, hv14135⟩ : ∃ v, gI g14127 176 2 = v := ⟨_, rfl⟩
            refine q_getI (Sh.int hI14128.1 kx_176 rfl) v14135 hv14135 ?_
            refine r_iconst (-1) rfl ?_
            refine r_ics 91 rfl (fun c14136 => ?_) (fun c14136 => ?_)
            · have c14136_ : v14135.toInt ≠ (-1) := en_i_ne_t c14136
              refine At.enter rfl ?_
              refine r_iconst (-1) rfl ?_
              refine Ar.fall 100 rfl ?_
              refine At.enter rfl ?_
              refine r_istore_n _ rfl ?_
              refine r_iload_n (w_e1 _ _ _) ?_
              refine r_iconst (-1) rfl ?_
              refine r_icf 106 rfl (by decide) ?_
              refine At.enter rfl ?_
              refine r_vret ?_
              exact ⟨_, rfl, hI14128, hF14132, rfl⟩
            · have c14136_ : v14135.toInt = (-1) := en_i_ne_f c14136
              refine At.enter rfl ?_
              refine r_aload_n e13994 ?_
              refine r_iload_n e13995 ?_
              refine r_callV 96 rfl [.ref 176, .int a1] [] (Nat.le_of_ble_eq_true rfl) rfl (T_X5_joinHere_176 _ hI14128 a1) ?_
              rintro _ _ ⟨g14137, rfl, hI14138, hF14139, v14140, rfl, hr14141⟩
              refine At.sti ?_
              have hF14142 := Fr.tr hF14132 hF14139 rfl rfl
              refine At.enter rfl ?_
              refine r_goto ?_
              refine At.enter rfl ?_
              refine r_istore_n _ rfl ?_
              refine r_iload_n (w_e1 _ _ _) ?_
              refine r_iconst (-1) rfl ?_
              refine r_ics 106 rfl (fun c14143 => ?_) (fun c14143 => ?_)
              · have c14143_ : v14140.toInt ≠ (-1) := en_i_ne_t c14143
                refine At.enter rfl ?_
                refine r_aload_n (w_p1 (by decide) (Or.inr rfl) e13994) ?_
                refine r_callV 111 rfl [.ref 176] [] (Nat.le_of_ble_eq_true rfl) rfl (T_X5_step_176 _ hI14138) ?_
                rintro _ _ ⟨g14144, rfl, hI14145, hF14146, rfl⟩
                refine At.stn ?_
                have hF14149 := Fr.tr hF14142 hF14146 rfl rfl
                refine At.enter rfl ?_
                refine r_iload_n (w_p1 (by decide) (Or.inr rfl) e13995) ?_
                refine r_ifs 115 rfl (fun c14150 => ?_) (fun c14150 => ?_)
                · have c14150_ : a1.toInt = 0 := en_k_eq_t c14150
                  exfalso; omega
                · have c14150_ : a1.toInt ≠ 0 := en_k_eq_f c14150
                  refine At.enter rfl ?_
                  refine r_iload_n (w_p1 (by decide) (Or.inr rfl) e13995) ?_
                  refine r_iconst 1 rfl ?_
                  refine r_ics 120 rfl (fun c14151 => ?_) (fun c14151 => ?_)
                  · have c14151_ : a1.toInt ≠ 1 := en_i_ne_t c14151
                    refine At.enter rfl ?_
                    refine r_iconst (-1) rfl ?_
                    refine Ar.fall 133 rfl ?_
                    refine At.enter rfl ?_
                    refine r_istore _ rfl ?_
                    refine q_iinc (w_p1 (by decide) (Or.inr rfl) (w_p1 (by decide) (Or.inr rfl) e13999)) (x13987.toInt + 1) rfl (by omega) (fun v14152 hv14152 => ?_)
                    refine r_goto ?_
                    exact ih13993 (400 - v14152.toInt) _ _ ⟨v14140, (-1), v14152, by first | rfl | omega, hI14145, hF14149, (w_p1 (by decide) (Or.inr rfl) (w_p1 (by decide) (Or.inr rfl) (w_p1 (by decide) (Or.inr rfl) e13994))), (w_p1 (by decide) (Or.inr rfl) (w_p1 (by decide) (Or.inr rfl) (w_p1 (by decide) (Or.inr rfl) e13995))), (w_p1 (by decide) (Or.inr rfl) (w_p1 (by decide) (Or.inr rfl) (w_p1 (by decide) (Or.inr rfl) e13996))), (w_p1 (by decide) (Or.inr rfl) (w_p1 (by decide) (Or.inr rfl) (w_e1 _ _ _))), (w_p1 (by decide) (Or.inr rfl) (w_e1 _ _ _)), (w_e1 _ _ _), by omega, by decide, by omega⟩ ⟨by omega, by omega⟩
                  · have c14151_ : a1.toInt = 1 := en_i_ne_f c14151
                    exfalso; omega
              · have c14143_ : v14140.toInt = (-1) := en_i_ne_f c14143
                refine At.enter rfl ?_
                refine r_vret ?_
                exact ⟨_, rfl, hI14138, hF14142, rfl⟩
          · have c14134_ : x13985.toInt ≠ (-1) := en_i_eq_f c14134
            refine At.enter rfl ?_
            refine r_aload_n e13994 ?_
            refine q_getR (Sh.ref hI14128.1 kx_176 rfl) ?_
            refine r_iload_n e13997 ?_
            refine r_iconst 0 rfl ?_
            refine r_callV 82 rfl [.ref 177, .int x13985, .int 0] [] (Nat.le_of_ble_eq_true rfl) rfl (T_X4_add_177 _ hI14128 x13985 0) ?_
            rintro _ _ ⟨g14153, rfl, hI14154, hF14155, v14156, rfl, hr14157⟩
            refine At.sti ?_
            have hF14158 := Fr.tr hF14132 hF14155 rfl rfl
            refine At.enter rfl ?_
            refine r_pop rfl ?_
            refine Ar.fall 83 rfl ?_
            refine At.enter rfl ?_
            refine r_aload_n e13994 ?_
            obtain ⟨v14159, hv14159⟩ : ∃ v, gI g14127 176 2 = v := ⟨_, rfl⟩
            refine q_getI (Sh.int hI14154.1 kx_176 rfl) v14159 ((hF14155.1 176 2 (by decide)).trans hv14159) ?_
            refine r_iconst (-1) rfl ?_
            refine r_ics 91 rfl (fun c14160 => ?_) (fun c14160 => ?_)
            · have c14160_ : v14159.toInt ≠ (-1) := en_i_ne_t c14160
              refine At.enter rfl ?_
              refine r_iconst (-1) rfl ?_
              refine Ar.fall 100 rfl ?_
              refine At.enter rfl ?_
              refine r_istore_n _ rfl ?_
              refine r_iload_n (w_e1 _ _ _) ?_
              refine r_iconst (-1) rfl ?_
              refine r_icf 106 rfl (by decide) ?_
              refine At.enter rfl ?_
              refine r_vret ?_
              exact ⟨_, rfl, hI14154, hF14158, rfl⟩
            · have c14160_ : v14159.toInt = (-1) := en_i_ne_f c14160
              refine At.enter rfl ?_
              refine r_aload_n e13994 ?_
              refine r_iload_n e13995 ?_
              refine r_callV 96 rfl [.ref 176, .int a1] [] (Nat.le_of_ble_eq_true rfl) rfl (T_X5_joinHere_176 _ hI14154 a1) ?_
              rintro _ _ ⟨g14161, rfl, hI14162, hF14163, v14164, rfl, hr14165⟩
              refine At.sti ?_
              have hF14166 := Fr.tr hF14158 hF14163 rfl rfl
              refine At.enter rfl ?_
              refine r_goto ?_
              refine At.enter rfl ?_
              refine r_istore_n _ rfl ?_
              refine r_iload_n (w_e1 _ _ _) ?_
              refine r_iconst (-1) rfl ?_
              refine r_ics 106 rfl (fun c14167 => ?_) (fun c14167 => ?_)
              · have c14167_ : v14164.toInt ≠ (-1) := en_i_ne_t c14167
                refine At.enter rfl ?_
                refine r_aload_n (w_p1 (by decide) (Or.inr rfl) e13994) ?_
                refine r_callV 111 rfl [.ref 176] [] (Nat.le_of_ble_eq_true rfl) rfl (T_X5_step_176 _ hI14162) ?_
                rintro _ _ ⟨g14168, rfl, hI14169, hF14170, rfl⟩
                refine At.stn ?_
                have hF14173 := Fr.tr hF14166 hF14170 rfl rfl
                refine At.enter rfl ?_
                refine r_iload_n (w_p1 (by decide) (Or.inr rfl) e13995) ?_
                refine r_ifs 115 rfl (fun c14174 => ?_) (fun c14174 => ?_)
                · have c14174_ : a1.toInt = 0 := en_k_eq_t c14174
                  exfalso; omega
                · have c14174_ : a1.toInt ≠ 0 := en_k_eq_f c14174
                  refine At.enter rfl ?_
                  refine r_iload_n (w_p1 (by decide) (Or.inr rfl) e13995) ?_
                  refine r_iconst 1 rfl ?_
                  refine r_ics 120 rfl (fun c14175 => ?_) (fun c14175 => ?_)
                  · have c14175_ : a1.toInt ≠ 1 := en_i_ne_t c14175
                    refine At.enter rfl ?_
                    refine r_iconst (-1) rfl ?_
                    refine Ar.fall 133 rfl ?_
                    refine At.enter rfl ?_
                    refine r_istore _ rfl ?_
                    refine q_iinc (w_p1 (by decide) (Or.inr rfl) (w_p1 (by decide) (Or.inr rfl) e13999)) (x13987.toInt + 1) rfl (by omega) (fun v14176 hv14176 => ?_)
                    refine r_goto ?_
                    exact ih13993 (400 - v14176.toInt) _ _ ⟨v14164, (-1), v14176, by first | rfl | omega, hI14169, hF14173, (w_p1 (by decide) (Or.inr rfl) (w_p1 (by decide) (Or.inr rfl) (w_p1 (by decide) (Or.inr rfl) e13994))), (w_p1 (by decide) (Or.inr rfl) (w_p1 (by decide) (Or.inr rfl) (w_p1 (by decide) (Or.inr rfl) e13995))), (w_p1 (by decide) (Or.inr rfl) (w_p1 (by decide) (Or.inr rfl) (w_p1 (by decide) (Or.inr rfl) e13996))), (w_p1 (by decide) (Or.inr rfl) (w_p1 (by decide) (Or.inr rfl) (w_e1 _ _ _))), (w_p1 (by decide) (Or.inr rfl) (w_e1 _ _ _)), (w_e1 _ _ _), by omega, by decide, by omega⟩ ⟨by omega, by omega⟩
                  · have c14175_ : a1.toInt = 1 := en_i_ne_f c14175
                    exfalso; omega
              · have c14167_ : v14164.toInt = (-1) := en_i_ne_f c14167
                refine At.enter rfl ?_
                refine r_vret ?_
                exact ⟨_, rfl, hI14162, hF14166, rfl⟩
        · have c14133_ : x13986.toInt ≠ (-1) := en_i_eq_f c14133
          refine At.enter rfl ?_
          refine r_aload_n e13994 ?_
          refine q_getR (Sh.ref hI14128.1 kx_176 rfl) ?_
          refine r_iload e13998 ?_
          refine r_callV 65 rfl [.ref 177, .int x13986] [] (Nat.le_of_ble_eq_true rfl) rfl (T_X4_aimAtEnd_177 _ hI14128 x13986) ?_
          rintro _ _ ⟨g14177, rfl, hI14178, hF14179, rfl⟩
          refine At.stn ?_
          have hF14182 := Fr.tr hF14132 hF14179 rfl rfl
          refine At.enter rfl ?_
          refine r_goto ?_
          refine At.enter rfl ?_
          refine r_aload_n e13994 ?_
          obtain ⟨v14183, hv14183⟩ : ∃ v, gI g14127 176 2 = v := ⟨_, rfl⟩
          refine q_getI (Sh.int hI14178.1 kx_176 rfl) v14183 ((hF14179.1 176 2 (by decide)).trans hv14183) ?_
          refine r_iconst (-1) rfl ?_
          refine r_ics 91 rfl (fun c14184 => ?_) (fun c14184 => ?_)
          · have c14184_ : v14183.toInt ≠ (-1) := en_i_ne_t c14184
            refine At.enter rfl ?_
            refine r_iconst (-1) rfl ?_
            refine Ar.fall 100 rfl ?_
            refine At.enter rfl ?_
            refine r_istore_n _ rfl ?_
            refine r_iload_n (w_e1 _ _ _) ?_
            refine r_iconst (-1) rfl ?_
            refine r_icf 106 rfl (by decide) ?_
            refine At.enter rfl ?_
            refine r_vret ?_
            exact ⟨_, rfl, hI14178, hF14182, rfl⟩
          · have c14184_ : v14183.toInt = (-1) := en_i_ne_f c14184
            refine At.enter rfl ?_
            refine r_aload_n e13994 ?_
            refine r_iload_n e13995 ?_
            refine r_callV 96 rfl [.ref 176, .int a1] [] (Nat.le_of_ble_eq_true rfl) rfl (T_X5_joinHere_176 _ hI14178 a1) ?_
            rintro _ _ ⟨g14185, rfl, hI14186, hF14187, v14188, rfl, hr14189⟩
            refine At.sti ?_
            have hF14190 := Fr.tr hF14182 hF14187 rfl rfl
            refine At.enter rfl ?_
            refine r_goto ?_
            refine At.enter rfl ?_
            refine r_istore_n _ rfl ?_
            refine r_iload_n (w_e1 _ _ _) ?_
            refine r_iconst (-1) rfl ?_
            refine r_ics 106 rfl (fun c14191 => ?_) (fun c14191 => ?_)
            · have c14191_ : v14188.toInt ≠ (-1) := en_i_ne_t c14191
              refine At.enter rfl ?_
              refine r_aload_n (w_p1 (by decide) (Or.inr rfl) e13994) ?_
              refine r_callV 111 rfl [.ref 176] [] (Nat.le_of_ble_eq_true rfl) rfl (T_X5_step_176 _ hI14186) ?_
              rintro _ _ ⟨g14192, rfl, hI14193, hF14194, rfl⟩
              refine At.stn ?_
              have hF14197 := Fr.tr hF14190 hF14194 rfl rfl
              refine At.enter rfl ?_
              refine r_iload_n (w_p1 (by decide) (Or.inr rfl) e13995) ?_
              refine r_ifs 115 rfl (fun c14198 => ?_) (fun c14198 => ?_)
              · have c14198_ : a1.toInt = 0 := en_k_eq_t c14198
                exfalso; omega
              · have c14198_ : a1.toInt ≠ 0 := en_k_eq_f c14198
                refine At.enter rfl ?_
                refine r_iload_n (w_p1 (by decide) (Or.inr rfl) e13995) ?_
                refine r_iconst 1 rfl ?_
                refine r_ics 120 rfl (fun c14199 => ?_) (fun c14199 => ?_)
                · have c14199_ : a1.toInt ≠ 1 := en_i_ne_t c14199
                  refine At.enter rfl ?_
                  refine r_iconst (-1) rfl ?_
                  refine Ar.fall 133 rfl ?_
                  refine At.enter rfl ?_
                  refine r_istore _ rfl ?_
                  refine q_iinc (w_p1 (by decide) (Or.inr rfl) (w_p1 (by decide) (Or.inr rfl) e13999)) (x13987.toInt + 1) rfl (by omega) (fun v14200 hv14200 => ?_)
                  refine r_goto ?_
                  exact ih13993 (400 - v14200.toInt) _ _ ⟨v14188, (-1), v14200, by first | rfl | omega, hI14193, hF14197, (w_p1 (by decide) (Or.inr rfl) (w_p1 (by decide) (Or.inr rfl) (w_p1 (by decide) (Or.inr rfl) e13994))), (w_p1 (by decide) (Or.inr rfl) (w_p1 (by decide) (Or.inr rfl) (w_p1 (by decide) (Or.inr rfl) e13995))), (w_p1 (by decide) (Or.inr rfl) (w_p1 (by decide) (Or.inr rfl) (w_p1 (by decide) (Or.inr rfl) e13996))), (w_p1 (by decide) (Or.inr rfl) (w_p1 (by decide) (Or.inr rfl) (w_e1 _ _ _))), (w_p1 (by decide) (Or.inr rfl) (w_e1 _ _ _)), (w_e1 _ _ _), by omega, by decide, by omega⟩ ⟨by omega, by omega⟩
                · have c14199_ : a1.toInt = 1 := en_i_ne_f c14199
                  exfalso; omega
            · have c14191_ : v14188.toInt = (-1) := en_i_ne_f c14191
              refine At.enter rfl ?_
              refine r_vret ?_
              exact ⟨_, rfl, hI14186, hF14190, rfl⟩
    · have c14008_ : a1.toInt = 1 := en_i_ne_f c14008
      refine At.enter rfl ?_
      refine r_aload_n e13994 ?_
      refine r_iload_n e13996 ?_
      refine r_callV 26 rfl [.ref 176, .int a2] [] (Nat.le_of_ble_eq_true rfl) rfl (IHP _ (by omega) hI13989 a2 (by omega) (by omega)) ?_
      rintro _ _ ⟨g14201, rfl, hI14202, hF14203, rfl⟩
      refine At.stn ?_
      have hF14206 := Fr.tr hF13990 hF14203 rfl rfl
      refine At.enter rfl ?_
      refine r_goto ?_
      refine At.enter rfl ?_
      refine r_iload e13998 ?_
      refine r_iconst (-1) rfl ?_
      refine r_ics 56 rfl (fun c14207 => ?_) (fun c14207 => ?_)
      · have c14207_ : x13986.toInt = (-1) := en_i_eq_t c14207
        refine At.enter rfl ?_
        refine r_iload_n e13997 ?_
        refine r_iconst (-1) rfl ?_
        refine r_ics 73 rfl (fun c14208 => ?_) (fun c14208 => ?_)
        · have c14208_ : x13985.toInt = (-1) := en_i_eq_t c14208
          refine At.enter rfl ?_
          refine r_aload_n e13994 ?_
          obtain ⟨v14209, hv14209⟩ : ∃ v, gI g14201 176 2 = v := ⟨_, rfl⟩
          refine q_getI (Sh.int hI14202.1 kx_176 rfl) v14209 hv14209 ?_
          refine r_iconst (-1) rfl ?_
          refine r_ics 91 rfl (fun c14210 => ?_) (fun c14210 => ?_)
          · have c14210_ : v14209.toInt ≠ (-1) := en_i_ne_t c14210
            refine At.enter rfl ?_
            refine r_iconst (-1) rfl ?_
            refine Ar.fall 100 rfl ?_
            refine At.enter rfl ?_
            refine r_istore_n _ rfl ?_
            refine r_iload_n (w_e1 _ _ _) ?_
            refine r_iconst (-1) rfl ?_
            refine r_icf 106 rfl (by decide) ?_
            refine At.enter rfl ?_
            refine r_vret ?_
            exact ⟨_, rfl, hI14202, hF14206, rfl⟩
          · have c14210_ : v14209.toInt = (-1) := en_i_ne_f c14210
            refine At.enter rfl ?_
            refine r_aload_n e13994 ?_
            refine r_iload_n e13995 ?_
            refine r_callV 96 rfl [.ref 176, .int a1] [] (Nat.le_of_ble_eq_true rfl) rfl (T_X5_joinHere_176 _ hI14202 a1) ?_
            rintro _ _ ⟨g14211, rfl, hI14212, hF14213, v14214, rfl, hr14215⟩
            refine At.sti ?_
            have hF14216 := Fr.tr hF14206 hF14213 rfl rfl
            refine At.enter rfl ?_
            refine r_goto ?_
            refine At.enter rfl ?_
            refine r_istore_n _ rfl ?_
            refine r_iload_n (w_e1 _ _ _) ?_
            refine r_iconst (-1) rfl ?_
            refine r_ics 106 rfl (fun c14217 => ?_) (fun c14217 => ?_)
            · have c14217_ : v14214.toInt ≠ (-1) := en_i_ne_t c14217
              refine At.enter rfl ?_
              refine r_aload_n (w_p1 (by decide) (Or.inr rfl) e13994) ?_
              refine r_callV 111 rfl [.ref 176] [] (Nat.le_of_ble_eq_true rfl) rfl (T_X5_step_176 _ hI14212) ?_
              rintro _ _ ⟨g14218, rfl, hI14219, hF14220, rfl⟩
              refine At.stn ?_
              have hF14223 := Fr.tr hF14216 hF14220 rfl rfl
              refine At.enter rfl ?_
              refine r_iload_n (w_p1 (by decide) (Or.inr rfl) e13995) ?_
              refine r_ifs 115 rfl (fun c14224 => ?_) (fun c14224 => ?_)
              · have c14224_ : a1.toInt = 0 := en_k_eq_t c14224
                exfalso; omega
              · have c14224_ : a1.toInt ≠ 0 := en_k_eq_f c14224
                refine At.enter rfl ?_
                refine r_iload_n (w_p1 (by decide) (Or.inr rfl) e13995) ?_
                refine r_iconst 1 rfl ?_
                refine r_ics 120 rfl (fun c14225 => ?_) (fun c14225 => ?_)
                · have c14225_ : a1.toInt ≠ 1 := en_i_ne_t c14225
                  exfalso; omega
                · have c14225_ : a1.toInt = 1 := en_i_ne_f c14225
                  refine At.enter rfl ?_
                  refine r_aload_n (w_p1 (by decide) (Or.inr rfl) e13994) ?_
                  refine q_getR (Sh.ref hI14219.1 kx_176 rfl) ?_
                  refine r_iload_n (w_e1 _ _ _) ?_
                  refine r_iconst 0 rfl ?_
                  refine r_callV 129 rfl [.ref 177, .int v14214, .int 0] [] (Nat.le_of_ble_eq_true rfl) rfl (T_X4_add_177 _ hI14219 v14214 0) ?_
                  rintro _ _ ⟨g14226, rfl, hI14227, hF14228, v14229, rfl, hr14230⟩
                  refine At.sti ?_
                  have hF14231 := Fr.tr hF14223 hF14228 rfl rfl
                  refine At.enter rfl ?_
                  refine r_goto ?_
                  refine At.enter rfl ?_
                  refine r_istore _ rfl ?_
                  refine q_iinc (w_p1 (by decide) (Or.inr rfl) (w_p1 (by decide) (Or.inr rfl) e13999)) (x13987.toInt + 1) rfl (by omega) (fun v14232 hv14232 => ?_)
                  refine r_goto ?_
                  exact ih13993 (400 - v14232.toInt) _ _ ⟨v14214, v14229, v14232, by first | rfl | omega, hI14227, hF14231, (w_p1 (by decide) (Or.inr rfl) (w_p1 (by decide) (Or.inr rfl) (w_p1 (by decide) (Or.inr rfl) e13994))), (w_p1 (by decide) (Or.inr rfl) (w_p1 (by decide) (Or.inr rfl) (w_p1 (by decide) (Or.inr rfl) e13995))), (w_p1 (by decide) (Or.inr rfl) (w_p1 (by decide) (Or.inr rfl) (w_p1 (by decide) (Or.inr rfl) e13996))), (w_p1 (by decide) (Or.inr rfl) (w_p1 (by decide) (Or.inr rfl) (w_e1 _ _ _))), (w_p1 (by decide) (Or.inr rfl) (w_e1 _ _ _)), (w_e1 _ _ _), by omega, by omega, by omega⟩ ⟨by omega, by omega⟩
            · have c14217_ : v14214.toInt = (-1) := en_i_ne_f c14217
              refine At.enter rfl ?_
              refine r_vret ?_
              exact ⟨_, rfl, hI14212, hF14216, rfl⟩
        · have c14208_ : x13985.toInt ≠ (-1) := en_i_eq_f c14208
          refine At.enter rfl ?_
          refine r_aload_n e13994 ?_
          refine q_getR (Sh.ref hI14202.1 kx_176 rfl) ?_
          refine r_iload_n e13997 ?_
          refine r_iconst 0 rfl ?_
          refine r_callV 82 rfl [.ref 177, .int x13985, .int 0] [] (Nat.le_of_ble_eq_true rfl) rfl (T_X4_add_177 _ hI14202 x13985 0) ?_
          rintro _ _ ⟨g14233, rfl, hI14234, hF14235, v14236, rfl, hr14237⟩
          refine At.sti ?_
          have hF14238 := Fr.tr hF14206 hF14235 rfl rfl
          refine At.enter rfl ?_
          refine r_pop rfl ?_
          refine Ar.fall 83 rfl ?_
          refine At.enter rfl ?_
          refine r_aload_n e13994 ?_
          obtain ⟨v14239, hv14239⟩ : ∃ v, gI g14201 176 2 = v := ⟨_, rfl⟩
          refine q_getI (Sh.int hI14234.1 kx_176 rfl) v14239 ((hF14235.1 176 2 (by decide)).trans hv14239) ?_
          refine r_iconst (-1) rfl ?_
          refine r_ics 91 rfl (fun c14240 => ?_) (fun c14240 => ?_)
          · have c14240_ : v14239.toInt ≠ (-1) := en_i_ne_t c14240
            refine At.enter rfl ?_
            refine r_iconst (-1) rfl ?_
            refine Ar.fall 100 rfl ?_
            refine At.enter rfl ?_
            refine r_istore_n _ rfl ?_
            refine r_iload_n (w_e1 _ _ _) ?_
            refine r_iconst (-1) rfl ?_
            refine r_icf 106 rfl (by decide) ?_
            refine At.enter rfl ?_
            refine r_vret ?_
            exact ⟨_, rfl, hI14234, hF14238, rfl⟩
          · have c14240_ : v14239.toInt = (-1) := en_i_ne_f c14240
            refine At.enter rfl ?_
            refine r_aload_n e13994 ?_
            refine r_iload_n e13995 ?_
            refine r_callV 96 rfl [.ref 176, .int a1] [] (Nat.le_of_ble_eq_true rfl) rfl (T_X5_joinHere_176 _ hI14234 a1) ?_
            rintro _ _ ⟨g14241, rfl, hI14242, hF14243, v14244, rfl, hr14245⟩
            refine At.sti ?_
            have hF14246 := Fr.tr hF14238 hF14243 rfl rfl
            refine At.enter rfl ?_
            refine r_goto ?_
            refine At.enter rfl ?_
            refine r_istore_n _ rfl ?_
            refine r_iload_n (w_e1 _ _ _) ?_
            refine r_iconst (-1) rfl ?_
            refine r_ics 106 rfl (fun c14247 => ?_) (fun c14247 => ?_)
            · have c14247_ : v14244.toInt ≠ (-1) := en_i_ne_t c14247
              refine At.enter rfl ?_
              refine r_aload_n (w_p1 (by decide) (Or.inr rfl) e13994) ?_
              refine r_callV 111 rfl [.ref 176] [] (Nat.le_of_ble_eq_true rfl) rfl (T_X5_step_176 _ hI14242) ?_
              rintro _ _ ⟨g14248, rfl, hI14249, hF14250, rfl⟩
              refine At.stn ?_
              have hF14253 := Fr.tr hF14246 hF14250 rfl rfl
              refine At.enter rfl ?_
              refine r_iload_n (w_p1 (by decide) (Or.inr rfl) e13995) ?_
              refine r_ifs 115 rfl (fun c14254 => ?_) (fun c14254 => ?_)
              · have c14254_ : a1.toInt = 0 := en_k_eq_t c14254
                exfalso; omega
              · have c14254_ : a1.toInt ≠ 0 := en_k_eq_f c14254
                refine At.enter rfl ?_
                refine r_iload_n (w_p1 (by decide) (Or.inr rfl) e13995) ?_
                refine r_iconst 1 rfl ?_
                refine r_ics 120 rfl (fun c14255 => ?_) (fun c14255 => ?_)
                · have c14255_ : a1.toInt ≠ 1 := en_i_ne_t c14255
                  exfalso; omega
                · have c14255_ : a1.toInt = 1 := en_i_ne_f c14255
                  refine At.enter rfl ?_
                  refine r_aload_n (w_p1 (by decide) (Or.inr rfl) e13994) ?_
                  refine q_getR (Sh.ref hI14249.1 kx_176 rfl) ?_
                  refine r_iload_n (w_e1 _ _ _) ?_
                  refine r_iconst 0 rfl ?_
                  refine r_callV 129 rfl [.ref 177, .int v14244, .int 0] [] (Nat.le_of_ble_eq_true rfl) rfl (T_X4_add_177 _ hI14249 v14244 0) ?_
                  rintro _ _ ⟨g14256, rfl, hI14257, hF14258, v14259, rfl, hr14260⟩
                  refine At.sti ?_
                  have hF14261 := Fr.tr hF14253 hF14258 rfl rfl
                  refine At.enter rfl ?_
                  refine r_goto ?_
                  refine At.enter rfl ?_
                  refine r_istore _ rfl ?_
                  refine q_iinc (w_p1 (by decide) (Or.inr rfl) (w_p1 (by decide) (Or.inr rfl) e13999)) (x13987.toInt + 1) rfl (by omega) (fun v14262 hv14262 => ?_)
                  refine r_goto ?_
                  exact ih13993 (400 - v14262.toInt) _ _ ⟨v14244, v14259, v14262, by first | rfl | omega, hI14257, hF14261, (w_p1 (by decide) (Or.inr rfl) (w_p1 (by decide) (Or.inr rfl) (w_p1 (by decide) (Or.inr rfl) e13994))), (w_p1 (by decide) (Or.inr rfl) (w_p1 (by decide) (Or.inr rfl) (w_p1 (by decide) (Or.inr rfl) e13995))), (w_p1 (by decide) (Or.inr rfl) (w_p1 (by decide) (Or.inr rfl) (w_p1 (by decide) (Or.inr rfl) e13996))), (w_p1 (by decide) (Or.inr rfl) (w_p1 (by decide) (Or.inr rfl) (w_e1 _ _ _))), (w_p1 (by decide) (Or.inr rfl) (w_e1 _ _ _)), (w_e1 _ _ _), by omega, by omega, by omega⟩ ⟨by omega, by omega⟩
            · have c14247_ : v14244.toInt = (-1) := en_i_ne_f c14247
              refine At.enter rfl ?_
              refine r_vret ?_
              exact ⟨_, rfl, hI14242, hF14246, rfl⟩
      · have c14207_ : x13986.toInt ≠ (-1) := en_i_eq_f c14207
        refine At.enter rfl ?_
        refine r_aload_n e13994 ?_
        refine q_getR (Sh.ref hI14202.1 kx_176 rfl) ?_
        refine r_iload e13998 ?_
        refine r_callV 65 rfl [.ref 177, .int x13986] [] (Nat.le_of_ble_eq_true rfl) rfl (T_X4_aimAtEnd_177 _ hI14202 x13986) ?_
        rintro _ _ ⟨g14263, rfl, hI14264, hF14265, rfl⟩
        refine At.stn ?_
        have hF14268 := Fr.tr hF14206 hF14265 rfl rfl
        refine At.enter rfl ?_
        refine r_goto ?_
        refine At.enter rfl ?_
        refine r_aload_n e13994 ?_
        obtain ⟨v14269, hv14269⟩ : ∃ v, gI g14201 176 2 = v := ⟨_, rfl⟩
        refine q_getI (Sh.int hI14264.1 kx_176 rfl) v14269 ((hF14265.1 176 2 (by decide)).trans hv14269) ?_
        refine r_iconst (-1) rfl ?_
        refine r_ics 91 rfl (fun c14270 => ?_) (fun c14270 => ?_)
        · have c14270_ : v14269.toInt ≠ (-1) := en_i_ne_t c14270
          refine At.enter rfl ?_
          refine r_iconst (-1) rfl ?_
          refine Ar.fall 100 rfl ?_
          refine At.enter rfl ?_
          refine r_istore_n _ rfl ?_
          refine r_iload_n (w_e1 _ _ _) ?_
          refine r_iconst (-1) rfl ?_
          refine r_icf 106 rfl (by decide) ?_
          refine At.enter rfl ?_
          refine r_vret ?_
          exact ⟨_, rfl, hI14264, hF14268, rfl⟩
        · have c14270_ : v14269.toInt = (-1) := en_i_ne_f c14270
          refine At.enter rfl ?_
          refine r_aload_n e13994 ?_
          refine r_iload_n e13995 ?_
          refine r_callV 96 rfl [.ref 176, .int a1] [] (Nat.le_of_ble_eq_true rfl) rfl (T_X5_joinHere_176 _ hI14264 a1) ?_
          rintro _ _ ⟨g14271, rfl, hI14272, hF14273, v14274, rfl, hr14275⟩
          refine At.sti ?_
          have hF14276 := Fr.tr hF14268 hF14273 rfl rfl
          refine At.enter rfl ?_
          refine r_goto ?_
          refine At.enter rfl ?_
          refine r_istore_n _ rfl ?_
          refine r_iload_n (w_e1 _ _ _) ?_
          refine r_iconst (-1) rfl ?_
          refine r_ics 106 rfl (fun c14277 => ?_) (fun c14277 => ?_)
          · have c14277_ : v14274.toInt ≠ (-1) := en_i_ne_t c14277
            refine At.enter rfl ?_
            refine r_aload_n (w_p1 (by decide) (Or.inr rfl) e13994) ?_
            refine r_callV 111 rfl [.ref 176] [] (Nat.le_of_ble_eq_true rfl) rfl (T_X5_step_176 _ hI14272) ?_
            rintro _ _ ⟨g14278, rfl, hI14279, hF14280, rfl⟩
            refine At.stn ?_
            have hF14283 := Fr.tr hF14276 hF14280 rfl rfl
            refine At.enter rfl ?_
            refine r_iload_n (w_p1 (by decide) (Or.inr rfl) e13995) ?_
            refine r_ifs 115 rfl (fun c14284 => ?_) (fun c14284 => ?_)
            · have c14284_ : a1.toInt = 0 := en_k_eq_t c14284
              exfalso; omega
            · have c14284_ : a1.toInt ≠ 0 := en_k_eq_f c14284
              refine At.enter rfl ?_
              refine r_iload_n (w_p1 (by decide) (Or.inr rfl) e13995) ?_
              refine r_iconst 1 rfl ?_
              refine r_ics 120 rfl (fun c14285 => ?_) (fun c14285 => ?_)
              · have c14285_ : a1.toInt ≠ 1 := en_i_ne_t c14285
                exfalso; omega
              · have c14285_ : a1.toInt = 1 := en_i_ne_f c14285
                refine At.enter rfl ?_
                refine r_aload_n (w_p1 (by decide) (Or.inr rfl) e13994) ?_
                refine q_getR (Sh.ref hI14279.1 kx_176 rfl) ?_
                refine r_iload_n (w_e1 _ _ _) ?_
                refine r_iconst 0 rfl ?_
                refine r_callV 129 rfl [.ref 177, .int v14274, .int 0] [] (Nat.le_of_ble_eq_true rfl) rfl (T_X4_add_177 _ hI14279 v14274 0) ?_
                rintro _ _ ⟨g14286, rfl, hI14287, hF14288, v14289, rfl, hr14290⟩
                refine At.sti ?_
                have hF14291 := Fr.tr hF14283 hF14288 rfl rfl
                refine At.enter rfl ?_
                refine r_goto ?_
                refine At.enter rfl ?_
                refine r_istore _ rfl ?_
                refine q_iinc (w_p1 (by decide) (Or.inr rfl) (w_p1 (by decide) (Or.inr rfl) e13999)) (x13987.toInt + 1) rfl (by omega) (fun v14292 hv14292 => ?_)
                refine r_goto ?_
                exact ih13993 (400 - v14292.toInt) _ _ ⟨v14274, v14289, v14292, by first | rfl | omega, hI14287, hF14291, (w_p1 (by decide) (Or.inr rfl) (w_p1 (by decide) (Or.inr rfl) (w_p1 (by decide) (Or.inr rfl) e13994))), (w_p1 (by decide) (Or.inr rfl) (w_p1 (by decide) (Or.inr rfl) (w_p1 (by decide) (Or.inr rfl) e13995))), (w_p1 (by decide) (Or.inr rfl) (w_p1 (by decide) (Or.inr rfl) (w_p1 (by decide) (Or.inr rfl) e13996))), (w_p1 (by decide) (Or.inr rfl) (w_p1 (by decide) (Or.inr rfl) (w_e1 _ _ _))), (w_p1 (by decide) (Or.inr rfl) (w_e1 _ _ _)), (w_e1 _ _ _), by omega, by omega, by omega⟩ ⟨by omega, by omega⟩
          · have c14277_ : v14274.toInt = (-1) := en_i_ne_f c14277
            refine At.enter rfl ?_
            refine r_vret ?_
            exact ⟨_, rfl, hI14272, hF14276, rfl⟩

set_option maxRecDepth 100000 in
set_option maxHeartbeats 4000000 in
theorem S_X5_readPlain_176 (n : Nat) (IHJ : QJ n) (IHP : QP n) (IHT : QT n) : QP (n + 1) := by
  intro e he N g0 hI0 a1 h_a1 hm
  obtain ⟨d, rfl⟩ : ∃ d, e = d + 4 := ⟨e - 4, by omega⟩
  have hF0 : Fr F_rd A_rd g0 g0 := Fr.rf
  refine Ev.mk rfl rfl ⟨Nat.le_of_ble_eq_true rfl, Or.inr (q_rc hI0.1 kx_176 rfl)⟩ ?_
  show At _ none _ _ (0, [(0, .ref 176), (1, .int a1)], [], (_, _)) _
  refine At.enter rfl ?_
  refine r_iconst 0 rfl ?_
  refine r_istore_n ([(2, .int 0), (0, .ref 176), (1, .int a1)]) rfl ?_
  refine r_iconst 0 rfl ?_
  refine r_istore_n ([(3, .int 0), (2, .int 0), (0, .ref 176), (1, .int a1)]) rfl ?_
  refine Ar.fall 4 rfl ?_
  have z_8137 : (0 : Int32).toInt = 0 := rfl
  have z_8138 : (0 : Int32).toInt = 0 := rfl
  refine w_loopI (fun n_ l_ g_ => ∃ x8123 : Int32, ∃ x8124 : Int32, n_ = 400 - x8124.toInt ∧ HI g_ ∧ Fr F_rd A_rd g0 g_ ∧ en_get 0 l_ = some (.ref 176) ∧ en_get 1 l_ = some (.int a1) ∧ en_get 2 l_ = some (.int x8123) ∧ en_get 3 l_ = some (.int x8124) ∧ (0 ≤ x8123.toInt ∧ x8123.toInt ≤ 1) ∧ (0 ≤ x8124.toInt ∧ x8124.toInt ≤ 400)) ?_ (400 - 0) ⟨0, 0, by first | rfl | omega, hI0, hF0, rfl, rfl, rfl, rfl, by decide, by decide⟩
  rintro n8129 l8128 g8125 ⟨x8123, x8124, hm8139, hI8126, hF8127, e8131, e8132, e8133, e8134, r8135, r8136⟩ ih8130
  refine At.enter rfl ?_
  refine r_iload_n e8134 ?_
  refine r_sipush 400 rfl ?_
  refine r_ics 11 rfl (fun c8140 => ?_) (fun c8140 => ?_)
  · have c8140_ : x8124.toInt ≥ 400 := en_i_ge_t c8140
    refine At.enter rfl ?_
    refine r_aload_n e8131 ?_
    refine r_bipush 40 rfl ?_
    refine r_callV 46 rfl [.ref 176, .int 40] [] (Nat.le_of_ble_eq_true rfl) rfl (T_X5_isSingle_176 _ hI8126 40) ?_
    rintro _ _ ⟨g8141, rfl, hI8142, hF8143, v8144, rfl, hr8145⟩
    refine At.sti ?_
    have hF8146 := Fr.tr hF8127 hF8143 rfl rfl
    refine At.enter rfl ?_
    refine r_ifs 49 rfl (fun c8147 => ?_) (fun c8147 => ?_)
    · have c8147_ : v8144.toInt = 0 := en_k_eq_t c8147
      refine At.enter rfl ?_
      refine r_aload_n e8131 ?_
      refine r_iconst 2 rfl ?_
      refine r_iload_n e8132 ?_
      have zv8148 : (2 : Int32).toInt = 2 := rfl
      refine r_callV 85 rfl [.ref 176, .int 2, .int a1] [] (Nat.le_of_ble_eq_true rfl) rfl (IHJ _ (by omega) hI8142 2 (by decide) a1 (by omega) (by omega)) ?_
      rintro _ _ ⟨g8149, rfl, hI8150, hF8151, rfl⟩
      refine At.stn ?_
      have hF8154 := Fr.tr hF8146 hF8151 rfl rfl
      refine At.enter rfl ?_
      refine r_aload_n e8131 ?_
      refine r_callV 89 rfl [.ref 176] [] (Nat.le_of_ble_eq_true rfl) rfl (T_X5_comparisonHere_176 _ hI8150) ?_
      rintro _ _ ⟨g8155, rfl, hI8156, hF8157, v8158, rfl, hr8159⟩
      refine At.sti ?_
      have hF8160 := Fr.tr hF8154 hF8157 rfl rfl
      refine At.enter rfl ?_
      refine r_istore_n _ rfl ?_
      refine r_iload_n (w_e1 _ _ _) ?_
      refine r_iconst (-1) rfl ?_
      refine r_ics 95 rfl (fun c8161 => ?_) (fun c8161 => ?_)
      · have c8161_ : v8158.toInt ≠ (-1) := en_i_ne_t c8161
        refine At.enter rfl ?_
        refine r_aload_n (w_p1 (by decide) (Or.inr rfl) e8131) ?_
        refine r_callV 104 rfl [.ref 176] [] (Nat.le_of_ble_eq_true rfl) rfl (T_X5_step_176 _ hI8156) ?_
        rintro _ _ ⟨g8162, rfl, hI8163, hF8164, rfl⟩
        refine At.stn ?_
        have hF8167 := Fr.tr hF8160 hF8164 rfl rfl
        refine At.enter rfl ?_
        refine r_aload_n (w_p1 (by decide) (Or.inr rfl) e8131) ?_
        refine r_iconst 2 rfl ?_
        refine r_iload_n (w_p1 (by decide) (Or.inr rfl) e8132) ?_
        have zv8168 : (2 : Int32).toInt = 2 := rfl
        refine r_callV 110 rfl [.ref 176, .int 2, .int a1] [] (Nat.le_of_ble_eq_true rfl) rfl (IHJ _ (by omega) hI8163 2 (by decide) a1 (by omega) (by omega)) ?_
        rintro _ _ ⟨g8169, rfl, hI8170, hF8171, rfl⟩
        refine At.stn ?_
        have hF8174 := Fr.tr hF8167 hF8171 rfl rfl
        refine At.enter rfl ?_
        refine r_aload_n (w_p1 (by decide) (Or.inr rfl) e8131) ?_
        refine q_getR (Sh.ref hI8170.1 kx_176 rfl) ?_
        refine r_iload_n (w_e1 _ _ _) ?_
        refine r_iconst 0 rfl ?_
        refine r_callV 119 rfl [.ref 177, .int v8158, .int 0] [] (Nat.le_of_ble_eq_true rfl) rfl (T_X4_add_177 _ hI8170 v8158 0) ?_
        rintro _ _ ⟨g8175, rfl, hI8176, hF8177, v8178, rfl, hr8179⟩
        refine At.sti ?_
        have hF8180 := Fr.tr hF8174 hF8177 rfl rfl
        refine At.enter rfl ?_
        refine r_pop rfl ?_
        refine Ar.fall 120 rfl ?_
        refine At.enter rfl ?_
        refine r_iload_n (w_p1 (by decide) (Or.inr rfl) e8133) ?_
        refine r_ifs 124 rfl (fun c8181 => ?_) (fun c8181 => ?_)
        · have c8181_ : x8123.toInt = 0 := en_k_eq_t c8181
          refine At.enter rfl ?_
          refine r_vret ?_
          exact ⟨_, rfl, hI8176, hF8180, rfl⟩
        · have c8181_ : x8123.toInt ≠ 0 := en_k_eq_f c8181
          refine At.enter rfl ?_
          refine r_aload_n (w_p1 (by decide) (Or.inr rfl) e8131) ?_
          refine q_getR (Sh.ref hI8176.1 kx_176 rfl) ?_
          refine r_bipush 9 rfl ?_
          refine r_iconst 0 rfl ?_
          refine r_callV 134 rfl [.ref 177, .int 9, .int 0] [] (Nat.le_of_ble_eq_true rfl) rfl (T_X4_add_177 _ hI8176 9 0) ?_
          rintro _ _ ⟨g8182, rfl, hI8183, hF8184, v8185, rfl, hr8186⟩
          refine At.sti ?_
          have hF8187 := Fr.tr hF8180 hF8184 rfl rfl
          refine At.enter rfl ?_
          refine r_pop rfl ?_
          refine Ar.fall 135 rfl ?_
          refine At.enter rfl ?_
          refine r_vret ?_
          exact ⟨_, rfl, hI8183, hF8187, rfl⟩
      · have c8161_ : v8158.toInt = (-1) := en_i_ne_f c8161
        refine At.enter rfl ?_
        refine r_aload_n (w_p1 (by decide) (Or.inr rfl) e8131) ?_
        refine q_inlV 99 rfl [.ref 176] [] (Nat.le_of_ble_eq_true rfl) rfl ?_
        refine Ev.mk rfl rfl ⟨Nat.le_of_ble_eq_true rfl, Or.inr (q_rc hI8156.1 kx_176 rfl)⟩ ?_
        show At _ none _ _ (0, [(0, .ref 176)], [], (_, _)) _
        refine At.enter rfl ?_
        refine r_aload_n rfl ?_
        obtain ⟨v8188, hv8188⟩ : ∃ v, gI g8149 176 2 = v := ⟨_, rfl⟩
        refine q_getI (Sh.int hI8156.1 kx_176 rfl) v8188 ((hF8157.1 176 2 (by decide)).trans hv8188) ?_
        refine r_iconst (-1) rfl ?_
        refine r_ics 8 rfl (fun c8189 => ?_) (fun c8189 => ?_)
        · have c8189_ : v8188.toInt ≠ (-1) := en_i_ne_t c8189
          refine At.enter rfl ?_
          refine q_vret ?_
          refine At.enter rfl ?_
          refine r_vret ?_
          exact ⟨_, rfl, hI8156, hF8160, rfl⟩
        · have c8189_ : v8188.toInt = (-1) := en_i_ne_f c8189
          refine At.enter rfl ?_
          refine r_aload_n rfl ?_
          refine r_aload_n rfl ?_
          obtain ⟨v8190, hv8190⟩ : ∃ v, gI g8149 176 4 = v := ⟨_, rfl⟩
          have rv8190 := RgF.at hI8150.2.1 (p := 176) (b := 4) rfl
          rw [hv8190] at rv8190
          dsimp only at rv8190
          refine q_getI (Sh.int hI8156.1 kx_176 rfl) v8190 ((hF8157.1 176 4 (by decide)).trans hv8190) ?_
          refine q_putI (Sh.int hI8156.1 kx_176 rfl) rfl ?_
          have hI8191 := HI.wI0 hI8156 kx_176 rfl (p := 176) (b := 2) (v := v8190) rfl
          have hF8192 := Fr.wI (p := 176) (b := 2) (v := v8190) hF8160 rfl
          refine Ar.fall 16 rfl ?_
          refine At.enter rfl ?_
          refine q_vret ?_
          refine At.enter rfl ?_
          refine r_vret ?_
          exact ⟨_, rfl, hI8191, hF8192, rfl⟩
    · have c8147_ : v8144.toInt ≠ 0 := en_k_eq_f c8147
      refine At.enter rfl ?_
      refine r_aload_n e8131 ?_
      refine r_iload_n e8132 ?_
      refine q_inlV 54 rfl [.ref 176, .int a1] [] (Nat.le_of_ble_eq_true rfl) rfl ?_
      refine Ev.mk rfl rfl ⟨Nat.le_of_ble_eq_true rfl, Or.inr (q_rc hI8142.1 kx_176 rfl)⟩ ?_
      show At _ none _ _ (0, [(0, .ref 176), (1, .int a1)], [], (_, _)) _
      refine At.enter rfl ?_
      refine r_iload_n rfl ?_
      refine r_bipush 8 rfl ?_
      refine r_ics 6 rfl (fun c8193 => ?_) (fun c8193 => ?_)
      · have c8193_ : a1.toInt < 8 := en_i_lt_t c8193
        refine At.enter rfl ?_
        refine r_aload_n rfl ?_
        refine r_callV 17 rfl [.ref 176] [] (Nat.le_of_ble_eq_true rfl) rfl (T_X5_step_176 _ hI8142) ?_
        rintro _ _ ⟨g8194, rfl, hI8195, hF8196, rfl⟩
        refine At.stn ?_
        have hF8199 := Fr.tr hF8146 hF8196 rfl rfl
        refine At.enter rfl ?_
        refine q_vret ?_
        refine At.enter rfl ?_
        refine r_aload_n e8131 ?_
        obtain ⟨v8200, hv8200⟩ : ∃ v, gI g8125 176 2 = v := ⟨_, rfl⟩
        refine q_getI (Sh.int hI8195.1 kx_176 rfl) v8200 (((hF8196.1 176 2 (by decide)).trans (hF8143.1 176 2 (by decide))).trans hv8200) ?_
        refine r_iconst (-1) rfl ?_
        refine r_ics 62 rfl (fun c8201 => ?_) (fun c8201 => ?_)
        · have c8201_ : v8200.toInt ≠ (-1) := en_i_ne_t c8201
          refine At.enter rfl ?_
          refine r_iload_n e8133 ?_
          refine r_ifs 124 rfl (fun c8202 => ?_) (fun c8202 => ?_)
          · have c8202_ : x8123.toInt = 0 := en_k_eq_t c8202
            refine At.enter rfl ?_
            refine r_vret ?_
            exact ⟨_, rfl, hI8195, hF8199, rfl⟩
          · have c8202_ : x8123.toInt ≠ 0 := en_k_eq_f c8202
            refine At.enter rfl ?_
            refine r_aload_n e8131 ?_
            refine q_getR (Sh.ref hI8195.1 kx_176 rfl) ?_
            refine r_bipush 9 rfl ?_
            refine r_iconst 0 rfl ?_
            refine r_callV 134 rfl [.ref 177, .int 9, .int 0] [] (Nat.le_of_ble_eq_true rfl) rfl (T_X4_add_177 _ hI8195 9 0) ?_
            rintro _ _ ⟨g8203, rfl, hI8204, hF8205, v8206, rfl, hr8207⟩
            refine At.sti ?_
            have hF8208 := Fr.tr hF8199 hF8205 rfl rfl
            refine At.enter rfl ?_
            refine r_pop rfl ?_
            refine Ar.fall 135 rfl ?_
            refine At.enter rfl ?_
            refine r_vret ?_
            exact ⟨_, rfl, hI8204, hF8208, rfl⟩
        · have c8201_ : v8200.toInt = (-1) := en_i_ne_f c8201
          refine At.enter rfl ?_
          refine r_aload_n e8131 ?_
          refine r_iconst 0 rfl ?_
          refine r_iload_n e8132 ?_
          refine r_iconst 1 rfl ?_
          refine q_iadd (a1.toInt + 1) rfl (by omega) (fun v8209 hv8209 => ?_)
          have zv8210 : (0 : Int32).toInt = 0 := rfl
          refine r_callV 70 rfl [.ref 176, .int 0, .int v8209] [] (Nat.le_of_ble_eq_true rfl) rfl (IHJ _ (by omega) hI8195 0 (by decide) v8209 (by omega) (by omega)) ?_
          rintro _ _ ⟨g8211, rfl, hI8212, hF8213, rfl⟩
          refine At.stn ?_
          have hF8216 := Fr.tr hF8199 hF8213 rfl rfl
          refine At.enter rfl ?_
          refine r_aload_n e8131 ?_
          refine r_bipush 41 rfl ?_
          refine r_callV 76 rfl [.ref 176, .int 41] [] (Nat.le_of_ble_eq_true rfl) rfl (T_X5_expect_176 _ hI8212 41) ?_
          rintro _ _ ⟨g8217, rfl, hI8218, hF8219, rfl⟩
          refine At.stn ?_
          have hF8222 := Fr.tr hF8216 hF8219 rfl rfl
          refine At.enter rfl ?_
          refine r_goto ?_
          refine At.enter rfl ?_
          refine r_iload_n e8133 ?_
          refine r_ifs 124 rfl (fun c8223 => ?_) (fun c8223 => ?_)
          · have c8223_ : x8123.toInt = 0 := en_k_eq_t c8223
            refine At.enter rfl ?_
            refine r_vret ?_
            exact ⟨_, rfl, hI8218, hF8222, rfl⟩
          · have c8223_ : x8123.toInt ≠ 0 := en_k_eq_f c8223
            refine At.enter rfl ?_
            refine r_aload_n e8131 ?_
            refine q_getR (Sh.ref hI8218.1 kx_176 rfl) ?_
            refine r_bipush 9 rfl ?_
            refine r_iconst 0 rfl ?_
            refine r_callV 134 rfl [.ref 177, .int 9, .int 0] [] (Nat.le_of_ble_eq_true rfl) rfl (T_X4_add_177 _ hI8218 9 0) ?_
            rintro _ _ ⟨g8224, rfl, hI8225, hF8226, v8227, rfl, hr8228⟩
            refine At.sti ?_
            have hF8229 := Fr.tr hF8222 hF8226 rfl rfl
            refine At.enter rfl ?_
            refine r_pop rfl ?_
            refine Ar.fall 135 rfl ?_
            refine At.enter rfl ?_
            refine r_vret ?_
            exact ⟨_, rfl, hI8225, hF8229, rfl⟩
      · have c8193_ : a1.toInt ≥ 8 := en_i_lt_f c8193
        refine At.enter rfl ?_
        refine r_aload_n rfl ?_
        refine q_inlV 10 rfl [.ref 176] [] (Nat.le_of_ble_eq_true rfl) rfl ?_
        refine Ev.mk rfl rfl ⟨Nat.le_of_ble_eq_true rfl, Or.inr (q_rc hI8142.1 kx_176 rfl)⟩ ?_
        show At _ none _ _ (0, [(0, .ref 176)], [], (_, _)) _
        refine At.enter rfl ?_
        refine r_aload_n rfl ?_
        obtain ⟨v8230, hv8230⟩ : ∃ v, gI g8125 176 2 = v := ⟨_, rfl⟩
        refine q_getI (Sh.int hI8142.1 kx_176 rfl) v8230 ((hF8143.1 176 2 (by decide)).trans hv8230) ?_
        refine r_iconst (-1) rfl ?_
        refine r_ics 8 rfl (fun c8231 => ?_) (fun c8231 => ?_)
        · have c8231_ : v8230.toInt ≠ (-1) := en_i_ne_t c8231
          refine At.enter rfl ?_
          refine q_vret ?_
          refine At.enter rfl ?_
          refine r_goto ?_
          refine At.enter rfl ?_
          refine q_vret ?_
          refine At.enter rfl ?_
          refine r_aload_n e8131 ?_
          refine q_getI (Sh.int hI8142.1 kx_176 rfl) v8230 ((hF8143.1 176 2 (by decide)).trans hv8230) ?_
          refine r_iconst (-1) rfl ?_
          refine r_ics 62 rfl (fun c8232 => ?_) (fun c8232 => ?_)
          · have c8232_ : v8230.toInt ≠ (-1) := en_i_ne_t c8232
            refine At.enter rfl ?_
            refine r_iload_n e8133 ?_
            refine r_ifs 124 rfl (fun c8233 => ?_) (fun c8233 => ?_)
            · have c8233_ : x8123.toInt = 0 := en_k_eq_t c8233
              refine At.enter rfl ?_
              refine r_vret ?_
              exact ⟨_, rfl, hI8142, hF8146, rfl⟩
            · have c8233_ : x8123.toInt ≠ 0 := en_k_eq_f c8233
              refine At.enter rfl ?_
              refine r_aload_n e8131 ?_
              refine q_getR (Sh.ref hI8142.1 kx_176 rfl) ?_
              refine r_bipush 9 rfl ?_
              refine r_iconst 0 rfl ?_
              refine r_callV 134 rfl [.ref 177, .int 9, .int 0] [] (Nat.le_of_ble_eq_true rfl) rfl (T_X4_add_177 _ hI8142 9 0) ?_
              rintro _ _ ⟨g8234, rfl, hI8235, hF8236, v8237, rfl, hr8238⟩
              refine At.sti ?_
              have hF8239 := Fr.tr hF8146 hF8236 rfl rfl
              refine At.enter rfl ?_
              refine r_pop rfl ?_
              refine Ar.fall 135 rfl ?_
              refine At.enter rfl ?_
              refine r_vret ?_
              exact ⟨_, rfl, hI8235, hF8239, rfl⟩
          · have c8232_ : v8230.toInt = (-1) := en_i_ne_f c8232
            refine At.enter rfl ?_
            refine r_aload_n e8131 ?_
            refine r_iconst 0 rfl ?_
            refine r_iload_n e8132 ?_
            refine r_iconst 1 rfl ?_
            refine q_iadd (a1.toInt + 1) rfl (by omega) (fun v8240 hv8240 => ?_)
            have zv8241 : (0 : Int32).toInt = 0 := rfl
            refine r_callV 70 rfl [.ref 176, .int 0, .int v8240] [] (Nat.le_of_ble_eq_true rfl) rfl (IHJ _ (by omega) hI8142 0 (by decide) v8240 (by omega) (by omega)) ?_
            rintro _ _ ⟨g8242, rfl, hI8243, hF8244, rfl⟩
            refine At.stn ?_
            have hF8247 := Fr.tr hF8146 hF8244 rfl rfl
            refine At.enter rfl ?_
            refine r_aload_n e8131 ?_
            refine r_bipush 41 rfl ?_
            refine r_callV 76 rfl [.ref 176, .int 41] [] (Nat.le_of_ble_eq_true rfl) rfl (T_X5_expect_176 _ hI8243 41) ?_
            rintro _ _ ⟨g8248, rfl, hI8249, hF8250, rfl⟩
            refine At.stn ?_
            have hF8253 := Fr.tr hF8247 hF8250 rfl rfl
            refine At.enter rfl ?_
            refine r_goto ?_
            refine At.enter rfl ?_
            refine r_iload_n e8133 ?_
            refine r_ifs 124 rfl (fun c8254 => ?_) (fun c8254 => ?_)
            · have c8254_ : x8123.toInt = 0 := en_k_eq_t c8254
              refine At.enter rfl ?_
              refine r_vret ?_
              exact ⟨_, rfl, hI8249, hF8253, rfl⟩
            · have c8254_ : x8123.toInt ≠ 0 := en_k_eq_f c8254
              refine At.enter rfl ?_
              refine r_aload_n e8131 ?_
              refine q_getR (Sh.ref hI8249.1 kx_176 rfl) ?_
              refine r_bipush 9 rfl ?_
              refine r_iconst 0 rfl ?_
              refine r_callV 134 rfl [.ref 177, .int 9, .int 0] [] (Nat.le_of_ble_eq_true rfl) rfl (T_X4_add_177 _ hI8249 9 0) ?_
              rintro _ _ ⟨g8255, rfl, hI8256, hF8257, v8258, rfl, hr8259⟩
              refine At.sti ?_
              have hF8260 := Fr.tr hF8253 hF8257 rfl rfl
              refine At.enter rfl ?_
              refine r_pop rfl ?_
              refine Ar.fall 135 rfl ?_
              refine At.enter rfl ?_
              refine r_vret ?_
              exact ⟨_, rfl, hI8256, hF8260, rfl⟩
        · have c8231_ : v8230.toInt = (-1) := en_i_ne_f c8231
          refine At.enter rfl ?_
          refine r_aload_n rfl ?_
          refine r_aload_n rfl ?_
          obtain ⟨v8261, hv8261⟩ : ∃ v, gI g8125 176 4 = v := ⟨_, rfl⟩
          have rv8261 := RgF.at hI8126.2.1 (p := 176) (b := 4) rfl
          rw [hv8261] at rv8261
          dsimp only at rv8261
          refine q_getI (Sh.int hI8142.1 kx_176 rfl) v8261 ((hF8143.1 176 4 (by decide)).trans hv8261) ?_
          refine q_putI (Sh.int hI8142.1 kx_176 rfl) rfl ?_
          have hI8262 := HI.wI0 hI8142 kx_176 rfl (p := 176) (b := 2) (v := v8261) rfl
          have hF8263 := Fr.wI (p := 176) (b := 2) (v := v8261) hF8146 rfl
          refine Ar.fall 16 rfl ?_
          refine At.enter rfl ?_
          refine q_vret ?_
          refine At.enter rfl ?_
          refine r_goto ?_
          refine At.enter rfl ?_
          refine q_vret ?_
          refine At.enter rfl ?_
          refine r_aload_n e8131 ?_
          refine q_getI (Sh.int hI8262.1 kx_176 rfl) v8261 (gI_sI_eq hI8142.1 kx_176 rfl _) ?_
          refine r_iconst (-1) rfl ?_
          refine r_ics 62 rfl (fun c8264 => ?_) (fun c8264 => ?_)
          · have c8264_ : v8261.toInt ≠ (-1) := en_i_ne_t c8264
            refine At.enter rfl ?_
            refine r_iload_n e8133 ?_
            refine r_ifs 124 rfl (fun c8265 => ?_) (fun c8265 => ?_)
            · have c8265_ : x8123.toInt = 0 := en_k_eq_t c8265
              refine At.enter rfl ?_
              refine r_vret ?_
              exact ⟨_, rfl, hI8262, hF8263, rfl⟩
            · have c8265_ : x8123.toInt ≠ 0 := en_k_eq_f c8265
              refine At.enter rfl ?_
              refine r_aload_n e8131 ?_
              refine q_getR (Sh.ref hI8262.1 kx_176 rfl) ?_
              refine r_bipush 9 rfl ?_
              refine r_iconst 0 rfl ?_
              refine r_callV 134 rfl [.ref 177, .int 9, .int 0] [] (Nat.le_of_ble_eq_true rfl) rfl (T_X4_add_177 _ hI8262 9 0) ?_
              rintro _ _ ⟨g8266, rfl, hI8267, hF8268, v8269, rfl, hr8270⟩
              refine At.sti ?_
              have hF8271 := Fr.tr hF8263 hF8268 rfl rfl
              refine At.enter rfl ?_
              refine r_pop rfl ?_
              refine Ar.fall 135 rfl ?_
              refine At.enter rfl ?_
              refine r_vret ?_
              exact ⟨_, rfl, hI8267, hF8271, rfl⟩
          · have c8264_ : v8261.toInt = (-1) := en_i_ne_f c8264
            exfalso; omega
  · have c8140_ : x8124.toInt < 400 := en_i_ge_f c8140
    refine At.enter rfl ?_
    refine r_aload_n e8131 ?_
    refine r_ldcS (by decide) 4 rfl ?_
    refine r_callV 17 rfl [.ref 176, .float 4] [] (Nat.le_of_ble_eq_true rfl) rfl (T_X5_isWord_176 _ hI8126 4 (by decide)) ?_
    rintro _ _ ⟨g8272, rfl, hI8273, hF8274, v8275, rfl, hr8276⟩
    refine At.sti ?_
    have hF8277 := Fr.tr hF8127 hF8274 rfl rfl
    refine At.enter rfl ?_
    refine r_ifs 20 rfl (fun c8278 => ?_) (fun c8278 => ?_)
    · have c8278_ : v8275.toInt = 0 := en_k_eq_t c8278
      refine At.enter rfl ?_
      refine r_aload_n e8131 ?_
      refine r_bipush 40 rfl ?_
      refine r_callV 46 rfl [.ref 176, .int 40] [] (Nat.le_of_ble_eq_true rfl) rfl (T_X5_isSingle_176 _ hI8273 40) ?_
      rintro _ _ ⟨g8279, rfl, hI8280, hF8281, v8282, rfl, hr8283⟩
      refine At.sti ?_
      have hF8284 := Fr.tr hF8277 hF8281 rfl rfl
      refine At.enter rfl ?_
      refine r_ifs 49 rfl (fun c8285 => ?_) (fun c8285 => ?_)
      · have c8285_ : v8282.toInt = 0 := en_k_eq_t c8285
        refine At.enter rfl ?_
        refine r_aload_n e8131 ?_
        refine r_iconst 2 rfl ?_
        refine r_iload_n e8132 ?_
        have zv8286 : (2 : Int32).toInt = 2 := rfl
        refine r_callV 85 rfl [.ref 176, .int 2, .int a1] [] (Nat.le_of_ble_eq_true rfl) rfl (IHJ _ (by omega) hI8280 2 (by decide) a1 (by omega) (by omega)) ?_
        rintro _ _ ⟨g8287, rfl, hI8288, hF8289, rfl⟩
        refine At.stn ?_
        have hF8292 := Fr.tr hF8284 hF8289 rfl rfl
        refine At.enter rfl ?_
        refine r_aload_n e8131 ?_
        refine r_callV 89 rfl [.ref 176] [] (Nat.le_of_ble_eq_true rfl) rfl (T_X5_comparisonHere_176 _ hI8288) ?_
        rintro _ _ ⟨g8293, rfl, hI8294, hF8295, v8296, rfl, hr8297⟩
        refine At.sti ?_
        have hF8298 := Fr.tr hF8292 hF8295 rfl rfl
        refine At.enter rfl ?_
        refine r_istore_n _ rfl ?_
        refine r_iload_n (w_e1 _ _ _) ?_
        refine r_iconst (-1) rfl ?_
        refine r_ics 95 rfl (fun c8299 => ?_) (fun c8299 => ?_)
        · have c8299_ : v8296.toInt ≠ (-1) := en_i_ne_t c8299
          refine At.enter rfl ?_
          refine r_aload_n (w_p1 (by decide) (Or.inr rfl) e8131) ?_
          refine r_callV 104 rfl [.ref 176] [] (Nat.le_of_ble_eq_true rfl) rfl (T_X5_step_176 _ hI8294) ?_
          rintro _ _ ⟨g8300, rfl, hI8301, hF8302, rfl⟩
          refine At.stn ?_
          have hF8305 := Fr.tr hF8298 hF8302 rfl rfl
          refine At.enter rfl ?_
          refine r_aload_n (w_p1 (by decide) (Or.inr rfl) e8131) ?_
          refine r_iconst 2 rfl ?_
          refine r_iload_n (w_p1 (by decide) (Or.inr rfl) e8132) ?_
          have zv8306 : (2 : Int32).toInt = 2 := rfl
          refine r_callV 110 rfl [.ref 176, .int 2, .int a1] [] (Nat.le_of_ble_eq_true rfl) rfl (IHJ _ (by omega) hI8301 2 (by decide) a1 (by omega) (by omega)) ?_
          rintro _ _ ⟨g8307, rfl, hI8308, hF8309, rfl⟩
          refine At.stn ?_
          have hF8312 := Fr.tr hF8305 hF8309 rfl rfl
          refine At.enter rfl ?_
          refine r_aload_n (w_p1 (by decide) (Or.inr rfl) e8131) ?_
          refine q_getR (Sh.ref hI8308.1 kx_176 rfl) ?_
          refine r_iload_n (w_e1 _ _ _) ?_
          refine r_iconst 0 rfl ?_
          refine r_callV 119 rfl [.ref 177, .int v8296, .int 0] [] (Nat.le_of_ble_eq_true rfl) rfl (T_X4_add_177 _ hI8308 v8296 0) ?_
          rintro _ _ ⟨g8313, rfl, hI8314, hF8315, v8316, rfl, hr8317⟩
          refine At.sti ?_
          have hF8318 := Fr.tr hF8312 hF8315 rfl rfl
          refine At.enter rfl ?_
          refine r_pop rfl ?_
          refine Ar.fall 120 rfl ?_
          refine At.enter rfl ?_
          refine r_iload_n (w_p1 (by decide) (Or.inr rfl) e8133) ?_
          refine r_ifs 124 rfl (fun c8319 => ?_) (fun c8319 => ?_)
          · have c8319_ : x8123.toInt = 0 := en_k_eq_t c8319
            refine At.enter rfl ?_
            refine r_vret ?_
            exact ⟨_, rfl, hI8314, hF8318, rfl⟩
          · have c8319_ : x8123.toInt ≠ 0 := en_k_eq_f c8319
            refine At.enter rfl ?_
            refine r_aload_n (w_p1 (by decide) (Or.inr rfl) e8131) ?_
            refine q_getR (Sh.ref hI8314.1 kx_176 rfl) ?_
            refine r_bipush 9 rfl ?_
            refine r_iconst 0 rfl ?_
            refine r_callV 134 rfl [.ref 177, .int 9, .int 0] [] (Nat.le_of_ble_eq_true rfl) rfl (T_X4_add_177 _ hI8314 9 0) ?_
            rintro _ _ ⟨g8320, rfl, hI8321, hF8322, v8323, rfl, hr8324⟩
            refine At.sti ?_
            have hF8325 := Fr.tr hF8318 hF8322 rfl rfl
            refine At.enter rfl ?_
            refine r_pop rfl ?_
            refine Ar.fall 135 rfl ?_
            refine At.enter rfl ?_
            refine r_vret ?_
            exact ⟨_, rfl, hI8321, hF8325, rfl⟩
        · have c8299_ : v8296.toInt = (-1) := en_i_ne_f c8299
          refine At.enter rfl ?_
          refine r_aload_n (w_p1 (by decide) (Or.inr rfl) e8131) ?_
          refine q_inlV 99 rfl [.ref 176] [] (Nat.le_of_ble_eq_true rfl) rfl ?_
          refine Ev.mk rfl rfl ⟨Nat.le_of_ble_eq_true rfl, Or.inr (q_rc hI8294.1 kx_176 rfl)⟩ ?_
          show At _ none _ _ (0, [(0, .ref 176)], [], (_, _)) _
          refine At.enter rfl ?_
          refine r_aload_n rfl ?_
          obtain ⟨v8326, hv8326⟩ : ∃ v, gI g8287 176 2 = v := ⟨_, rfl⟩
          refine q_getI (Sh.int hI8294.1 kx_176 rfl) v8326 ((hF8295.1 176 2 (by decide)).trans hv8326) ?_
          refine r_iconst (-1) rfl ?_
          refine r_ics 8 rfl (fun c8327 => ?_) (fun c8327 => ?_)
          · have c8327_ : v8326.toInt ≠ (-1) := en_i_ne_t c8327
            refine At.enter rfl ?_
            refine q_vret ?_
            refine At.enter rfl ?_
            refine r_vret ?_
            exact ⟨_, rfl, hI8294, hF8298, rfl⟩
          · have c8327_ : v8326.toInt = (-1) := en_i_ne_f c8327
            refine At.enter rfl ?_
            refine r_aload_n rfl ?_
            refine r_aload_n rfl ?_
            obtain ⟨v8328, hv8328⟩ : ∃ v, gI g8287 176 4 = v := ⟨_, rfl⟩
            have rv8328 := RgF.at hI8288.2.1 (p := 176) (b := 4) rfl
            rw [hv8328] at rv8328
            dsimp only at rv8328
            refine q_getI (Sh.int hI8294.1 kx_176 rfl) v8328 ((hF8295.1 176 4 (by decide)).trans hv8328) ?_
            refine q_putI (Sh.int hI8294.1 kx_176 rfl) rfl ?_
            have hI8329 := HI.wI0 hI8294 kx_176 rfl (p := 176) (b := 2) (v := v8328) rfl
            have hF8330 := Fr.wI (p := 176) (b := 2) (v := v8328) hF8298 rfl
            refine Ar.fall 16 rfl ?_
            refine At.enter rfl ?_
            refine q_vret ?_
            refine At.enter rfl ?_
            refine r_vret ?_
            exact ⟨_, rfl, hI8329, hF8330, rfl⟩
      · have c8285_ : v8282.toInt ≠ 0 := en_k_eq_f c8285
        refine At.enter rfl ?_
        refine r_aload_n e8131 ?_
        refine r_iload_n e8132 ?_
        refine q_inlV 54 rfl [.ref 176, .int a1] [] (Nat.le_of_ble_eq_true rfl) rfl ?_
        refine Ev.mk rfl rfl ⟨Nat.le_of_ble_eq_true rfl, Or.inr (q_rc hI8280.1 kx_176 rfl)⟩ ?_
        show At _ none _ _ (0, [(0, .ref 176), (1, .int a1)], [], (_, _)) _
        refine At.enter rfl ?_
        refine r_iload_n rfl ?_
        refine r_bipush 8 rfl ?_
        refine r_ics 6 rfl (fun c8331 => ?_) (fun c8331 => ?_)
        · have c8331_ : a1.toInt < 8 := en_i_lt_t c8331
          refine At.enter rfl ?_
          refine r_aload_n rfl ?_
          refine r_callV 17 rfl [.ref 176] [] (Nat.le_of_ble_eq_true rfl) rfl (T_X5_step_176 _ hI8280) ?_
          rintro _ _ ⟨g8332, rfl, hI8333, hF8334, rfl⟩
          refine At.stn ?_
          have hF8337 := Fr.tr hF8284 hF8334 rfl rfl
          refine At.enter rfl ?_
          refine q_vret ?_
          refine At.enter rfl ?_
          refine r_aload_n e8131 ?_
          obtain ⟨v8338, hv8338⟩ : ∃ v, gI g8125 176 2 = v := ⟨_, rfl⟩
          refine q_getI (Sh.int hI8333.1 kx_176 rfl) v8338 (((hF8334.1 176 2 (by decide)).trans ((hF8281.1 176 2 (by decide)).trans (hF8274.1 176 2 (by decide)))).trans hv8338) ?_
          refine r_iconst (-1) rfl ?_
          refine r_ics 62 rfl (fun c8339 => ?_) (fun c8339 => ?_)
          · have c8339_ : v8338.toInt ≠ (-1) := en_i_ne_t c8339
            refine At.enter rfl ?_
            refine r_iload_n e8133 ?_
            refine r_ifs 124 rfl (fun c8340 => ?_) (fun c8340 => ?_)
            · have c8340_ : x8123.toInt = 0 := en_k_eq_t c8340
              refine At.enter rfl ?_
              refine r_vret ?_
              exact ⟨_, rfl, hI8333, hF8337, rfl⟩
            · have c8340_ : x8123.toInt ≠ 0 := en_k_eq_f c8340
              refine At.enter rfl ?_
              refine r_aload_n e8131 ?_
              refine q_getR (Sh.ref hI8333.1 kx_176 rfl) ?_
              refine r_bipush 9 rfl ?_
              refine r_iconst 0 rfl ?_
              refine r_callV 134 rfl [.ref 177, .int 9, .int 0] [] (Nat.le_of_ble_eq_true rfl) rfl (T_X4_add_177 _ hI8333 9 0) ?_
              rintro _ _ ⟨g8341, rfl, hI8342, hF8343, v8344, rfl, hr8345⟩
              refine At.sti ?_
              have hF8346 := Fr.tr hF8337 hF8343 rfl rfl
              refine At.enter rfl ?_
              refine r_pop rfl ?_
              refine Ar.fall 135 rfl ?_
              refine At.enter rfl ?_
              refine r_vret ?_
              exact ⟨_, rfl, hI8342, hF8346, rfl⟩
          · have c8339_ : v8338.toInt = (-1) := en_i_ne_f c8339
            refine At.enter rfl ?_
            refine r_aload_n e8131 ?_
            refine r_iconst 0 rfl ?_
            refine r_iload_n e8132 ?_
            refine r_iconst 1 rfl ?_
            refine q_iadd (a1.toInt + 1) rfl (by omega) (fun v8347 hv8347 => ?_)
            have zv8348 : (0 : Int32).toInt = 0 := rfl
            refine r_callV 70 rfl [.ref 176, .int 0, .int v8347] [] (Nat.le_of_ble_eq_true rfl) rfl (IHJ _ (by omega) hI8333 0 (by decide) v8347 (by omega) (by omega)) ?_
            rintro _ _ ⟨g8349, rfl, hI8350, hF8351, rfl⟩
            refine At.stn ?_
            have hF8354 := Fr.tr hF8337 hF8351 rfl rfl
            refine At.enter rfl ?_
            refine r_aload_n e8131 ?_
            refine r_bipush 41 rfl ?_
            refine r_callV 76 rfl [.ref 176, .int 41] [] (Nat.le_of_ble_eq_true rfl) rfl (T_X5_expect_176 _ hI8350 41) ?_
            rintro _ _ ⟨g8355, rfl, hI8356, hF8357, rfl⟩
            refine At.stn ?_
            have hF8360 := Fr.tr hF8354 hF8357 rfl rfl
            refine At.enter rfl ?_
            refine r_goto ?_
            refine At.enter rfl ?_
            refine r_iload_n e8133 ?_
            refine r_ifs 124 rfl (fun c8361 => ?_) (fun c8361 => ?_)
            · have c8361_ : x8123.toInt = 0 := en_k_eq_t c8361
              refine At.enter rfl ?_
              refine r_vret ?_
              exact ⟨_, rfl, hI8356, hF8360, rfl⟩
            · have c8361_ : x8123.toInt ≠ 0 := en_k_eq_f c8361
              refine At.enter rfl ?_
              refine r_aload_n e8131 ?_
              refine q_getR (Sh.ref hI8356.1 kx_176 rfl) ?_
              refine r_bipush 9 rfl ?_
              refine r_iconst 0 rfl ?_
              refine r_callV 134 rfl [.ref 177, .int 9, .int 0] [] (Nat.le_of_ble_eq_true rfl) rfl (T_X4_add_177 _ hI8356 9 0) ?_
              rintro _ _ ⟨g8362, rfl, hI8363, hF8364, v8365, rfl, hr8366⟩
              refine At.sti ?_
              have hF8367 := Fr.tr hF8360 hF8364 rfl rfl
              refine At.enter rfl ?_
              refine r_pop rfl ?_
              refine Ar.fall 135 rfl ?_
              refine At.enter rfl ?_
              refine r_vret ?_
              exact ⟨_, rfl, hI8363, hF8367, rfl⟩
        · have c8331_ : a1.toInt ≥ 8 := en_i_lt_f c8331
          refine At.enter rfl ?_
          refine r_aload_n rfl ?_
          refine q_inlV 10 rfl [.ref 176] [] (Nat.le_of_ble_eq_true rfl) rfl ?_
          refine Ev.mk rfl rfl ⟨Nat.le_of_ble_eq_true rfl, Or.inr (q_rc hI8280.1 kx_176 rfl)⟩ ?_
          show At _ none _ _ (0, [(0, .ref 176)], [], (_, _)) _
          refine At.enter rfl ?_
          refine r_aload_n rfl ?_
          obtain ⟨v8368, hv8368⟩ : ∃ v, gI g8125 176 2 = v := ⟨_, rfl⟩
          refine q_getI (Sh.int hI8280.1 kx_176 rfl) v8368 (((hF8281.1 176 2 (by decide)).trans (hF8274.1 176 2 (by decide))).trans hv8368) ?_
          refine r_iconst (-1) rfl ?_
          refine r_ics 8 rfl (fun c8369 => ?_) (fun c8369 => ?_)
          · have c8369_ : v8368.toInt ≠ (-1) := en_i_ne_t c8369
            refine At.enter rfl ?_
            refine q_vret ?_
            refine At.enter rfl ?_
            refine r_goto ?_
            refine At.enter rfl ?_
            refine q_vret ?_
            refine At.enter rfl ?_
            refine r_aload_n e8131 ?_
            refine q_getI (Sh.int hI8280.1 kx_176 rfl) v8368 (((hF8281.1 176 2 (by decide)).trans (hF8274.1 176 2 (by decide))).trans hv8368) ?_
            refine r_iconst (-1) rfl ?_
            refine r_ics 62 rfl (fun c8370 => ?_) (fun c8370 => ?_)
            · have c8370_ : v8368.toInt ≠ (-1) := en_i_ne_t c8370
              refine At.enter rfl ?_
              refine r_iload_n e8133 ?_
              refine r_ifs 124 rfl (fun c8371 => ?_) (fun c8371 => ?_)
              · have c8371_ : x8123.toInt = 0 := en_k_eq_t c8371
                refine At.enter rfl ?_
                refine r_vret ?_
                exact ⟨_, rfl, hI8280, hF8284, rfl⟩
              · have c8371_ : x8123.toInt ≠ 0 := en_k_eq_f c8371
                refine At.enter rfl ?_
                refine r_aload_n e8131 ?_
                refine q_getR (Sh.ref hI8280.1 kx_176 rfl) ?_
                refine r_bipush 9 rfl ?_
                refine r_iconst 0 rfl ?_
                refine r_callV 134 rfl [.ref 177, .int 9, .int 0] [] (Nat.le_of_ble_eq_true rfl) rfl (T_X4_add_177 _ hI8280 9 0) ?_
                rintro _ _ ⟨g8372, rfl, hI8373, hF8374, v8375, rfl, hr8376⟩
                refine At.sti ?_
                have hF8377 := Fr.tr hF8284 hF8374 rfl rfl
                refine At.enter rfl ?_
                refine r_pop rfl ?_
                refine Ar.fall 135 rfl ?_
                refine At.enter rfl ?_
                refine r_vret ?_
                exact ⟨_, rfl, hI8373, hF8377, rfl⟩
            · have c8370_ : v8368.toInt = (-1) := en_i_ne_f c8370
              refine At.enter rfl ?_
              refine r_aload_n e8131 ?_
              refine r_iconst 0 rfl ?_
              refine r_iload_n e8132 ?_
              refine r_iconst 1 rfl ?_
              refine q_iadd (a1.toInt + 1) rfl (by omega) (fun v8378 hv8378 => ?_)
              have zv8379 : (0 : Int32).toInt = 0 := rfl
              refine r_callV 70 rfl [.ref 176, .int 0, .int v8378] [] (Nat.le_of_ble_eq_true rfl) rfl (IHJ _ (by omega) hI8280 0 (by decide) v8378 (by omega) (by omega)) ?_
              rintro _ _ ⟨g8380, rfl, hI8381, hF8382, rfl⟩
              refine At.stn ?_
              have hF8385 := Fr.tr hF8284 hF8382 rfl rfl
              refine At.enter rfl ?_
              refine r_aload_n e8131 ?_
              refine r_bipush 41 rfl ?_
              refine r_callV 76 rfl [.ref 176, .int 41] [] (Nat.le_of_ble_eq_true rfl) rfl (T_X5_expect_176 _ hI8381 41) ?_
              rintro _ _ ⟨g8386, rfl, hI8387, hF8388, rfl⟩
              refine At.stn ?_
              have hF8391 := Fr.tr hF8385 hF8388 rfl rfl
              refine At.enter rfl ?_
              refine r_goto ?_
              refine At.enter rfl ?_
              refine r_iload_n e8133 ?_
              refine r_ifs 124 rfl (fun c8392 => ?_) (fun c8392 => ?_)
              · have c8392_ : x8123.toInt = 0 := en_k_eq_t c8392
                refine At.enter rfl ?_
                refine r_vret ?_
                exact ⟨_, rfl, hI8387, hF8391, rfl⟩
              · have c8392_ : x8123.toInt ≠ 0 := en_k_eq_f c8392
                refine At.enter rfl ?_
                refine r_aload_n e8131 ?_
                refine q_getR (Sh.ref hI8387.1 kx_176 rfl) ?_
                refine r_bipush 9 rfl ?_
                refine r_iconst 0 rfl ?_
                refine r_callV 134 rfl [.ref 177, .int 9, .int 0] [] (Nat.le_of_ble_eq_true rfl) rfl (T_X4_add_177 _ hI8387 9 0) ?_
                rintro _ _ ⟨g8393, rfl, hI8394, hF8395, v8396, rfl, hr8397⟩
                refine At.sti ?_
                have hF8398 := Fr.tr hF8391 hF8395 rfl rfl
                refine At.enter rfl ?_
                refine r_pop rfl ?_
                refine Ar.fall 135 rfl ?_
                refine At.enter rfl ?_
                refine r_vret ?_
                exact ⟨_, rfl, hI8394, hF8398, rfl⟩
          · have c8369_ : v8368.toInt = (-1) := en_i_ne_f c8369
            refine At.enter rfl ?_
            refine r_aload_n rfl ?_
            refine r_aload_n rfl ?_
            obtain ⟨v8399, hv8399⟩ : ∃ v, gI g8125 176 4 = v := ⟨_, rfl⟩
            have rv8399 := RgF.at hI8126.2.1 (p := 176) (b := 4) rfl
            rw [hv8399] at rv8399
            dsimp only at rv8399
            refine q_getI (Sh.int hI8280.1 kx_176 rfl) v8399 (((hF8281.1 176 4 (by decide)).trans (hF8274.1 176 4 (by decide))).trans hv8399) ?_
            refine q_putI (Sh.int hI8280.1 kx_176 rfl) rfl ?_
            have hI8400 := HI.wI0 hI8280 kx_176 rfl (p := 176) (b := 2) (v := v8399) rfl
            have hF8401 := Fr.wI (p := 176) (b := 2) (v := v8399) hF8284 rfl
            refine Ar.fall 16 rfl ?_
            refine At.enter rfl ?_
            refine q_vret ?_
            refine At.enter rfl ?_
            refine r_goto ?_
            refine At.enter rfl ?_
            refine q_vret ?_
            refine At.enter rfl ?_
            refine r_aload_n e8131 ?_
            refine q_getI (Sh.int hI8400.1 kx_176 rfl) v8399 (gI_sI_eq hI8280.1 kx_176 rfl _) ?_
            refine r_iconst (-1) rfl ?_
            refine r_ics 62 rfl (fun c8402 => ?_) (fun c8402 => ?_)
            · have c8402_ : v8399.toInt ≠ (-1) := en_i_ne_t c8402
              refine At.enter rfl ?_
              refine r_iload_n e8133 ?_
              refine r_ifs 124 rfl (fun c8403 => ?_) (fun c8403 => ?_)
              · have c8403_ : x8123.toInt = 0 := en_k_eq_t c8403
                refine At.enter rfl ?_
                refine r_vret ?_
                exact ⟨_, rfl, hI8400, hF8401, rfl⟩
              · have c8403_ : x8123.toInt ≠ 0 := en_k_eq_f c8403
                refine At.enter rfl ?_
                refine r_aload_n e8131 ?_
                refine q_getR (Sh.ref hI8400.1 kx_176 rfl) ?_
                refine r_bipush 9 rfl ?_
                refine r_iconst 0 rfl ?_
                refine r_callV 134 rfl [.ref 177, .int 9, .int 0] [] (Nat.le_of_ble_eq_true rfl) rfl (T_X4_add_177 _ hI8400 9 0) ?_
                rintro _ _ ⟨g8404, rfl, hI8405, hF8406, v8407, rfl, hr8408⟩
                refine At.sti ?_
                have hF8409 := Fr.tr hF8401 hF8406 rfl rfl
                refine At.enter rfl ?_
                refine r_pop rfl ?_
                refine Ar.fall 135 rfl ?_
                refine At.enter rfl ?_
                refine r_vret ?_
                exact ⟨_, rfl, hI8405, hF8409, rfl⟩
            · have c8402_ : v8399.toInt = (-1) := en_i_ne_f c8402
              exfalso; omega
    · have c8278_ : v8275.toInt ≠ 0 := en_k_eq_f c8278
      refine At.enter rfl ?_
      refine r_aload_n e8131 ?_
      refine r_callV 24 rfl [.ref 176] [] (Nat.le_of_ble_eq_true rfl) rfl (T_X5_step_176 _ hI8273) ?_
      rintro _ _ ⟨g8410, rfl, hI8411, hF8412, rfl⟩
      refine At.stn ?_
      have hF8415 := Fr.tr hF8277 hF8412 rfl rfl
      refine At.enter rfl ?_
      refine r_iload_n e8133 ?_
      refine r_ifs 28 rfl (fun c8416 => ?_) (fun c8416 => ?_)
      · have c8416_ : x8123.toInt ≠ 0 := en_k_ne_t c8416
        refine At.enter rfl ?_
        refine r_iconst 0 rfl ?_
        refine Ar.fall 33 rfl ?_
        refine At.enter rfl ?_
        refine r_istore_n _ rfl ?_
        refine q_iinc (w_p1 (by decide) (Or.inr rfl) e8134) (x8124.toInt + 1) rfl (by omega) (fun v8417 hv8417 => ?_)
        refine r_goto ?_
        exact ih8130 (400 - v8417.toInt) _ _ ⟨0, v8417, by first | rfl | omega, hI8411, hF8415, (w_p1 (by decide) (Or.inr rfl) (w_p1 (by decide) (Or.inr rfl) e8131)), (w_p1 (by decide) (Or.inr rfl) (w_p1 (by decide) (Or.inr rfl) e8132)), (w_p1 (by decide) (Or.inr rfl) (w_e1 _ _ _)), (w_e1 _ _ _), by decide, by omega⟩ ⟨by omega, by omega⟩
      · have c8416_ : x8123.toInt = 0 := en_k_ne_f c8416
        refine At.enter rfl ?_
        refine r_iconst 1 rfl ?_
        refine r_goto ?_
        refine At.enter rfl ?_
        refine r_istore_n _ rfl ?_
        refine q_iinc (w_p1 (by decide) (Or.inr rfl) e8134) (x8124.toInt + 1) rfl (by omega) (fun v8418 hv8418 => ?_)
        refine r_goto ?_
        exact ih8130 (400 - v8418.toInt) _ _ ⟨1, v8418, by first | rfl | omega, hI8411, hF8415, (w_p1 (by decide) (Or.inr rfl) (w_p1 (by decide) (Or.inr rfl) e8131)), (w_p1 (by decide) (Or.inr rfl) (w_p1 (by decide) (Or.inr rfl) e8132)), (w_p1 (by decide) (Or.inr rfl) (w_e1 _ _ _)), (w_e1 _ _ _), by decide, by omega⟩ ⟨by omega, by omega⟩
