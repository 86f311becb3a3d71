def F_X11_sign_231 : List (Nat × Nat) := [(231, 0), (231, 1)]
def A_X11_sign_231 : List Nat := [232, 233]
set_option maxRecDepth 100000 in
set_option maxHeartbeats 4000000 in
theorem T_X11_sign_231 (d : Nat) {N : Nat} {g0 : List en_E} (hI0 : HI g0) (a1 : Int32) (a2 : Int32) : Ev (d + 3) 254 [.ref 231, .int a1, .int a2] (g0, N) (fun w h' => ∃ g', h' = (g', N) ∧ HI g' ∧ Fr F_X11_sign_231 A_X11_sign_231 g0 g' ∧ ∃ r : Int32, w = some (.int r) ∧ ((-5) ≤ r.toInt ∧ r.toInt ≤ 8) ∧ (((¬ (0 ≤ a2.toInt ∧ a2.toInt ≤ 99) → r.toInt = -1 ∧ (eA g' 233 4).toInt = (eA g0 233 4).toInt) ∧ ((0 ≤ a2.toInt ∧ a2.toInt ≤ 99) ∧ ¬ (0 ≤ a1.toInt ∧ a1.toInt < (eA g0 233 0).toInt) → r.toInt = -2 ∧ (eA g' 233 4).toInt = (eA g0 233 4).toInt) ∧ ((0 ≤ a2.toInt ∧ a2.toInt ≤ 99) ∧ (0 ≤ a1.toInt ∧ a1.toInt < (eA g0 233 0).toInt) ∧ 8 ≤ (eA g0 233 4).toInt → r.toInt = -5 ∧ (eA g' 233 4).toInt = (eA g0 233 4).toInt) ∧ ((0 ≤ a2.toInt ∧ a2.toInt ≤ 99) ∧ (0 ≤ a1.toInt ∧ a1.toInt < (eA g0 233 0).toInt) ∧ (eA g0 233 4).toInt < 8 → r.toInt = (eA g0 233 4).toInt + 1 ∧ (eA g' 233 4).toInt = (eA g0 233 4).toInt + 1)) ∧ (eA g' 233 0).toInt = (eA g0 233 0).toInt ∧ (eA g' 233 5).toInt = (eA g0 233 5).toInt ∧ (eA g' 233 6).toInt = (eA g0 233 6).toInt ∧ (eA g' 233 2).toInt = (eA g0 233 2).toInt ∧ (eA g' 233 3).toInt = (eA g0 233 3).toInt)) := by
  have hF0 : Fr F_X11_sign_231 A_X11_sign_231 g0 g0 := Fr.rf
  refine Ev.mk rfl rfl ⟨Nat.le_of_ble_eq_true rfl, Or.inr (q_rc hI0.1 kx_231 rfl)⟩ ?_
  show At _ none _ _ (0, [(0, .ref 231), (1, .int a1), (2, .int a2)], [], (_, _)) _
  refine At.enter rfl ?_
  refine r_aload_n rfl ?_
  refine r_iconst 0 rfl ?_
  refine q_putI (Sh.int hI0.1 kx_231 rfl) rfl ?_
  have hI135 := HI.wI0 hI0 kx_231 rfl (p := 231) (b := 0) (v := 0) rfl
  have hF136 := Fr.wI (p := 231) (b := 0) (v := 0) hF0 rfl
  refine r_iload_n rfl ?_
  refine q_i2l (fun v137 hv137 => ?_)
  refine r_lconst 0 rfl ?_
  refine r_ldc2 99 rfl ?_
  refine q_inlS 14 rfl [.long v137, .long 0, .long 99] [] (Nat.le_of_ble_eq_true rfl) rfl ?_
  refine Ev.mk rfl rfl ⟨Nat.le_of_ble_eq_true rfl, Or.inl rfl⟩ ?_
  show At _ none _ _ (0, [(0, .long v137), (2, .long 0), (4, .long 99)], [], (_, _)) _
  refine At.enter rfl ?_
  refine r_lload_n rfl ?_
  refine r_lload_n rfl ?_
  refine r_lcmp _ rfl ?_
  refine r_ifs 6 rfl (fun c138 => ?_) (fun c138 => ?_)
  · have c138_ : v137.toInt < 0 := en_j_lt_t c138
    refine At.enter rfl ?_
    refine r_iconst 0 rfl ?_
    refine Ar.fall 18 rfl ?_
    refine At.enter rfl ?_
    refine q_iretz (by decide) ?_
    refine At.enter rfl ?_
    refine r_iff 17 rfl (by decide) ?_
    refine At.enter rfl ?_
    refine r_aload_n rfl ?_
    refine r_iconst (-1) rfl ?_
    refine r_callV 22 rfl [.ref 231, .int (-1)] [] (Nat.le_of_ble_eq_true rfl) rfl (T_X11_tell_231 _ hI135 (-1) (by decide)) ?_
    rintro _ _ ⟨g139, rfl, hI140, hF141, v142, rfl, hr143⟩
    refine At.sti ?_
    have hF144 := Fr.tr hF136 hF141 rfl rfl
    have zv145 : ((-1) : Int32).toInt = (-1) := rfl
    refine At.enter rfl ?_
    refine r_ireti ?_
    obtain ⟨v146, hv146⟩ : ∃ v, eA g0 233 4 = v := ⟨_, rfl⟩
    have wv146 := HI.t4 hI0
    rw [hv146] at wv146
    have tv146 := congrArg Int32.toInt hv146
    have x147 := HI.eqA hI140 (p := 233) (j := 4) ((((eA_c (hF141.2.1 233 ma_X11_tell_231_233)).trans (eA_c gA_sI)).trans hv146))
    obtain ⟨v148, hv148⟩ : ∃ v, eA g0 233 0 = v := ⟨_, rfl⟩
    have tv148 := congrArg Int32.toInt hv148
    have wv148 := HI.t0 hI0
    rw [hv148] at wv148
    have tv148 := congrArg Int32.toInt hv148
    have x149 := HI.eqA hI140 (p := 233) (j := 0) ((((eA_c (hF141.2.1 233 ma_X11_tell_231_233)).trans (eA_c gA_sI)).trans hv148))
    obtain ⟨v150, hv150⟩ : ∃ v, eA g0 233 5 = v := ⟨_, rfl⟩
    have wv150 := HI.t5 hI0
    rw [hv150] at wv150
    have tv150 := congrArg Int32.toInt hv150
    have x151 := HI.eqA hI140 (p := 233) (j := 5) ((((eA_c (hF141.2.1 233 ma_X11_tell_231_233)).trans (eA_c gA_sI)).trans hv150))
    obtain ⟨v152, hv152⟩ : ∃ v, eA g0 233 6 = v := ⟨_, rfl⟩
    have wv152 := HI.t6 hI0
    rw [hv152] at wv152
    have tv152 := congrArg Int32.toInt hv152
    have x153 := HI.eqA hI140 (p := 233) (j := 6) ((((eA_c (hF141.2.1 233 ma_X11_tell_231_233)).trans (eA_c gA_sI)).trans hv152))
    obtain ⟨v154, hv154⟩ : ∃ v, eA g0 233 2 = v := ⟨_, rfl⟩
    have tv154 := congrArg Int32.toInt hv154
    have wv154 := HI.t2 hI0
    rw [hv154] at wv154
    have tv154 := congrArg Int32.toInt hv154
    have x155 := HI.eqA hI140 (p := 233) (j := 2) ((((eA_c (hF141.2.1 233 ma_X11_tell_231_233)).trans (eA_c gA_sI)).trans hv154))
    obtain ⟨v156, hv156⟩ : ∃ v, eA g0 233 3 = v := ⟨_, rfl⟩
    have wv156 := HI.t3 hI0
    rw [hv156] at wv156
    have tv156 := congrArg Int32.toInt hv156
    have x157 := HI.eqA hI140 (p := 233) (j := 3) ((((eA_c (hF141.2.1 233 ma_X11_tell_231_233)).trans (eA_c gA_sI)).trans hv156))
    have x158 := HI.eqA hI0 (p := 233) (j := 4) (hv146)
    have x159 := HI.eqA hI0 (p := 233) (j := 0) (hv148)
    have x160 := HI.eqA hI0 (p := 233) (j := 0) (hv148)
    have x161 := HI.eqA hI0 (p := 233) (j := 5) (hv150)
    have x162 := HI.eqA hI0 (p := 233) (j := 6) (hv152)
    have x163 := HI.eqA hI0 (p := 233) (j := 2) (hv154)
    have x164 := HI.eqA hI0 (p := 233) (j := 3) (hv156)
    exact ⟨_, rfl, hI140, hF144, _, rfl, by omega, ⟨by omega, by omega, by omega, by omega, by omega, by omega⟩⟩
  · have c138_ : v137.toInt ≥ 0 := en_j_lt_f c138
    refine At.enter rfl ?_
    refine r_lload_n rfl ?_
    refine r_lload rfl ?_
    refine r_lcmp _ rfl ?_
    refine r_ifs 13 rfl (fun c165 => ?_) (fun c165 => ?_)
    · have c165_ : v137.toInt > 99 := en_j_gt_t c165
      refine At.enter rfl ?_
      refine r_iconst 0 rfl ?_
      refine Ar.fall 18 rfl ?_
      refine At.enter rfl ?_
      refine q_iretz (by decide) ?_
      refine At.enter rfl ?_
      refine r_iff 17 rfl (by decide) ?_
      refine At.enter rfl ?_
      refine r_aload_n rfl ?_
      refine r_iconst (-1) rfl ?_
      refine r_callV 22 rfl [.ref 231, .int (-1)] [] (Nat.le_of_ble_eq_true rfl) rfl (T_X11_tell_231 _ hI135 (-1) (by decide)) ?_
      rintro _ _ ⟨g166, rfl, hI167, hF168, v169, rfl, hr170⟩
      refine At.sti ?_
      have hF171 := Fr.tr hF136 hF168 rfl rfl
      have zv172 : ((-1) : Int32).toInt = (-1) := rfl
      refine At.enter rfl ?_
      refine r_ireti ?_
      obtain ⟨v173, hv173⟩ : ∃ v, eA g0 233 4 = v := ⟨_, rfl⟩
      have wv173 := HI.t4 hI0
      rw [hv173] at wv173
      have tv173 := congrArg Int32.toInt hv173
      have x174 := HI.eqA hI167 (p := 233) (j := 4) ((((eA_c (hF168.2.1 233 ma_X11_tell_231_233)).trans (eA_c gA_sI)).trans hv173))
      obtain ⟨v175, hv175⟩ : ∃ v, eA g0 233 0 = v := ⟨_, rfl⟩
      have tv175 := congrArg Int32.toInt hv175
      have wv175 := HI.t0 hI0
      rw [hv175] at wv175
      have tv175 := congrArg Int32.toInt hv175
      have x176 := HI.eqA hI167 (p := 233) (j := 0) ((((eA_c (hF168.2.1 233 ma_X11_tell_231_233)).trans (eA_c gA_sI)).trans hv175))
      obtain ⟨v177, hv177⟩ : ∃ v, eA g0 233 5 = v := ⟨_, rfl⟩
      have wv177 := HI.t5 hI0
      rw [hv177] at wv177
      have tv177 := congrArg Int32.toInt hv177
      have x178 := HI.eqA hI167 (p := 233) (j := 5) ((((eA_c (hF168.2.1 233 ma_X11_tell_231_233)).trans (eA_c gA_sI)).trans hv177))
      obtain ⟨v179, hv179⟩ : ∃ v, eA g0 233 6 = v := ⟨_, rfl⟩
      have wv179 := HI.t6 hI0
      rw [hv179] at wv179
      have tv179 := congrArg Int32.toInt hv179
      have x180 := HI.eqA hI167 (p := 233) (j := 6) ((((eA_c (hF168.2.1 233 ma_X11_tell_231_233)).trans (eA_c gA_sI)).trans hv179))
      obtain ⟨v181, hv181⟩ : ∃ v, eA g0 233 2 = v := ⟨_, rfl⟩
      have tv181 := congrArg Int32.toInt hv181
      have wv181 := HI.t2 hI0
      rw [hv181] at wv181
      have tv181 := congrArg Int32.toInt hv181
      have x182 := HI.eqA hI167 (p := 233) (j := 2) ((((eA_c (hF168.2.1 233 ma_X11_tell_231_233)).trans (eA_c gA_sI)).trans hv181))
      obtain ⟨v183, hv183⟩ : ∃ v, eA g0 233 3 = v := ⟨_, rfl⟩
      have wv183 := HI.t3 hI0
      rw [hv183] at wv183
      have tv183 := congrArg Int32.toInt hv183
      have x184 := HI.eqA hI167 (p := 233) (j := 3) ((((eA_c (hF168.2.1 233 ma_X11_tell_231_233)).trans (eA_c gA_sI)).trans hv183))
      have x185 := HI.eqA hI0 (p := 233) (j := 4) (hv173)
      have x186 := HI.eqA hI0 (p := 233) (j := 0) (hv175)
      have x187 := HI.eqA hI0 (p := 233) (j := 0) (hv175)
      have x188 := HI.eqA hI0 (p := 233) (j := 5) (hv177)
      have x189 := HI.eqA hI0 (p := 233) (j := 6) (hv179)
      have x190 := HI.eqA hI0 (p := 233) (j := 2) (hv181)
      have x191 := HI.eqA hI0 (p := 233) (j := 3) (hv183)
      exact ⟨_, rfl, hI167, hF171, _, rfl, by omega, ⟨by omega, by omega, by omega, by omega, by omega, by omega⟩⟩
    · have c165_ : v137.toInt ≤ 99 := en_j_gt_f c165
      refine At.enter rfl ?_
      refine r_iconst 1 rfl ?_
      refine r_goto ?_
      refine At.enter rfl ?_
      refine q_iretz (by decide) ?_
      refine At.enter rfl ?_
      refine r_ift (by decide) ?_
      refine At.enter rfl ?_
      refine r_aload_n rfl ?_
      refine r_iload_n rfl ?_
      refine q_inlV 28 rfl [.ref 231, .int a1] [] (Nat.le_of_ble_eq_true rfl) rfl ?_
      refine Ev.mk rfl rfl ⟨Nat.le_of_ble_eq_true rfl, Or.inr (q_rc hI135.1 kx_231 rfl)⟩ ?_
      show At _ none _ _ (0, [(0, .ref 231), (1, .int a1)], [], (_, _)) _
      refine At.enter rfl ?_
      refine r_iload_n rfl ?_
      refine q_i2l (fun v192 hv192 => ?_)
      refine r_lconst 0 rfl ?_
      refine r_aload_n rfl ?_
      refine q_getR (Sh.ref hI135.1 kx_231 rfl) ?_
      refine r_iconst 0 rfl ?_
      obtain ⟨v193, hv193⟩ : ∃ v, eA g0 233 0 = v := ⟨_, rfl⟩
      have tv193 := congrArg Int32.toInt hv193
      have wv193 := HI.t0 hI0
      rw [hv193] at wv193
      refine q_iald (Sh.arr hI135.1 ka_233) 0 rfl (by decide) v193 ((eA_c (gA_sI)).trans hv193) ?_
      refine q_i2l (fun v194 hv194 => ?_)
      refine r_lconst 1 rfl ?_
      refine q_lsub (v194.toInt - 1) rfl (by omega) (fun v195 hv195 => ?_)
      refine q_inlS 15 rfl [.long v192, .long 0, .long v195] [] (Nat.le_of_ble_eq_true rfl) rfl ?_
      refine Ev.mk rfl rfl ⟨Nat.le_of_ble_eq_true rfl, Or.inl rfl⟩ ?_
      show At _ none _ _ (0, [(0, .long v192), (2, .long 0), (4, .long v195)], [], (_, _)) _
      refine At.enter rfl ?_
      refine r_lload_n rfl ?_
      refine r_lload_n rfl ?_
      refine r_lcmp _ rfl ?_
      refine r_ifs 6 rfl (fun c196 => ?_) (fun c196 => ?_)
      · have c196_ : v192.toInt < 0 := en_j_lt_t c196
        refine At.enter rfl ?_
        refine r_iconst 0 rfl ?_
        refine Ar.fall 18 rfl ?_
        refine At.enter rfl ?_
        refine q_iretz (by decide) ?_
        refine At.enter rfl ?_
        refine q_iretz (by decide) ?_
        refine At.enter rfl ?_
        refine r_iff 31 rfl (by decide) ?_
        refine At.enter rfl ?_
        refine r_aload_n rfl ?_
        refine r_bipush (-2) rfl ?_
        refine r_callV 37 rfl [.ref 231, .int (-2)] [] (Nat.le_of_ble_eq_true rfl) rfl (T_X11_tell_231 _ hI135 (-2) (by decide)) ?_
        rintro _ _ ⟨g197, rfl, hI198, hF199, v200, rfl, hr201⟩
        refine At.sti ?_
        have hF202 := Fr.tr hF136 hF199 rfl rfl
        have zv203 : ((-2) : Int32).toInt = (-2) := rfl
        refine At.enter rfl ?_
        refine r_ireti ?_
        obtain ⟨v204, hv204⟩ : ∃ v, eA g0 233 4 = v := ⟨_, rfl⟩
        have wv204 := HI.t4 hI0
        rw [hv204] at wv204
        have tv204 := congrArg Int32.toInt hv204
        have x205 := HI.eqA hI198 (p := 233) (j := 4) ((((eA_c (hF199.2.1 233 ma_X11_tell_231_233)).trans (eA_c gA_sI)).trans hv204))
        have x206 := HI.eqA hI198 (p := 233) (j := 0) ((((eA_c (hF199.2.1 233 ma_X11_tell_231_233)).trans (eA_c gA_sI)).trans hv193))
        obtain ⟨v207, hv207⟩ : ∃ v, eA g0 233 5 = v := ⟨_, rfl⟩
        have wv207 := HI.t5 hI0
        rw [hv207] at wv207
        have tv207 := congrArg Int32.toInt hv207
        have x208 := HI.eqA hI198 (p := 233) (j := 5) ((((eA_c (hF199.2.1 233 ma_X11_tell_231_233)).trans (eA_c gA_sI)).trans hv207))
        obtain ⟨v209, hv209⟩ : ∃ v, eA g0 233 6 = v := ⟨_, rfl⟩
        have wv209 := HI.t6 hI0
        rw [hv209] at wv209
        have tv209 := congrArg Int32.toInt hv209
        have x210 := HI.eqA hI198 (p := 233) (j := 6) ((((eA_c (hF199.2.1 233 ma_X11_tell_231_233)).trans (eA_c gA_sI)).trans hv209))
        obtain ⟨v211, hv211⟩ : ∃ v, eA g0 233 2 = v := ⟨_, rfl⟩
        have tv211 := congrArg Int32.toInt hv211
        have wv211 := HI.t2 hI0
        rw [hv211] at wv211
        have tv211 := congrArg Int32.toInt hv211
        have x212 := HI.eqA hI198 (p := 233) (j := 2) ((((eA_c (hF199.2.1 233 ma_X11_tell_231_233)).trans (eA_c gA_sI)).trans hv211))
        obtain ⟨v213, hv213⟩ : ∃ v, eA g0 233 3 = v := ⟨_, rfl⟩
        have wv213 := HI.t3 hI0
        rw [hv213] at wv213
        have tv213 := congrArg Int32.toInt hv213
        have x214 := HI.eqA hI198 (p := 233) (j := 3) ((((eA_c (hF199.2.1 233 ma_X11_tell_231_233)).trans (eA_c gA_sI)).trans hv213))
        have x215 := HI.eqA hI0 (p := 233) (j := 4) (hv204)
        have x216 := HI.eqA hI0 (p := 233) (j := 0) (hv193)
        have x217 := HI.eqA hI0 (p := 233) (j := 0) (hv193)
        have x218 := HI.eqA hI0 (p := 233) (j := 5) (hv207)
        have x219 := HI.eqA hI0 (p := 233) (j := 6) (hv209)
        have x220 := HI.eqA hI0 (p := 233) (j := 2) (hv211)
        have x221 := HI.eqA hI0 (p := 233) (j := 3) (hv213)
        exact ⟨_, rfl, hI198, hF202, _, rfl, by omega, ⟨by omega, by omega, by omega, by omega, by omega, by omega⟩⟩
      · have c196_ : v192.toInt ≥ 0 := en_j_lt_f c196
        refine At.enter rfl ?_
        refine r_lload_n rfl ?_
        refine r_lload rfl ?_
        refine r_lcmp _ rfl ?_
        refine r_ifs 13 rfl (fun c222 => ?_) (fun c222 => ?_)
        · have c222_ : v192.toInt > v195.toInt := en_j_gt_t c222
          refine At.enter rfl ?_
          refine r_iconst 0 rfl ?_
          refine Ar.fall 18 rfl ?_
          refine At.enter rfl ?_
          refine q_iretz (by decide) ?_
          refine At.enter rfl ?_
          refine q_iretz (by decide) ?_
          refine At.enter rfl ?_
          refine r_iff 31 rfl (by decide) ?_
          refine At.enter rfl ?_
          refine r_aload_n rfl ?_
          refine r_bipush (-2) rfl ?_
          refine r_callV 37 rfl [.ref 231, .int (-2)] [] (Nat.le_of_ble_eq_true rfl) rfl (T_X11_tell_231 _ hI135 (-2) (by decide)) ?_
          rintro _ _ ⟨g223, rfl, hI224, hF225, v226, rfl, hr227⟩
          refine At.sti ?_
          have hF228 := Fr.tr hF136 hF225 rfl rfl
          have zv229 : ((-2) : Int32).toInt = (-2) := rfl
          refine At.enter rfl ?_
          refine r_ireti ?_
          obtain ⟨v230, hv230⟩ : ∃ v, eA g0 233 4 = v := ⟨_, rfl⟩
          have wv230 := HI.t4 hI0
          rw [hv230] at wv230
          have tv230 := congrArg Int32.toInt hv230
          have x231 := HI.eqA hI224 (p := 233) (j := 4) ((((eA_c (hF225.2.1 233 ma_X11_tell_231_233)).trans (eA_c gA_sI)).trans hv230))
          have x232 := HI.eqA hI224 (p := 233) (j := 0) ((((eA_c (hF225.2.1 233 ma_X11_tell_231_233)).trans (eA_c gA_sI)).trans hv193))
          obtain ⟨v233, hv233⟩ : ∃ v, eA g0 233 5 = v := ⟨_, rfl⟩
          have wv233 := HI.t5 hI0
          rw [hv233] at wv233
          have tv233 := congrArg Int32.toInt hv233
          have x234 := HI.eqA hI224 (p := 233) (j := 5) ((((eA_c (hF225.2.1 233 ma_X11_tell_231_233)).trans (eA_c gA_sI)).trans hv233))
          obtain ⟨v235, hv235⟩ : ∃ v, eA g0 233 6 = v := ⟨_, rfl⟩
          have wv235 := HI.t6 hI0
          rw [hv235] at wv235
          have tv235 := congrArg Int32.toInt hv235
          have x236 := HI.eqA hI224 (p := 233) (j := 6) ((((eA_c (hF225.2.1 233 ma_X11_tell_231_233)).trans (eA_c gA_sI)).trans hv235))
          obtain ⟨v237, hv237⟩ : ∃ v, eA g0 233 2 = v := ⟨_, rfl⟩
          have tv237 := congrArg Int32.toInt hv237
          have wv237 := HI.t2 hI0
          rw [hv237] at wv237
          have tv237 := congrArg Int32.toInt hv237
          have x238 := HI.eqA hI224 (p := 233) (j := 2) ((((eA_c (hF225.2.1 233 ma_X11_tell_231_233)).trans (eA_c gA_sI)).trans hv237))
          obtain ⟨v239, hv239⟩ : ∃ v, eA g0 233 3 = v := ⟨_, rfl⟩
          have wv239 := HI.t3 hI0
          rw [hv239] at wv239
          have tv239 := congrArg Int32.toInt hv239
          have x240 := HI.eqA hI224 (p := 233) (j := 3) ((((eA_c (hF225.2.1 233 ma_X11_tell_231_233)).trans (eA_c gA_sI)).trans hv239))
          have x241 := HI.eqA hI0 (p := 233) (j := 4) (hv230)
          have x242 := HI.eqA hI0 (p := 233) (j := 0) (hv193)
          have x243 := HI.eqA hI0 (p := 233) (j := 0) (hv193)
          have x244 := HI.eqA hI0 (p := 233) (j := 5) (hv233)
          have x245 := HI.eqA hI0 (p := 233) (j := 6) (hv235)
          have x246 := HI.eqA hI0 (p := 233) (j := 2) (hv237)
          have x247 := HI.eqA hI0 (p := 233) (j := 3) (hv239)
          exact ⟨_, rfl, hI224, hF228, _, rfl, by omega, ⟨by omega, by omega, by omega, by omega, by omega, by omega⟩⟩
        · have c222_ : v192.toInt ≤ v195.toInt := en_j_gt_f c222
          refine At.enter rfl ?_
          refine r_iconst 1 rfl ?_
          refine r_goto ?_
          refine At.enter rfl ?_
          refine q_iretz (by decide) ?_
          refine At.enter rfl ?_
          refine q_iretz (by decide) ?_
          refine At.enter rfl ?_
          refine r_ift (by decide) ?_
          refine At.enter rfl ?_
          refine r_aload_n rfl ?_
          refine q_getR (Sh.ref hI135.1 kx_231 rfl) ?_
          refine r_iconst 4 rfl ?_
          obtain ⟨v248, hv248⟩ : ∃ v, eA g0 233 4 = v := ⟨_, rfl⟩
          have wv248 := HI.t4 hI0
          rw [hv248] at wv248
          refine q_iald (Sh.arr hI135.1 ka_233) 4 rfl (by decide) v248 ((eA_c (gA_sI)).trans hv248) ?_
          refine r_istore_n ([(3, .int v248), (0, .ref 231), (1, .int a1), (2, .int a2)]) rfl ?_
          refine r_iload_n rfl ?_
          refine r_bipush 8 rfl ?_
          refine r_ics 51 rfl (fun c249 => ?_) (fun c249 => ?_)
          · have c249_ : v248.toInt ≠ 8 := en_i_ne_t c249
            refine At.enter rfl ?_
            refine r_aload_n rfl ?_
            refine q_getR (Sh.ref hI135.1 kx_231 rfl) ?_
            refine r_bipush 94 rfl ?_
            refine r_iconst 2 rfl ?_
            refine r_iload_n rfl ?_
            refine q_imul (2 * v248.toInt) rfl (by omega) (fun v250 hv250 => ?_)
            refine q_iadd (94 + v250.toInt) rfl (by omega) (fun v251 hv251 => ?_)
            refine r_iload_n rfl ?_
            refine q_iast (Sh.arr hI135.1 ka_233) ((2 * v248.toInt + 94)) (by omega) (by omega) ?_
            have hI252 := HI.wg hI135 (j := (2 * v248.toInt + 94)) (v := a1) (v248.toInt) 0 (by omega) (by decide) (by omega) (by omega)
            have hF253 := Fr.wA (p := 233) (j := (2 * v248.toInt + 94)) (v := a1) hF136 rfl
            refine r_aload_n rfl ?_
            refine q_getR (Sh.ref hI252.1 kx_231 rfl) ?_
            refine r_bipush 94 rfl ?_
            refine r_iconst 2 rfl ?_
            refine r_iload_n rfl ?_
            refine q_imul (2 * v248.toInt) rfl (by omega) (fun v254 hv254 => ?_)
            refine q_iadd (94 + v254.toInt) rfl (by omega) (fun v255 hv255 => ?_)
            refine r_iconst 1 rfl ?_
            refine q_iadd (v255.toInt + 1) rfl (by omega) (fun v256 hv256 => ?_)
            refine r_iload_n rfl ?_
            refine q_iast (Sh.arr hI252.1 ka_233) ((2 * v248.toInt + 95)) (by omega) (by omega) ?_
            have hI257 := HI.wg hI252 (j := (2 * v248.toInt + 95)) (v := a2) (v248.toInt) 1 (by omega) (by decide) (by omega) (by omega)
            have hF258 := Fr.wA (p := 233) (j := (2 * v248.toInt + 95)) (v := a2) hF253 rfl
            refine r_aload_n rfl ?_
            refine q_getR (Sh.ref hI257.1 kx_231 rfl) ?_
            refine r_iconst 4 rfl ?_
            refine r_dup2 ⟨rfl, rfl⟩ ?_
            refine q_iald (Sh.arr hI257.1 ka_233) 4 rfl (by decide) v248 (((eA_sA_ne hI252.1 ka_233 (by first | decide | omega) (by first | decide | omega) (by first | decide | omega)).trans ((eA_sA_ne hI135.1 ka_233 (by first | decide | omega) (by first | decide | omega) (by first | decide | omega)).trans (eA_c gA_sI))).trans hv248) ?_
            refine r_iconst 1 rfl ?_
            refine q_iadd (v248.toInt + 1) rfl (by omega) (fun v259 hv259 => ?_)
            refine q_iast (Sh.arr hI257.1 ka_233) (4) rfl (by decide) ?_
            have hI260 := HI.wt hI257 (j := 4) (v := v259) (by omega) (by omega)
            have hF261 := Fr.wA (p := 233) (j := 4) (v := v259) hF258 rfl
            refine r_aload_n rfl ?_
            refine r_iload_n rfl ?_
            refine r_iconst 1 rfl ?_
            refine q_iadd (v248.toInt + 1) rfl (by omega) (fun v262 hv262 => ?_)
            refine r_callV 101 rfl [.ref 231, .int v262] [] (Nat.le_of_ble_eq_true rfl) rfl (T_X11_tell_231 _ hI260 v262 (by omega)) ?_
            rintro _ _ ⟨g263, rfl, hI264, hF265, v266, rfl, hr267⟩
            refine At.sti ?_
            have hF268 := Fr.tr hF261 hF265 rfl rfl
            refine At.enter rfl ?_
            refine r_ireti ?_
            have x269 := HI.eqA hI264 (p := 233) (j := 4) (((eA_c (hF265.2.1 233 ma_X11_tell_231_233)).trans (eA_sA_eq hI257.1 ka_233 (by first | rfl | omega) (by first | decide | omega) (by first | decide | omega))))
            have x270 := HI.eqA hI264 (p := 233) (j := 0) ((((eA_c (hF265.2.1 233 ma_X11_tell_231_233)).trans ((eA_sA_ne hI257.1 ka_233 (by first | decide | omega) (by first | decide | omega) (by first | decide | omega)).trans ((eA_sA_ne hI252.1 ka_233 (by first | decide | omega) (by first | decide | omega) (by first | decide | omega)).trans ((eA_sA_ne hI135.1 ka_233 (by first | decide | omega) (by first | decide | omega) (by first | decide | omega)).trans (eA_c gA_sI))))).trans hv193))
            obtain ⟨v271, hv271⟩ : ∃ v, eA g0 233 5 = v := ⟨_, rfl⟩
            have wv271 := HI.t5 hI0
            rw [hv271] at wv271
            have tv271 := congrArg Int32.toInt hv271
            have x272 := HI.eqA hI264 (p := 233) (j := 5) ((((eA_c (hF265.2.1 233 ma_X11_tell_231_233)).trans ((eA_sA_ne hI257.1 ka_233 (by first | decide | omega) (by first | decide | omega) (by first | decide | omega)).trans ((eA_sA_ne hI252.1 ka_233 (by first | decide | omega) (by first | decide | omega) (by first | decide | omega)).trans ((eA_sA_ne hI135.1 ka_233 (by first | decide | omega) (by first | decide | omega) (by first | decide | omega)).trans (eA_c gA_sI))))).trans hv271))
            obtain ⟨v273, hv273⟩ : ∃ v, eA g0 233 6 = v := ⟨_, rfl⟩
            have wv273 := HI.t6 hI0
            rw [hv273] at wv273
            have tv273 := congrArg Int32.toInt hv273
            have x274 := HI.eqA hI264 (p := 233) (j := 6) ((((eA_c (hF265.2.1 233 ma_X11_tell_231_233)).trans ((eA_sA_ne hI257.1 ka_233 (by first | decide | omega) (by first | decide | omega) (by first | decide | omega)).trans ((eA_sA_ne hI252.1 ka_233 (by first | decide | omega) (by first | decide | omega) (by first | decide | omega)).trans ((eA_sA_ne hI135.1 ka_233 (by first | decide | omega) (by first | decide | omega) (by first | decide | omega)).trans (eA_c gA_sI))))).trans hv273))
            obtain ⟨v275, hv275⟩ : ∃ v, eA g0 233 2 = v := ⟨_, rfl⟩
            have tv275 := congrArg Int32.toInt hv275
            have wv275 := HI.t2 hI0
            rw [hv275] at wv275
            have tv275 := congrArg Int32.toInt hv275
            have x276 := HI.eqA hI264 (p := 233) (j := 2) ((((eA_c (hF265.2.1 233 ma_X11_tell_231_233)).trans ((eA_sA_ne hI257.1 ka_233 (by first | decide | omega) (by first | decide | omega) (by first | decide | omega)).trans ((eA_sA_ne hI252.1 ka_233 (by first | decide | omega) (by first | decide | omega) (by first | decide | omega)).trans ((eA_sA_ne hI135.1 ka_233 (by first | decide | omega) (by first | decide | omega) (by first | decide | omega)).trans (eA_c gA_sI))))).trans hv275))
            obtain ⟨v277, hv277⟩ : ∃ v, eA g0 233 3 = v := ⟨_, rfl⟩
            have wv277 := HI.t3 hI0
            rw [hv277] at wv277
            have tv277 := congrArg Int32.toInt hv277
            have x278 := HI.eqA hI264 (p := 233) (j := 3) ((((eA_c (hF265.2.1 233 ma_X11_tell_231_233)).trans ((eA_sA_ne hI257.1 ka_233 (by first | decide | omega) (by first | decide | omega) (by first | decide | omega)).trans ((eA_sA_ne hI252.1 ka_233 (by first | decide | omega) (by first | decide | omega) (by first | decide | omega)).trans ((eA_sA_ne hI135.1 ka_233 (by first | decide | omega) (by first | decide | omega) (by first | decide | omega)).trans (eA_c gA_sI))))).trans hv277))
            have x279 := HI.eqA hI0 (p := 233) (j := 4) (hv248)
            have x280 := HI.eqA hI0 (p := 233) (j := 0) (hv193)
            have x281 := HI.eqA hI0 (p := 233) (j := 0) (hv193)
            have x282 := HI.eqA hI0 (p := 233) (j := 5) (hv271)
            have x283 := HI.eqA hI0 (p := 233) (j := 6) (hv273)
            have x284 := HI.eqA hI0 (p := 233) (j := 2) (hv275)
            have x285 := HI.eqA hI0 (p := 233) (j := 3) (hv277)
            exact ⟨_, rfl, hI264, hF268, _, rfl, by omega, ⟨by omega, by omega, by omega, by omega, by omega, by omega⟩⟩
          · have c249_ : v248.toInt = 8 := en_i_ne_f c249
            refine At.enter rfl ?_
            refine r_aload_n rfl ?_
            refine r_bipush (-5) rfl ?_
            refine r_callV 57 rfl [.ref 231, .int (-5)] [] (Nat.le_of_ble_eq_true rfl) rfl (T_X11_tell_231 _ hI135 (-5) (by decide)) ?_
            rintro _ _ ⟨g286, rfl, hI287, hF288, v289, rfl, hr290⟩
            refine At.sti ?_
            have hF291 := Fr.tr hF136 hF288 rfl rfl
            have zv292 : ((-5) : Int32).toInt = (-5) := rfl
            refine At.enter rfl ?_
            refine r_ireti ?_
            have x293 := HI.eqA hI287 (p := 233) (j := 4) ((((eA_c (hF288.2.1 233 ma_X11_tell_231_233)).trans (eA_c gA_sI)).trans hv248))
            have x294 := HI.eqA hI287 (p := 233) (j := 0) ((((eA_c (hF288.2.1 233 ma_X11_tell_231_233)).trans (eA_c gA_sI)).trans hv193))
            obtain ⟨v295, hv295⟩ : ∃ v, eA g0 233 5 = v := ⟨_, rfl⟩
            have wv295 := HI.t5 hI0
            rw [hv295] at wv295
            have tv295 := congrArg Int32.toInt hv295
            have x296 := HI.eqA hI287 (p := 233) (j := 5) ((((eA_c (hF288.2.1 233 ma_X11_tell_231_233)).trans (eA_c gA_sI)).trans hv295))
            obtain ⟨v297, hv297⟩ : ∃ v, eA g0 233 6 = v := ⟨_, rfl⟩
            have wv297 := HI.t6 hI0
            rw [hv297] at wv297
            have tv297 := congrArg Int32.toInt hv297
            have x298 := HI.eqA hI287 (p := 233) (j := 6) ((((eA_c (hF288.2.1 233 ma_X11_tell_231_233)).trans (eA_c gA_sI)).trans hv297))
            obtain ⟨v299, hv299⟩ : ∃ v, eA g0 233 2 = v := ⟨_, rfl⟩
            have tv299 := congrArg Int32.toInt hv299
            have wv299 := HI.t2 hI0
            rw [hv299] at wv299
            have tv299 := congrArg Int32.toInt hv299
            have x300 := HI.eqA hI287 (p := 233) (j := 2) ((((eA_c (hF288.2.1 233 ma_X11_tell_231_233)).trans (eA_c gA_sI)).trans hv299))
            obtain ⟨v301, hv301⟩ : ∃ v, eA g0 233 3 = v := ⟨_, rfl⟩
            have wv301 := HI.t3 hI0
            rw [hv301] at wv301
            have tv301 := congrArg Int32.toInt hv301
            have x302 := HI.eqA hI287 (p := 233) (j := 3) ((((eA_c (hF288.2.1 233 ma_X11_tell_231_233)).trans (eA_c gA_sI)).trans hv301))
            have x303 := HI.eqA hI0 (p := 233) (j := 4) (hv248)
            have x304 := HI.eqA hI0 (p := 233) (j := 0) (hv193)
            have x305 := HI.eqA hI0 (p := 233) (j := 0) (hv193)
            have x306 := HI.eqA hI0 (p := 233) (j := 5) (hv295)
            have x307 := HI.eqA hI0 (p := 233) (j := 6) (hv297)
            have x308 := HI.eqA hI0 (p := 233) (j := 2) (hv299)
            have x309 := HI.eqA hI0 (p := 233) (j := 3) (hv301)
            exact ⟨_, rfl, hI287, hF291, _, rfl, by omega, ⟨by omega, by omega, by omega, by omega, by omega, by omega⟩⟩
