def F_X11_sign_231 : List (Nat × Nat) := [(231, 0), (231, 1)]
def A_X11_sign_231 : List Nat := [232, 233]
set_option maxRecDepth 100000 in
set_option maxHeartbeats 4000000 in
theorem T_X11_sign_231 (d : Nat) {N : Nat} {g0 : List en_E} (hI0 : HI g0) (a1 : Int32) (a2 : Int32) : Ev (d + 3) 254 [.ref 231, .int a1, .int a2] (g0, N) (fun w h' => ∃ g', h' = (g', N) ∧ HI g' ∧ Fr F_X11_sign_231 A_X11_sign_231 g0 g' ∧ ∃ r : Int32, w = some (.int r) ∧ ((-5) ≤ r.toInt ∧ r.toInt ≤ 8) ∧ (((((¬ (0 ≤ a2.toInt ∧ a2.toInt ≤ 99) → r.toInt = -1 ∧ (eA g' 233 4).toInt = (eA g0 233 4).toInt) ∧ ((0 ≤ a2.toInt ∧ a2.toInt ≤ 99) ∧ ¬ (0 ≤ a1.toInt ∧ a1.toInt < (eA g0 233 0).toInt) → r.toInt = -2 ∧ (eA g' 233 4).toInt = (eA g0 233 4).toInt) ∧ ((0 ≤ a2.toInt ∧ a2.toInt ≤ 99) ∧ (0 ≤ a1.toInt ∧ a1.toInt < (eA g0 233 0).toInt) ∧ 8 ≤ (eA g0 233 4).toInt → r.toInt = -5 ∧ (eA g' 233 4).toInt = (eA g0 233 4).toInt) ∧ ((0 ≤ a2.toInt ∧ a2.toInt ≤ 99) ∧ (0 ≤ a1.toInt ∧ a1.toInt < (eA g0 233 0).toInt) ∧ (eA g0 233 4).toInt < 8 → r.toInt = (eA g0 233 4).toInt + 1 ∧ (eA g' 233 4).toInt = (eA g0 233 4).toInt + 1)) ∧ (eA g' 233 0).toInt = (eA g0 233 0).toInt ∧ (eA g' 233 5).toInt = (eA g0 233 5).toInt ∧ (eA g' 233 6).toInt = (eA g0 233 6).toInt ∧ (eA g' 233 1).toInt = (eA g0 233 1).toInt ∧ (eA g' 233 2).toInt = (eA g0 233 2).toInt ∧ (eA g' 233 3).toInt = (eA g0 233 3).toInt) ∧ (∀ i : Int, 10 ≤ i → i < 110 → (eA g' 233 (i)).toInt = if (0 ≤ a2.toInt ∧ a2.toInt ≤ 99 ∧ 0 ≤ a1.toInt ∧ a1.toInt < (eA g0 233 0).toInt ∧ (eA g0 233 4).toInt < 8) ∧ i = 94 + 2 * (eA g0 233 4).toInt + 0 then a1.toInt else if (0 ≤ a2.toInt ∧ a2.toInt ≤ 99 ∧ 0 ≤ a1.toInt ∧ a1.toInt < (eA g0 233 0).toInt ∧ (eA g0 233 4).toInt < 8) ∧ i = 94 + 2 * (eA g0 233 4).toInt + 1 then a2.toInt else (eA g0 233 (i)).toInt)) ∧ SU r.toInt (gI g' 231 1).toInt)) := by
  have hF0 : Fr F_X11_sign_231 A_X11_sign_231 g0 g0 := Fr.rf
  refine Ev.mk rfl rfl ⟨Nat.le_of_ble_eq_true rfl, Or.inr (q_rc hI0.1 kx_231 rfl)⟩ ?_
  show At _ none _ _ (0, [(0, .ref 231), (1, .int a1), (2, .int a2)], [], (_, _)) _
  refine At.enter rfl ?_
  refine r_aload_n rfl ?_
  refine r_iconst 0 rfl ?_
  refine q_putI (Sh.int hI0.1 kx_231 rfl) rfl ?_
  have hI135 := HI.wI0 hI0 kx_231 rfl (p := 231) (b := 0) (v := 0) rfl
  have hF136 := Fr.wI (p := 231) (b := 0) (v := 0) hF0 rfl
  refine r_iload_n rfl ?_
  refine q_i2l (fun v137 hv137 => ?_)
  refine r_lconst 0 rfl ?_
  refine r_ldc2 99 rfl ?_
  refine q_inlS 14 rfl [.long v137, .long 0, .long 99] [] (Nat.le_of_ble_eq_true rfl) rfl ?_
  refine Ev.mk rfl rfl ⟨Nat.le_of_ble_eq_true rfl, Or.inl rfl⟩ ?_
  show At _ none _ _ (0, [(0, .long v137), (2, .long 0), (4, .long 99)], [], (_, _)) _
  refine At.enter rfl ?_
  refine r_lload_n rfl ?_
  refine r_lload_n rfl ?_
  refine r_lcmp _ rfl ?_
  refine r_ifs 6 rfl (fun c138 => ?_) (fun c138 => ?_)
  · have c138_ : v137.toInt < 0 := en_j_lt_t c138
    refine At.enter rfl ?_
    refine r_iconst 0 rfl ?_
    refine Ar.fall 18 rfl ?_
    refine At.enter rfl ?_
    refine q_iretz (by decide) ?_
    refine At.enter rfl ?_
    refine r_iff 17 rfl (by decide) ?_
    refine At.enter rfl ?_
    refine r_aload_n rfl ?_
    refine r_iconst (-1) rfl ?_
    refine r_callV 22 rfl [.ref 231, .int (-1)] [] (Nat.le_of_ble_eq_true rfl) rfl (T_X11_tell_231 _ hI135 (-1) (by decide)) ?_
    rintro _ _ ⟨g139, rfl, hI140, hF141, v142, rfl, hr143⟩
    refine At.sti ?_
    have hF144 := Fr.tr hF136 hF141 rfl rfl
    have zv145 : ((-1) : Int32).toInt = (-1) := rfl
    refine At.enter rfl ?_
    refine r_ireti ?_
    obtain ⟨v146, hv146⟩ : ∃ v, eA g0 233 4 = v := ⟨_, rfl⟩
    have wv146 := HI.t4 hI0
    rw [hv146] at wv146
    have tv146 := congrArg Int32.toInt hv146
    have x147 := HI.eqA hI140 (p := 233) (j := 4) ((((eA_c (hF141.2.1 233 ma_X11_tell_231_233)).trans (eA_c gA_sI)).trans hv146))
    obtain ⟨v148, hv148⟩ : ∃ v, eA g0 233 0 = v := ⟨_, rfl⟩
    have tv148 := congrArg Int32.toInt hv148
    have wv148 := HI.t0 hI0
    rw [hv148] at wv148
    have tv148 := congrArg Int32.toInt hv148
    have x149 := HI.eqA hI140 (p := 233) (j := 0) ((((eA_c (hF141.2.1 233 ma_X11_tell_231_233)).trans (eA_c gA_sI)).trans hv148))
    obtain ⟨v150, hv150⟩ : ∃ v, eA g0 233 5 = v := ⟨_, rfl⟩
    have wv150 := HI.t5 hI0
    rw [hv150] at wv150
    have tv150 := congrArg Int32.toInt hv150
    have x151 := HI.eqA hI140 (p := 233) (j := 5) ((((eA_c (hF141.2.1 233 ma_X11_tell_231_233)).trans (eA_c gA_sI)).trans hv150))
    obtain ⟨v152, hv152⟩ : ∃ v, eA g0 233 6 = v := ⟨_, rfl⟩
    have wv152 := HI.t6 hI0
    rw [hv152] at wv152
    have tv152 := congrArg Int32.toInt hv152
    have x153 := HI.eqA hI140 (p := 233) (j := 6) ((((eA_c (hF141.2.1 233 ma_X11_tell_231_233)).trans (eA_c gA_sI)).trans hv152))
    obtain ⟨v154, hv154⟩ : ∃ v, eA g0 233 1 = v := ⟨_, rfl⟩
    have tv154 := congrArg Int32.toInt hv154
    have wv154 := HI.t1 hI0
    rw [hv154] at wv154
    have tv154 := congrArg Int32.toInt hv154
    have x155 := HI.eqA hI140 (p := 233) (j := 1) ((((eA_c (hF141.2.1 233 ma_X11_tell_231_233)).trans (eA_c gA_sI)).trans hv154))
    obtain ⟨v156, hv156⟩ : ∃ v, eA g0 233 2 = v := ⟨_, rfl⟩
    have tv156 := congrArg Int32.toInt hv156
    have wv156 := HI.t2 hI0
    rw [hv156] at wv156
    have tv156 := congrArg Int32.toInt hv156
    have x157 := HI.eqA hI140 (p := 233) (j := 2) ((((eA_c (hF141.2.1 233 ma_X11_tell_231_233)).trans (eA_c gA_sI)).trans hv156))
    obtain ⟨v158, hv158⟩ : ∃ v, eA g0 233 3 = v := ⟨_, rfl⟩
    have wv158 := HI.t3 hI0
    rw [hv158] at wv158
    have tv158 := congrArg Int32.toInt hv158
    have x159 := HI.eqA hI140 (p := 233) (j := 3) ((((eA_c (hF141.2.1 233 ma_X11_tell_231_233)).trans (eA_c gA_sI)).trans hv158))
    have x160 := HI.eqA hI0 (p := 233) (j := 4) (hv146)
    have x161 := HI.eqA hI0 (p := 233) (j := 0) (hv148)
    have x162 := HI.eqA hI0 (p := 233) (j := 0) (hv148)
    have x163 := HI.eqA hI0 (p := 233) (j := 5) (hv150)
    have x164 := HI.eqA hI0 (p := 233) (j := 6) (hv152)
    have x165 := HI.eqA hI0 (p := 233) (j := 1) (hv154)
    have x166 := HI.eqA hI0 (p := 233) (j := 2) (hv156)
    have x167 := HI.eqA hI0 (p := 233) (j := 3) (hv158)
    have x168 := HI.eqA hI0 (p := 233) (j := 0) (hv148)
    have x169 := HI.eqA hI0 (p := 233) (j := 4) (hv146)
    obtain ⟨v170, hv170⟩ : ∃ v, gI g139 231 1 = v := ⟨_, rfl⟩
    have tv170 := congrArg Int32.toInt hv170
    exact ⟨_, rfl, hI140, hF144, _, rfl, by omega, ⟨⟨⟨by omega, by omega, by omega, by omega, by omega, by omega, by omega⟩, (by intro i i0 i1; refine Eq.trans ?_ (if_neg (show ¬ ((0 ≤ a2.toInt ∧ a2.toInt ≤ 99 ∧ 0 ≤ a1.toInt ∧ a1.toInt < (eA g0 233 0).toInt ∧ (eA g0 233 4).toInt < 8) ∧ i = 94 + 2 * (eA g0 233 4).toInt + 0) from by omega)).symm; refine Eq.trans ?_ (if_neg (show ¬ ((0 ≤ a2.toInt ∧ a2.toInt ≤ 99 ∧ 0 ≤ a1.toInt ∧ a1.toInt < (eA g0 233 0).toInt ∧ (eA g0 233 4).toInt < 8) ∧ i = 94 + 2 * (eA g0 233 4).toInt + 1) from by omega)).symm; refine (eA_ti (((hF141.2.1 233 ma_X11_tell_231_233).trans (gA_sI)))).trans ?_; (first | with_reducible rfl | omega | exact eA_ix (by omega) | rfl))⟩, (SU.mk (by omega))⟩⟩
  · have c138_ : v137.toInt ≥ 0 := en_j_lt_f c138
    refine At.enter rfl ?_
    refine r_lload_n rfl ?_
    refine r_lload rfl ?_
    refine r_lcmp _ rfl ?_
    refine r_ifs 13 rfl (fun c172 => ?_) (fun c172 => ?_)
    · have c172_ : v137.toInt > 99 := en_j_gt_t c172
      refine At.enter rfl ?_
      refine r_iconst 0 rfl ?_
      refine Ar.fall 18 rfl ?_
      refine At.enter rfl ?_
      refine q_iretz (by decide) ?_
      refine At.enter rfl ?_
      refine r_iff 17 rfl (by decide) ?_
      refine At.enter rfl ?_
      refine r_aload_n rfl ?_
      refine r_iconst (-1) rfl ?_
      refine r_callV 22 rfl [.ref 231, .int (-1)] [] (Nat.le_of_ble_eq_true rfl) rfl (T_X11_tell_231 _ hI135 (-1) (by decide)) ?_
      rintro _ _ ⟨g173, rfl, hI174, hF175, v176, rfl, hr177⟩
      refine At.sti ?_
      have hF178 := Fr.tr hF136 hF175 rfl rfl
      have zv179 : ((-1) : Int32).toInt = (-1) := rfl
      refine At.enter rfl ?_
      refine r_ireti ?_
      obtain ⟨v180, hv180⟩ : ∃ v, eA g0 233 4 = v := ⟨_, rfl⟩
      have wv180 := HI.t4 hI0
      rw [hv180] at wv180
      have tv180 := congrArg Int32.toInt hv180
      have x181 := HI.eqA hI174 (p := 233) (j := 4) ((((eA_c (hF175.2.1 233 ma_X11_tell_231_233)).trans (eA_c gA_sI)).trans hv180))
      obtain ⟨v182, hv182⟩ : ∃ v, eA g0 233 0 = v := ⟨_, rfl⟩
      have tv182 := congrArg Int32.toInt hv182
      have wv182 := HI.t0 hI0
      rw [hv182] at wv182
      have tv182 := congrArg Int32.toInt hv182
      have x183 := HI.eqA hI174 (p := 233) (j := 0) ((((eA_c (hF175.2.1 233 ma_X11_tell_231_233)).trans (eA_c gA_sI)).trans hv182))
      obtain ⟨v184, hv184⟩ : ∃ v, eA g0 233 5 = v := ⟨_, rfl⟩
      have wv184 := HI.t5 hI0
      rw [hv184] at wv184
      have tv184 := congrArg Int32.toInt hv184
      have x185 := HI.eqA hI174 (p := 233) (j := 5) ((((eA_c (hF175.2.1 233 ma_X11_tell_231_233)).trans (eA_c gA_sI)).trans hv184))
      obtain ⟨v186, hv186⟩ : ∃ v, eA g0 233 6 = v := ⟨_, rfl⟩
      have wv186 := HI.t6 hI0
      rw [hv186] at wv186
      have tv186 := congrArg Int32.toInt hv186
      have x187 := HI.eqA hI174 (p := 233) (j := 6) ((((eA_c (hF175.2.1 233 ma_X11_tell_231_233)).trans (eA_c gA_sI)).trans hv186))
      obtain ⟨v188, hv188⟩ : ∃ v, eA g0 233 1 = v := ⟨_, rfl⟩
      have tv188 := congrArg Int32.toInt hv188
      have wv188 := HI.t1 hI0
      rw [hv188] at wv188
      have tv188 := congrArg Int32.toInt hv188
      have x189 := HI.eqA hI174 (p := 233) (j := 1) ((((eA_c (hF175.2.1 233 ma_X11_tell_231_233)).trans (eA_c gA_sI)).trans hv188))
      obtain ⟨v190, hv190⟩ : ∃ v, eA g0 233 2 = v := ⟨_, rfl⟩
      have tv190 := congrArg Int32.toInt hv190
      have wv190 := HI.t2 hI0
      rw [hv190] at wv190
      have tv190 := congrArg Int32.toInt hv190
      have x191 := HI.eqA hI174 (p := 233) (j := 2) ((((eA_c (hF175.2.1 233 ma_X11_tell_231_233)).trans (eA_c gA_sI)).trans hv190))
      obtain ⟨v192, hv192⟩ : ∃ v, eA g0 233 3 = v := ⟨_, rfl⟩
      have wv192 := HI.t3 hI0
      rw [hv192] at wv192
      have tv192 := congrArg Int32.toInt hv192
      have x193 := HI.eqA hI174 (p := 233) (j := 3) ((((eA_c (hF175.2.1 233 ma_X11_tell_231_233)).trans (eA_c gA_sI)).trans hv192))
      have x194 := HI.eqA hI0 (p := 233) (j := 4) (hv180)
      have x195 := HI.eqA hI0 (p := 233) (j := 0) (hv182)
      have x196 := HI.eqA hI0 (p := 233) (j := 0) (hv182)
      have x197 := HI.eqA hI0 (p := 233) (j := 5) (hv184)
      have x198 := HI.eqA hI0 (p := 233) (j := 6) (hv186)
      have x199 := HI.eqA hI0 (p := 233) (j := 1) (hv188)
      have x200 := HI.eqA hI0 (p := 233) (j := 2) (hv190)
      have x201 := HI.eqA hI0 (p := 233) (j := 3) (hv192)
      have x202 := HI.eqA hI0 (p := 233) (j := 0) (hv182)
      have x203 := HI.eqA hI0 (p := 233) (j := 4) (hv180)
      obtain ⟨v204, hv204⟩ : ∃ v, gI g173 231 1 = v := ⟨_, rfl⟩
      have tv204 := congrArg Int32.toInt hv204
      exact ⟨_, rfl, hI174, hF178, _, rfl, by omega, ⟨⟨⟨by omega, by omega, by omega, by omega, by omega, by omega, by omega⟩, (by intro i i0 i1; refine Eq.trans ?_ (if_neg (show ¬ ((0 ≤ a2.toInt ∧ a2.toInt ≤ 99 ∧ 0 ≤ a1.toInt ∧ a1.toInt < (eA g0 233 0).toInt ∧ (eA g0 233 4).toInt < 8) ∧ i = 94 + 2 * (eA g0 233 4).toInt + 0) from by omega)).symm; refine Eq.trans ?_ (if_neg (show ¬ ((0 ≤ a2.toInt ∧ a2.toInt ≤ 99 ∧ 0 ≤ a1.toInt ∧ a1.toInt < (eA g0 233 0).toInt ∧ (eA g0 233 4).toInt < 8) ∧ i = 94 + 2 * (eA g0 233 4).toInt + 1) from by omega)).symm; refine (eA_ti (((hF175.2.1 233 ma_X11_tell_231_233).trans (gA_sI)))).trans ?_; (first | with_reducible rfl | omega | exact eA_ix (by omega) | rfl))⟩, (SU.mk (by omega))⟩⟩
    · have c172_ : v137.toInt ≤ 99 := en_j_gt_f c172
      refine At.enter rfl ?_
      refine r_iconst 1 rfl ?_
      refine r_goto ?_
      refine At.enter rfl ?_
      refine q_iretz (by decide) ?_
      refine At.enter rfl ?_
      refine r_ift (by decide) ?_
      refine At.enter rfl ?_
      refine r_aload_n rfl ?_
      refine r_iload_n rfl ?_
      refine q_inlV 28 rfl [.ref 231, .int a1] [] (Nat.le_of_ble_eq_true rfl) rfl ?_
      refine Ev.mk rfl rfl ⟨Nat.le_of_ble_eq_true rfl, Or.inr (q_rc hI135.1 kx_231 rfl)⟩ ?_
      show At _ none _ _ (0, [(0, .ref 231), (1, .int a1)], [], (_, _)) _
      refine At.enter rfl ?_
      refine r_iload_n rfl ?_
      refine q_i2l (fun v206 hv206 => ?_)
      refine r_lconst 0 rfl ?_
      refine r_aload_n rfl ?_
      refine q_getR (Sh.ref hI135.1 kx_231 rfl) ?_
      refine r_iconst 0 rfl ?_
      obtain ⟨v207, hv207⟩ : ∃ v, eA g0 233 0 = v := ⟨_, rfl⟩
      have tv207 := congrArg Int32.toInt hv207
      have wv207 := HI.t0 hI0
      rw [hv207] at wv207
      refine q_iald (Sh.arr hI135.1 ka_233) 0 rfl (by decide) v207 ((eA_c (gA_sI)).trans hv207) ?_
      refine q_i2l (fun v208 hv208 => ?_)
      refine r_lconst 1 rfl ?_
      refine q_lsub (v208.toInt - 1) rfl (by omega) (fun v209 hv209 => ?_)
      refine q_inlS 15 rfl [.long v206, .long 0, .long v209] [] (Nat.le_of_ble_eq_true rfl) rfl ?_
      refine Ev.mk rfl rfl ⟨Nat.le_of_ble_eq_true rfl, Or.inl rfl⟩ ?_
      show At _ none _ _ (0, [(0, .long v206), (2, .long 0), (4, .long v209)], [], (_, _)) _
      refine At.enter rfl ?_
      refine r_lload_n rfl ?_
      refine r_lload_n rfl ?_
      refine r_lcmp _ rfl ?_
      refine r_ifs 6 rfl (fun c210 => ?_) (fun c210 => ?_)
      · have c210_ : v206.toInt < 0 := en_j_lt_t c210
        refine At.enter rfl ?_
        refine r_iconst 0 rfl ?_
        refine Ar.fall 18 rfl ?_
        refine At.enter rfl ?_
        refine q_iretz (by decide) ?_
        refine At.enter rfl ?_
        refine q_iretz (by decide) ?_
        refine At.enter rfl ?_
        refine r_iff 31 rfl (by decide) ?_
        refine At.enter rfl ?_
        refine r_aload_n rfl ?_
        refine r_bipush (-2) rfl ?_
        refine r_callV 37 rfl [.ref 231, .int (-2)] [] (Nat.le_of_ble_eq_true rfl) rfl (T_X11_tell_231 _ hI135 (-2) (by decide)) ?_
        rintro _ _ ⟨g211, rfl, hI212, hF213, v214, rfl, hr215⟩
        refine At.sti ?_
        have hF216 := Fr.tr hF136 hF213 rfl rfl
        have zv217 : ((-2) : Int32).toInt = (-2) := rfl
        refine At.enter rfl ?_
        refine r_ireti ?_
        obtain ⟨v218, hv218⟩ : ∃ v, eA g0 233 4 = v := ⟨_, rfl⟩
        have wv218 := HI.t4 hI0
        rw [hv218] at wv218
        have tv218 := congrArg Int32.toInt hv218
        have x219 := HI.eqA hI212 (p := 233) (j := 4) ((((eA_c (hF213.2.1 233 ma_X11_tell_231_233)).trans (eA_c gA_sI)).trans hv218))
        have x220 := HI.eqA hI212 (p := 233) (j := 0) ((((eA_c (hF213.2.1 233 ma_X11_tell_231_233)).trans (eA_c gA_sI)).trans hv207))
        obtain ⟨v221, hv221⟩ : ∃ v, eA g0 233 5 = v := ⟨_, rfl⟩
        have wv221 := HI.t5 hI0
        rw [hv221] at wv221
        have tv221 := congrArg Int32.toInt hv221
        have x222 := HI.eqA hI212 (p := 233) (j := 5) ((((eA_c (hF213.2.1 233 ma_X11_tell_231_233)).trans (eA_c gA_sI)).trans hv221))
        obtain ⟨v223, hv223⟩ : ∃ v, eA g0 233 6 = v := ⟨_, rfl⟩
        have wv223 := HI.t6 hI0
        rw [hv223] at wv223
        have tv223 := congrArg Int32.toInt hv223
        have x224 := HI.eqA hI212 (p := 233) (j := 6) ((((eA_c (hF213.2.1 233 ma_X11_tell_231_233)).trans (eA_c gA_sI)).trans hv223))
        obtain ⟨v225, hv225⟩ : ∃ v, eA g0 233 1 = v := ⟨_, rfl⟩
        have tv225 := congrArg Int32.toInt hv225
        have wv225 := HI.t1 hI0
        rw [hv225] at wv225
        have tv225 := congrArg Int32.toInt hv225
        have x226 := HI.eqA hI212 (p := 233) (j := 1) ((((eA_c (hF213.2.1 233 ma_X11_tell_231_233)).trans (eA_c gA_sI)).trans hv225))
        obtain ⟨v227, hv227⟩ : ∃ v, eA g0 233 2 = v := ⟨_, rfl⟩
        have tv227 := congrArg Int32.toInt hv227
        have wv227 := HI.t2 hI0
        rw [hv227] at wv227
        have tv227 := congrArg Int32.toInt hv227
        have x228 := HI.eqA hI212 (p := 233) (j := 2) ((((eA_c (hF213.2.1 233 ma_X11_tell_231_233)).trans (eA_c gA_sI)).trans hv227))
        obtain ⟨v229, hv229⟩ : ∃ v, eA g0 233 3 = v := ⟨_, rfl⟩
        have wv229 := HI.t3 hI0
        rw [hv229] at wv229
        have tv229 := congrArg Int32.toInt hv229
        have x230 := HI.eqA hI212 (p := 233) (j := 3) ((((eA_c (hF213.2.1 233 ma_X11_tell_231_233)).trans (eA_c gA_sI)).trans hv229))
        have x231 := HI.eqA hI0 (p := 233) (j := 4) (hv218)
        have x232 := HI.eqA hI0 (p := 233) (j := 0) (hv207)
        have x233 := HI.eqA hI0 (p := 233) (j := 0) (hv207)
        have x234 := HI.eqA hI0 (p := 233) (j := 5) (hv221)
        have x235 := HI.eqA hI0 (p := 233) (j := 6) (hv223)
        have x236 := HI.eqA hI0 (p := 233) (j := 1) (hv225)
        have x237 := HI.eqA hI0 (p := 233) (j := 2) (hv227)
        have x238 := HI.eqA hI0 (p := 233) (j := 3) (hv229)
        have x239 := HI.eqA hI0 (p := 233) (j := 0) (hv207)
        have x240 := HI.eqA hI0 (p := 233) (j := 4) (hv218)
        obtain ⟨v241, hv241⟩ : ∃ v, gI g211 231 1 = v := ⟨_, rfl⟩
        have tv241 := congrArg Int32.toInt hv241
        exact ⟨_, rfl, hI212, hF216, _, rfl, by omega, ⟨⟨⟨by omega, by omega, by omega, by omega, by omega, by omega, by omega⟩, (by intro i i0 i1; refine Eq.trans ?_ (if_neg (show ¬ ((0 ≤ a2.toInt ∧ a2.toInt ≤ 99 ∧ 0 ≤ a1.toInt ∧ a1.toInt < (eA g0 233 0).toInt ∧ (eA g0 233 4).toInt < 8) ∧ i = 94 + 2 * (eA g0 233 4).toInt + 0) from by omega)).symm; refine Eq.trans ?_ (if_neg (show ¬ ((0 ≤ a2.toInt ∧ a2.toInt ≤ 99 ∧ 0 ≤ a1.toInt ∧ a1.toInt < (eA g0 233 0).toInt ∧ (eA g0 233 4).toInt < 8) ∧ i = 94 + 2 * (eA g0 233 4).toInt + 1) from by omega)).symm; refine (eA_ti (((hF213.2.1 233 ma_X11_tell_231_233).trans (gA_sI)))).trans ?_; (first | with_reducible rfl | omega | exact eA_ix (by omega) | rfl))⟩, (SU.mk (by omega))⟩⟩
      · have c210_ : v206.toInt ≥ 0 := en_j_lt_f c210
        refine At.enter rfl ?_
        refine r_lload_n rfl ?_
        refine r_lload rfl ?_
        refine r_lcmp _ rfl ?_
        refine r_ifs 13 rfl (fun c243 => ?_) (fun c243 => ?_)
        · have c243_ : v206.toInt > v209.toInt := en_j_gt_t c243
          refine At.enter rfl ?_
          refine r_iconst 0 rfl ?_
          refine Ar.fall 18 rfl ?_
          refine At.enter rfl ?_
          refine q_iretz (by decide) ?_
          refine At.enter rfl ?_
          refine q_iretz (by decide) ?_
          refine At.enter rfl ?_
          refine r_iff 31 rfl (by decide) ?_
          refine At.enter rfl ?_
          refine r_aload_n rfl ?_
          refine r_bipush (-2) rfl ?_
          refine r_callV 37 rfl [.ref 231, .int (-2)] [] (Nat.le_of_ble_eq_true rfl) rfl (T_X11_tell_231 _ hI135 (-2) (by decide)) ?_
          rintro _ _ ⟨g244, rfl, hI245, hF246, v247, rfl, hr248⟩
          refine At.sti ?_
          have hF249 := Fr.tr hF136 hF246 rfl rfl
          have zv250 : ((-2) : Int32).toInt = (-2) := rfl
          refine At.enter rfl ?_
          refine r_ireti ?_
          obtain ⟨v251, hv251⟩ : ∃ v, eA g0 233 4 = v := ⟨_, rfl⟩
          have wv251 := HI.t4 hI0
          rw [hv251] at wv251
          have tv251 := congrArg Int32.toInt hv251
          have x252 := HI.eqA hI245 (p := 233) (j := 4) ((((eA_c (hF246.2.1 233 ma_X11_tell_231_233)).trans (eA_c gA_sI)).trans hv251))
          have x253 := HI.eqA hI245 (p := 233) (j := 0) ((((eA_c (hF246.2.1 233 ma_X11_tell_231_233)).trans (eA_c gA_sI)).trans hv207))
          obtain ⟨v254, hv254⟩ : ∃ v, eA g0 233 5 = v := ⟨_, rfl⟩
          have wv254 := HI.t5 hI0
          rw [hv254] at wv254
          have tv254 := congrArg Int32.toInt hv254
          have x255 := HI.eqA hI245 (p := 233) (j := 5) ((((eA_c (hF246.2.1 233 ma_X11_tell_231_233)).trans (eA_c gA_sI)).trans hv254))
          obtain ⟨v256, hv256⟩ : ∃ v, eA g0 233 6 = v := ⟨_, rfl⟩
          have wv256 := HI.t6 hI0
          rw [hv256] at wv256
          have tv256 := congrArg Int32.toInt hv256
          have x257 := HI.eqA hI245 (p := 233) (j := 6) ((((eA_c (hF246.2.1 233 ma_X11_tell_231_233)).trans (eA_c gA_sI)).trans hv256))
          obtain ⟨v258, hv258⟩ : ∃ v, eA g0 233 1 = v := ⟨_, rfl⟩
          have tv258 := congrArg Int32.toInt hv258
          have wv258 := HI.t1 hI0
          rw [hv258] at wv258
          have tv258 := congrArg Int32.toInt hv258
          have x259 := HI.eqA hI245 (p := 233) (j := 1) ((((eA_c (hF246.2.1 233 ma_X11_tell_231_233)).trans (eA_c gA_sI)).trans hv258))
          obtain ⟨v260, hv260⟩ : ∃ v, eA g0 233 2 = v := ⟨_, rfl⟩
          have tv260 := congrArg Int32.toInt hv260
          have wv260 := HI.t2 hI0
          rw [hv260] at wv260
          have tv260 := congrArg Int32.toInt hv260
          have x261 := HI.eqA hI245 (p := 233) (j := 2) ((((eA_c (hF246.2.1 233 ma_X11_tell_231_233)).trans (eA_c gA_sI)).trans hv260))
          obtain ⟨v262, hv262⟩ : ∃ v, eA g0 233 3 = v := ⟨_, rfl⟩
          have wv262 := HI.t3 hI0
          rw [hv262] at wv262
          have tv262 := congrArg Int32.toInt hv262
          have x263 := HI.eqA hI245 (p := 233) (j := 3) ((((eA_c (hF246.2.1 233 ma_X11_tell_231_233)).trans (eA_c gA_sI)).trans hv262))
          have x264 := HI.eqA hI0 (p := 233) (j := 4) (hv251)
          have x265 := HI.eqA hI0 (p := 233) (j := 0) (hv207)
          have x266 := HI.eqA hI0 (p := 233) (j := 0) (hv207)
          have x267 := HI.eqA hI0 (p := 233) (j := 5) (hv254)
          have x268 := HI.eqA hI0 (p := 233) (j := 6) (hv256)
          have x269 := HI.eqA hI0 (p := 233) (j := 1) (hv258)
          have x270 := HI.eqA hI0 (p := 233) (j := 2) (hv260)
          have x271 := HI.eqA hI0 (p := 233) (j := 3) (hv262)
          have x272 := HI.eqA hI0 (p := 233) (j := 0) (hv207)
          have x273 := HI.eqA hI0 (p := 233) (j := 4) (hv251)
          obtain ⟨v274, hv274⟩ : ∃ v, gI g244 231 1 = v := ⟨_, rfl⟩
          have tv274 := congrArg Int32.toInt hv274
          exact ⟨_, rfl, hI245, hF249, _, rfl, by omega, ⟨⟨⟨by omega, by omega, by omega, by omega, by omega, by omega, by omega⟩, (by intro i i0 i1; refine Eq.trans ?_ (if_neg (show ¬ ((0 ≤ a2.toInt ∧ a2.toInt ≤ 99 ∧ 0 ≤ a1.toInt ∧ a1.toInt < (eA g0 233 0).toInt ∧ (eA g0 233 4).toInt < 8) ∧ i = 94 + 2 * (eA g0 233 4).toInt + 0) from by omega)).symm; refine Eq.trans ?_ (if_neg (show ¬ ((0 ≤ a2.toInt ∧ a2.toInt ≤ 99 ∧ 0 ≤ a1.toInt ∧ a1.toInt < (eA g0 233 0).toInt ∧ (eA g0 233 4).toInt < 8) ∧ i = 94 + 2 * (eA g0 233 4).toInt + 1) from by omega)).symm; refine (eA_ti (((hF246.2.1 233 ma_X11_tell_231_233).trans (gA_sI)))).trans ?_; (first | with_reducible rfl | omega | exact eA_ix (by omega) | rfl))⟩, (SU.mk (by omega))⟩⟩
        · have c243_ : v206.toInt ≤ v209.toInt := en_j_gt_f c243
          refine At.enter rfl ?_
          refine r_iconst 1 rfl ?_
          refine r_goto ?_
          refine At.enter rfl ?_
          refine q_iretz (by decide) ?_
          refine At.enter rfl ?_
          refine q_iretz (by decide) ?_
          refine At.enter rfl ?_
          refine r_ift (by decide) ?_
          refine At.enter rfl ?_
          refine r_aload_n rfl ?_
          refine q_getR (Sh.ref hI135.1 kx_231 rfl) ?_
          refine r_iconst 4 rfl ?_
          obtain ⟨v276, hv276⟩ : ∃ v, eA g0 233 4 = v := ⟨_, rfl⟩
          have wv276 := HI.t4 hI0
          rw [hv276] at wv276
          refine q_iald (Sh.arr hI135.1 ka_233) 4 rfl (by decide) v276 ((eA_c (gA_sI)).trans hv276) ?_
          refine r_istore_n ([(3, .int v276), (0, .ref 231), (1, .int a1), (2, .int a2)]) rfl ?_
          refine r_iload_n rfl ?_
          refine r_bipush 8 rfl ?_
          refine r_ics 51 rfl (fun c277 => ?_) (fun c277 => ?_)
          · have c277_ : v276.toInt ≠ 8 := en_i_ne_t c277
            refine At.enter rfl ?_
            refine r_aload_n rfl ?_
            refine q_getR (Sh.ref hI135.1 kx_231 rfl) ?_
            refine r_bipush 94 rfl ?_
            refine r_iconst 2 rfl ?_
            refine r_iload_n rfl ?_
            refine q_imul (2 * v276.toInt) rfl (by omega) (fun v278 hv278 => ?_)
            refine q_iadd (94 + v278.toInt) rfl (by omega) (fun v279 hv279 => ?_)
            refine r_iload_n rfl ?_
            refine q_iast (Sh.arr hI135.1 ka_233) ((2 * v276.toInt + 94)) (by omega) (by omega) ?_
            have hI280 := HI.wg hI135 (j := (2 * v276.toInt + 94)) (v := a1) (v276.toInt) 0 (by omega) (by decide) (by omega) (by omega)
            have hF281 := Fr.wA (p := 233) (j := (2 * v276.toInt + 94)) (v := a1) hF136 rfl
            refine r_aload_n rfl ?_
            refine q_getR (Sh.ref hI280.1 kx_231 rfl) ?_
            refine r_bipush 94 rfl ?_
            refine r_iconst 2 rfl ?_
            refine r_iload_n rfl ?_
            refine q_imul (2 * v276.toInt) rfl (by omega) (fun v282 hv282 => ?_)
            refine q_iadd (94 + v282.toInt) rfl (by omega) (fun v283 hv283 => ?_)
            refine r_iconst 1 rfl ?_
            refine q_iadd (v283.toInt + 1) rfl (by omega) (fun v284 hv284 => ?_)
            refine r_iload_n rfl ?_
            refine q_iast (Sh.arr hI280.1 ka_233) ((2 * v276.toInt + 95)) (by omega) (by omega) ?_
            have hI285 := HI.wg hI280 (j := (2 * v276.toInt + 95)) (v := a2) (v276.toInt) 1 (by omega) (by decide) (by omega) (by omega)
            have hF286 := Fr.wA (p := 233) (j := (2 * v276.toInt + 95)) (v := a2) hF281 rfl
            refine r_aload_n rfl ?_
            refine q_getR (Sh.ref hI285.1 kx_231 rfl) ?_
            refine r_iconst 4 rfl ?_
            refine r_dup2 ⟨rfl, rfl⟩ ?_
            refine q_iald (Sh.arr hI285.1 ka_233) 4 rfl (by decide) v276 (((eA_sA_ne hI280.1 ka_233 (by first | decide | omega) (by first | decide | omega) (by first | decide | omega)).trans ((eA_sA_ne hI135.1 ka_233 (by first | decide | omega) (by first | decide | omega) (by first | decide | omega)).trans (eA_c gA_sI))).trans hv276) ?_
            refine r_iconst 1 rfl ?_
            refine q_iadd (v276.toInt + 1) rfl (by omega) (fun v287 hv287 => ?_)
            refine q_iast (Sh.arr hI285.1 ka_233) (4) rfl (by decide) ?_
            have hI288 := HI.wt hI285 (j := 4) (v := v287) (by omega) (by omega)
            have hF289 := Fr.wA (p := 233) (j := 4) (v := v287) hF286 rfl
            refine r_aload_n rfl ?_
            refine r_iload_n rfl ?_
            refine r_iconst 1 rfl ?_
            refine q_iadd (v276.toInt + 1) rfl (by omega) (fun v290 hv290 => ?_)
            refine r_callV 101 rfl [.ref 231, .int v290] [] (Nat.le_of_ble_eq_true rfl) rfl (T_X11_tell_231 _ hI288 v290 (by omega)) ?_
            rintro _ _ ⟨g291, rfl, hI292, hF293, v294, rfl, hr295⟩
            refine At.sti ?_
            have hF296 := Fr.tr hF289 hF293 rfl rfl
            refine At.enter rfl ?_
            refine r_ireti ?_
            have x297 := HI.eqA hI292 (p := 233) (j := 4) (((eA_c (hF293.2.1 233 ma_X11_tell_231_233)).trans (eA_sA_eq hI285.1 ka_233 (by first | rfl | omega) (by first | decide | omega) (by first | decide | omega))))
            have x298 := HI.eqA hI292 (p := 233) (j := 0) ((((eA_c (hF293.2.1 233 ma_X11_tell_231_233)).trans ((eA_sA_ne hI285.1 ka_233 (by first | decide | omega) (by first | decide | omega) (by first | decide | omega)).trans ((eA_sA_ne hI280.1 ka_233 (by first | decide | omega) (by first | decide | omega) (by first | decide | omega)).trans ((eA_sA_ne hI135.1 ka_233 (by first | decide | omega) (by first | decide | omega) (by first | decide | omega)).trans (eA_c gA_sI))))).trans hv207))
            obtain ⟨v299, hv299⟩ : ∃ v, eA g0 233 5 = v := ⟨_, rfl⟩
            have wv299 := HI.t5 hI0
            rw [hv299] at wv299
            have tv299 := congrArg Int32.toInt hv299
            have x300 := HI.eqA hI292 (p := 233) (j := 5) ((((eA_c (hF293.2.1 233 ma_X11_tell_231_233)).trans ((eA_sA_ne hI285.1 ka_233 (by first | decide | omega) (by first | decide | omega) (by first | decide | omega)).trans ((eA_sA_ne hI280.1 ka_233 (by first | decide | omega) (by first | decide | omega) (by first | decide | omega)).trans ((eA_sA_ne hI135.1 ka_233 (by first | decide | omega) (by first | decide | omega) (by first | decide | omega)).trans (eA_c gA_sI))))).trans hv299))
            obtain ⟨v301, hv301⟩ : ∃ v, eA g0 233 6 = v := ⟨_, rfl⟩
            have wv301 := HI.t6 hI0
            rw [hv301] at wv301
            have tv301 := congrArg Int32.toInt hv301
            have x302 := HI.eqA hI292 (p := 233) (j := 6) ((((eA_c (hF293.2.1 233 ma_X11_tell_231_233)).trans ((eA_sA_ne hI285.1 ka_233 (by first | decide | omega) (by first | decide | omega) (by first | decide | omega)).trans ((eA_sA_ne hI280.1 ka_233 (by first | decide | omega) (by first | decide | omega) (by first | decide | omega)).trans ((eA_sA_ne hI135.1 ka_233 (by first | decide | omega) (by first | decide | omega) (by first | decide | omega)).trans (eA_c gA_sI))))).trans hv301))
            obtain ⟨v303, hv303⟩ : ∃ v, eA g0 233 1 = v := ⟨_, rfl⟩
            have tv303 := congrArg Int32.toInt hv303
            have wv303 := HI.t1 hI0
            rw [hv303] at wv303
            have tv303 := congrArg Int32.toInt hv303
            have x304 := HI.eqA hI292 (p := 233) (j := 1) ((((eA_c (hF293.2.1 233 ma_X11_tell_231_233)).trans ((eA_sA_ne hI285.1 ka_233 (by first | decide | omega) (by first | decide | omega) (by first | decide | omega)).trans ((eA_sA_ne hI280.1 ka_233 (by first | decide | omega) (by first | decide | omega) (by first | decide | omega)).trans ((eA_sA_ne hI135.1 ka_233 (by first | decide | omega) (by first | decide | omega) (by first | decide | omega)).trans (eA_c gA_sI))))).trans hv303))
            obtain ⟨v305, hv305⟩ : ∃ v, eA g0 233 2 = v := ⟨_, rfl⟩
            have tv305 := congrArg Int32.toInt hv305
            have wv305 := HI.t2 hI0
            rw [hv305] at wv305
            have tv305 := congrArg Int32.toInt hv305
            have x306 := HI.eqA hI292 (p := 233) (j := 2) ((((eA_c (hF293.2.1 233 ma_X11_tell_231_233)).trans ((eA_sA_ne hI285.1 ka_233 (by first | decide | omega) (by first | decide | omega) (by first | decide | omega)).trans ((eA_sA_ne hI280.1 ka_233 (by first | decide | omega) (by first | decide | omega) (by first | decide | omega)).trans ((eA_sA_ne hI135.1 ka_233 (by first | decide | omega) (by first | decide | omega) (by first | decide | omega)).trans (eA_c gA_sI))))).trans hv305))
            obtain ⟨v307, hv307⟩ : ∃ v, eA g0 233 3 = v := ⟨_, rfl⟩
            have wv307 := HI.t3 hI0
            rw [hv307] at wv307
            have tv307 := congrArg Int32.toInt hv307
            have x308 := HI.eqA hI292 (p := 233) (j := 3) ((((eA_c (hF293.2.1 233 ma_X11_tell_231_233)).trans ((eA_sA_ne hI285.1 ka_233 (by first | decide | omega) (by first | decide | omega) (by first | decide | omega)).trans ((eA_sA_ne hI280.1 ka_233 (by first | decide | omega) (by first | decide | omega) (by first | decide | omega)).trans ((eA_sA_ne hI135.1 ka_233 (by first | decide | omega) (by first | decide | omega) (by first | decide | omega)).trans (eA_c gA_sI))))).trans hv307))
            have x309 := HI.eqA hI0 (p := 233) (j := 4) (hv276)
            have x310 := HI.eqA hI0 (p := 233) (j := 0) (hv207)
            have x311 := HI.eqA hI0 (p := 233) (j := 0) (hv207)
            have x312 := HI.eqA hI0 (p := 233) (j := 5) (hv299)
            have x313 := HI.eqA hI0 (p := 233) (j := 6) (hv301)
            have x314 := HI.eqA hI0 (p := 233) (j := 1) (hv303)
            have x315 := HI.eqA hI0 (p := 233) (j := 2) (hv305)
            have x316 := HI.eqA hI0 (p := 233) (j := 3) (hv307)
            have x317 := HI.eqA hI0 (p := 233) (j := 0) (hv207)
            have x318 := HI.eqA hI0 (p := 233) (j := 4) (hv276)
            obtain ⟨v319, hv319⟩ : ∃ v, gI g291 231 1 = v := ⟨_, rfl⟩
            have tv319 := congrArg Int32.toInt hv319
            exact ⟨_, rfl, hI292, hF296, _, rfl, by omega, ⟨⟨⟨by omega, by omega, by omega, by omega, by omega, by omega, by omega⟩, (by intro i i0 i1; exact (Decidable.em ((0 ≤ a2.toInt ∧ a2.toInt ≤ 99 ∧ 0 ≤ a1.toInt ∧ a1.toInt < (eA g0 233 0).toInt ∧ (eA g0 233 4).toInt < 8) ∧ i = 94 + 2 * (eA g0 233 4).toInt + 0)).elim (fun k325_ => by refine Eq.trans ?_ (if_pos k325_).symm; refine (eA_ti ((hF293.2.1 233 ma_X11_tell_231_233))).trans ?_; exact (Decidable.em (i = 4)).elim (fun k326_ => by refine (eA_eqT hI285.1 ka_233 k326_ (by first | decide | omega) (by first | decide | omega)).trans ?_; (first | (with_reducible rfl) | (omega) | (rfl))) (fun k326_ => by refine (eA_neT hI285.1 ka_233 k326_ (by first | decide | omega) (by omega)).trans ?_; exact (Decidable.em (i = (2 * v276.toInt + 95))).elim (fun k327_ => by refine (eA_eqT hI280.1 ka_233 k327_ (by first | decide | omega) (by first | decide | omega)).trans ?_; (first | (with_reducible rfl) | (omega) | (rfl))) (fun k327_ => by refine (eA_neT hI280.1 ka_233 k327_ (by first | decide | omega) (by omega)).trans ?_; exact (Decidable.em (i = (2 * v276.toInt + 94))).elim (fun k328_ => by refine (eA_eqT hI135.1 ka_233 k328_ (by first | decide | omega) (by first | decide | omega)).trans ?_; (first | (with_reducible rfl) | (omega) | (rfl))) (fun k328_ => by refine (eA_neT hI135.1 ka_233 k328_ (by first | decide | omega) (by omega)).trans ?_; refine (eA_ti ((gA_sI))).trans ?_; (first | with_reducible rfl | omega | exact eA_ix (by omega) | rfl))))) (fun k325_ => by refine Eq.trans ?_ (if_neg k325_).symm; exact (Decidable.em ((0 ≤ a2.toInt ∧ a2.toInt ≤ 99 ∧ 0 ≤ a1.toInt ∧ a1.toInt < (eA g0 233 0).toInt ∧ (eA g0 233 4).toInt < 8) ∧ i = 94 + 2 * (eA g0 233 4).toInt + 1)).elim (fun k329_ => by refine Eq.trans ?_ (if_pos k329_).symm; refine (eA_ti ((hF293.2.1 233 ma_X11_tell_231_233))).trans ?_; exact (Decidable.em (i = 4)).elim (fun k330_ => by refine (eA_eqT hI285.1 ka_233 k330_ (by first | decide | omega) (by first | decide | omega)).trans ?_; (first | (with_reducible rfl) | (omega) | (rfl))) (fun k330_ => by refine (eA_neT hI285.1 ka_233 k330_ (by first | decide | omega) (by omega)).trans ?_; exact (Decidable.em (i = (2 * v276.toInt + 95))).elim (fun k331_ => by refine (eA_eqT hI280.1 ka_233 k331_ (by first | decide | omega) (by first | decide | omega)).trans ?_; (first | (with_reducible rfl) | (omega) | (rfl))) (fun k331_ => by refine (eA_neT hI280.1 ka_233 k331_ (by first | decide | omega) (by omega)).trans ?_; exact (Decidable.em (i = (2 * v276.toInt + 94))).elim (fun k332_ => by refine (eA_eqT hI135.1 ka_233 k332_ (by first | decide | omega) (by first | decide | omega)).trans ?_; (first | (with_reducible rfl) | (omega) | (rfl))) (fun k332_ => by refine (eA_neT hI135.1 ka_233 k332_ (by first | decide | omega) (by omega)).trans ?_; refine (eA_ti ((gA_sI))).trans ?_; (first | with_reducible rfl | omega | exact eA_ix (by omega) | rfl))))) (fun k329_ => by refine Eq.trans ?_ (if_neg k329_).symm; refine (eA_ti ((hF293.2.1 233 ma_X11_tell_231_233))).trans ?_; exact (Decidable.em (i = 4)).elim (fun k333_ => by refine (eA_eqT hI285.1 ka_233 k333_ (by first | decide | omega) (by first | decide | omega)).trans ?_; (first | (with_reducible rfl) | (omega) | (rfl))) (fun k333_ => by refine (eA_neT hI285.1 ka_233 k333_ (by first | decide | omega) (by omega)).trans ?_; exact (Decidable.em (i = (2 * v276.toInt + 95))).elim (fun k334_ => by refine (eA_eqT hI280.1 ka_233 k334_ (by first | decide | omega) (by first | decide | omega)).trans ?_; (first | (with_reducible rfl) | (omega) | (rfl))) (fun k334_ => by refine (eA_neT hI280.1 ka_233 k334_ (by first | decide | omega) (by omega)).trans ?_; exact (Decidable.em (i = (2 * v276.toInt + 94))).elim (fun k335_ => by refine (eA_eqT hI135.1 ka_233 k335_ (by first | decide | omega) (by first | decide | omega)).trans ?_; (first | (with_reducible rfl) | (omega) | (rfl))) (fun k335_ => by refine (eA_neT hI135.1 ka_233 k335_ (by first | decide | omega) (by omega)).trans ?_; refine (eA_ti ((gA_sI))).trans ?_; (first | with_reducible rfl | omega | exact eA_ix (by omega) | rfl)))))))⟩, (SU.mk (by omega))⟩⟩
          · have c277_ : v276.toInt = 8 := en_i_ne_f c277
            refine At.enter rfl ?_
            refine r_aload_n rfl ?_
            refine r_bipush (-5) rfl ?_
            refine r_callV 57 rfl [.ref 231, .int (-5)] [] (Nat.le_of_ble_eq_true rfl) rfl (T_X11_tell_231 _ hI135 (-5) (by decide)) ?_
            rintro _ _ ⟨g321, rfl, hI322, hF323, v324, rfl, hr325⟩
            refine At.sti ?_
            have hF326 := Fr.tr hF136 hF323 rfl rfl
            have zv327 : ((-5) : Int32).toInt = (-5) := rfl
            refine At.enter rfl ?_
            refine r_ireti ?_
            have x328 := HI.eqA hI322 (p := 233) (j := 4) ((((eA_c (hF323.2.1 233 ma_X11_tell_231_233)).trans (eA_c gA_sI)).trans hv276))
            have x329 := HI.eqA hI322 (p := 233) (j := 0) ((((eA_c (hF323.2.1 233 ma_X11_tell_231_233)).trans (eA_c gA_sI)).trans hv207))
            obtain ⟨v330, hv330⟩ : ∃ v, eA g0 233 5 = v := ⟨_, rfl⟩
            have wv330 := HI.t5 hI0
            rw [hv330] at wv330
            have tv330 := congrArg Int32.toInt hv330
            have x331 := HI.eqA hI322 (p := 233) (j := 5) ((((eA_c (hF323.2.1 233 ma_X11_tell_231_233)).trans (eA_c gA_sI)).trans hv330))
            obtain ⟨v332, hv332⟩ : ∃ v, eA g0 233 6 = v := ⟨_, rfl⟩
            have wv332 := HI.t6 hI0
            rw [hv332] at wv332
            have tv332 := congrArg Int32.toInt hv332
            have x333 := HI.eqA hI322 (p := 233) (j := 6) ((((eA_c (hF323.2.1 233 ma_X11_tell_231_233)).trans (eA_c gA_sI)).trans hv332))
            obtain ⟨v334, hv334⟩ : ∃ v, eA g0 233 1 = v := ⟨_, rfl⟩
            have tv334 := congrArg Int32.toInt hv334
            have wv334 := HI.t1 hI0
            rw [hv334] at wv334
            have tv334 := congrArg Int32.toInt hv334
            have x335 := HI.eqA hI322 (p := 233) (j := 1) ((((eA_c (hF323.2.1 233 ma_X11_tell_231_233)).trans (eA_c gA_sI)).trans hv334))
            obtain ⟨v336, hv336⟩ : ∃ v, eA g0 233 2 = v := ⟨_, rfl⟩
            have tv336 := congrArg Int32.toInt hv336
            have wv336 := HI.t2 hI0
            rw [hv336] at wv336
            have tv336 := congrArg Int32.toInt hv336
            have x337 := HI.eqA hI322 (p := 233) (j := 2) ((((eA_c (hF323.2.1 233 ma_X11_tell_231_233)).trans (eA_c gA_sI)).trans hv336))
            obtain ⟨v338, hv338⟩ : ∃ v, eA g0 233 3 = v := ⟨_, rfl⟩
            have wv338 := HI.t3 hI0
            rw [hv338] at wv338
            have tv338 := congrArg Int32.toInt hv338
            have x339 := HI.eqA hI322 (p := 233) (j := 3) ((((eA_c (hF323.2.1 233 ma_X11_tell_231_233)).trans (eA_c gA_sI)).trans hv338))
            have x340 := HI.eqA hI0 (p := 233) (j := 4) (hv276)
            have x341 := HI.eqA hI0 (p := 233) (j := 0) (hv207)
            have x342 := HI.eqA hI0 (p := 233) (j := 0) (hv207)
            have x343 := HI.eqA hI0 (p := 233) (j := 5) (hv330)
            have x344 := HI.eqA hI0 (p := 233) (j := 6) (hv332)
            have x345 := HI.eqA hI0 (p := 233) (j := 1) (hv334)
            have x346 := HI.eqA hI0 (p := 233) (j := 2) (hv336)
            have x347 := HI.eqA hI0 (p := 233) (j := 3) (hv338)
            have x348 := HI.eqA hI0 (p := 233) (j := 0) (hv207)
            have x349 := HI.eqA hI0 (p := 233) (j := 4) (hv276)
            obtain ⟨v350, hv350⟩ : ∃ v, gI g321 231 1 = v := ⟨_, rfl⟩
            have tv350 := congrArg Int32.toInt hv350
            exact ⟨_, rfl, hI322, hF326, _, rfl, by omega, ⟨⟨⟨by omega, by omega, by omega, by omega, by omega, by omega, by omega⟩, (by intro i i0 i1; refine Eq.trans ?_ (if_neg (show ¬ ((0 ≤ a2.toInt ∧ a2.toInt ≤ 99 ∧ 0 ≤ a1.toInt ∧ a1.toInt < (eA g0 233 0).toInt ∧ (eA g0 233 4).toInt < 8) ∧ i = 94 + 2 * (eA g0 233 4).toInt + 0) from by omega)).symm; refine Eq.trans ?_ (if_neg (show ¬ ((0 ≤ a2.toInt ∧ a2.toInt ≤ 99 ∧ 0 ≤ a1.toInt ∧ a1.toInt < (eA g0 233 0).toInt ∧ (eA g0 233 4).toInt < 8) ∧ i = 94 + 2 * (eA g0 233 4).toInt + 1) from by omega)).symm; refine (eA_ti (((hF323.2.1 233 ma_X11_tell_231_233).trans (gA_sI)))).trans ?_; (first | with_reducible rfl | omega | exact eA_ix (by omega) | rfl))⟩, (SU.mk (by omega))⟩⟩
