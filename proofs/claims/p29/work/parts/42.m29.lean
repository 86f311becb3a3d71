def F_X11_sign_231 : List (Nat × Nat) := [(231, 0), (231, 1)]
def A_X11_sign_231 : List Nat := [232, 233]
set_option maxRecDepth 100000 in
set_option maxHeartbeats 4000000 in
theorem T_X11_sign_231 (d : Nat) {N : Nat} {g0 : List en_E} (hI0 : HI g0) (a1 : Int32) (a2 : Int32) : Ev (d + 3) 254 [.ref 231, .int a1, .int a2] (g0, N) (fun w h' => ∃ g', h' = (g', N) ∧ HI g' ∧ Fr F_X11_sign_231 A_X11_sign_231 g0 g' ∧ ∃ r : Int32, w = some (.int r) ∧ ((-5) ≤ r.toInt ∧ r.toInt ≤ 8) ∧ ((((¬ (0 ≤ a2.toInt ∧ a2.toInt ≤ 99) → r.toInt = -1 ∧ (eA g' 233 4).toInt = (eA g0 233 4).toInt) ∧ ((0 ≤ a2.toInt ∧ a2.toInt ≤ 99) ∧ ¬ (0 ≤ a1.toInt ∧ a1.toInt < (eA g0 233 0).toInt) → r.toInt = -2 ∧ (eA g' 233 4).toInt = (eA g0 233 4).toInt) ∧ ((0 ≤ a2.toInt ∧ a2.toInt ≤ 99) ∧ (0 ≤ a1.toInt ∧ a1.toInt < (eA g0 233 0).toInt) ∧ 8 ≤ (eA g0 233 4).toInt → r.toInt = -5 ∧ (eA g' 233 4).toInt = (eA g0 233 4).toInt) ∧ ((0 ≤ a2.toInt ∧ a2.toInt ≤ 99) ∧ (0 ≤ a1.toInt ∧ a1.toInt < (eA g0 233 0).toInt) ∧ (eA g0 233 4).toInt < 8 → r.toInt = (eA g0 233 4).toInt + 1 ∧ (eA g' 233 4).toInt = (eA g0 233 4).toInt + 1)) ∧ (eA g' 233 0).toInt = (eA g0 233 0).toInt ∧ (eA g' 233 5).toInt = (eA g0 233 5).toInt ∧ (eA g' 233 6).toInt = (eA g0 233 6).toInt ∧ (eA g' 233 1).toInt = (eA g0 233 1).toInt ∧ (eA g' 233 2).toInt = (eA g0 233 2).toInt ∧ (eA g' 233 3).toInt = (eA g0 233 3).toInt) ∧ (∀ i : Int, 10 ≤ i → i < 5510 → (eA g' 233 (i)).toInt = if (0 ≤ a2.toInt ∧ a2.toInt ≤ 99 ∧ 0 ≤ a1.toInt ∧ a1.toInt < (eA g0 233 0).toInt ∧ (eA g0 233 4).toInt < 8) ∧ i = 94 + 2 * (eA g0 233 4).toInt + 0 then a1.toInt else if (0 ≤ a2.toInt ∧ a2.toInt ≤ 99 ∧ 0 ≤ a1.toInt ∧ a1.toInt < (eA g0 233 0).toInt ∧ (eA g0 233 4).toInt < 8) ∧ i = 94 + 2 * (eA g0 233 4).toInt + 1 then a2.toInt else (eA g0 233 (i)).toInt))) := by
  have hF0 : Fr F_X11_sign_231 A_X11_sign_231 g0 g0 := Fr.rf
  refine Ev.mk rfl rfl ⟨Nat.le_of_ble_eq_true rfl, Or.inr (q_rc hI0.1 kx_231 rfl)⟩ ?_
  show At _ none _ _ (0, [(0, .ref 231), (1, .int a1), (2, .int a2)], [], (_, _)) _
  refine At.enter rfl ?_
  refine r_aload_n rfl ?_
  refine r_iconst 0 rfl ?_
  refine q_putI (Sh.int hI0.1 kx_231 rfl) rfl ?_
  have hI135 := HI.wI0 hI0 kx_231 rfl (p := 231) (b := 0) (v := 0) rfl
  have hF136 := Fr.wI (p := 231) (b := 0) (v := 0) hF0 rfl
  refine r_iload_n rfl ?_
  refine q_i2l (fun v137 hv137 => ?_)
  refine r_lconst 0 rfl ?_
  refine r_ldc2 99 rfl ?_
  refine q_inlS 14 rfl [.long v137, .long 0, .long 99] [] (Nat.le_of_ble_eq_true rfl) rfl ?_
  refine Ev.mk rfl rfl ⟨Nat.le_of_ble_eq_true rfl, Or.inl rfl⟩ ?_
  show At _ none _ _ (0, [(0, .long v137), (2, .long 0), (4, .long 99)], [], (_, _)) _
  refine At.enter rfl ?_
  refine r_lload_n rfl ?_
  refine r_lload_n rfl ?_
  refine r_lcmp _ rfl ?_
  refine r_ifs 6 rfl (fun c138 => ?_) (fun c138 => ?_)
  · have c138_ : v137.toInt < 0 := en_j_lt_t c138
    refine At.enter rfl ?_
    refine r_iconst 0 rfl ?_
    refine Ar.fall 18 rfl ?_
    refine At.enter rfl ?_
    refine q_iretz (by decide) ?_
    refine At.enter rfl ?_
    refine r_iff 17 rfl (by decide) ?_
    refine At.enter rfl ?_
    refine r_aload_n rfl ?_
    refine r_iconst (-1) rfl ?_
    refine r_callV 22 rfl [.ref 231, .int (-1)] [] (Nat.le_of_ble_eq_true rfl) rfl (T_X11_tell_231 _ hI135 (-1) (by decide)) ?_
    rintro _ _ ⟨g139, rfl, hI140, hF141, v142, rfl, hr143⟩
    refine At.sti ?_
    have hF144 := Fr.tr hF136 hF141 rfl rfl
    have zv145 : ((-1) : Int32).toInt = (-1) := rfl
    refine At.enter rfl ?_
    refine r_ireti ?_
    obtain ⟨v146, hv146⟩ : ∃ v, eA g0 233 4 = v := ⟨_, rfl⟩
    have wv146 := HI.t4 hI0
    rw [hv146] at wv146
    have tv146 := congrArg Int32.toInt hv146
    have x147 := HI.eqA hI140 (p := 233) (j := 4) ((((eA_c (hF141.2.1 233 ma_X11_tell_231_233)).trans (eA_c gA_sI)).trans hv146))
    obtain ⟨v148, hv148⟩ : ∃ v, eA g0 233 0 = v := ⟨_, rfl⟩
    have tv148 := congrArg Int32.toInt hv148
    have wv148 := HI.t0 hI0
    rw [hv148] at wv148
    have tv148 := congrArg Int32.toInt hv148
    have x149 := HI.eqA hI140 (p := 233) (j := 0) ((((eA_c (hF141.2.1 233 ma_X11_tell_231_233)).trans (eA_c gA_sI)).trans hv148))
    obtain ⟨v150, hv150⟩ : ∃ v, eA g0 233 5 = v := ⟨_, rfl⟩
    have wv150 := HI.t5 hI0
    rw [hv150] at wv150
    have tv150 := congrArg Int32.toInt hv150
    have x151 := HI.eqA hI140 (p := 233) (j := 5) ((((eA_c (hF141.2.1 233 ma_X11_tell_231_233)).trans (eA_c gA_sI)).trans hv150))
    obtain ⟨v152, hv152⟩ : ∃ v, eA g0 233 6 = v := ⟨_, rfl⟩
    have wv152 := HI.t6 hI0
    rw [hv152] at wv152
    have tv152 := congrArg Int32.toInt hv152
    have x153 := HI.eqA hI140 (p := 233) (j := 6) ((((eA_c (hF141.2.1 233 ma_X11_tell_231_233)).trans (eA_c gA_sI)).trans hv152))
    obtain ⟨v154, hv154⟩ : ∃ v, eA g0 233 1 = v := ⟨_, rfl⟩
    have tv154 := congrArg Int32.toInt hv154
    have wv154 := HI.t1 hI0
    rw [hv154] at wv154
    have tv154 := congrArg Int32.toInt hv154
    have x155 := HI.eqA hI140 (p := 233) (j := 1) ((((eA_c (hF141.2.1 233 ma_X11_tell_231_233)).trans (eA_c gA_sI)).trans hv154))
    obtain ⟨v156, hv156⟩ : ∃ v, eA g0 233 2 = v := ⟨_, rfl⟩
    have tv156 := congrArg Int32.toInt hv156
    have wv156 := HI.t2 hI0
    rw [hv156] at wv156
    have tv156 := congrArg Int32.toInt hv156
    have x157 := HI.eqA hI140 (p := 233) (j := 2) ((((eA_c (hF141.2.1 233 ma_X11_tell_231_233)).trans (eA_c gA_sI)).trans hv156))
    obtain ⟨v158, hv158⟩ : ∃ v, eA g0 233 3 = v := ⟨_, rfl⟩
    have wv158 := HI.t3 hI0
    rw [hv158] at wv158
    have tv158 := congrArg Int32.toInt hv158
    have x159 := HI.eqA hI140 (p := 233) (j := 3) ((((eA_c (hF141.2.1 233 ma_X11_tell_231_233)).trans (eA_c gA_sI)).trans hv158))
    have x160 := HI.eqA hI0 (p := 233) (j := 4) (hv146)
    have x161 := HI.eqA hI0 (p := 233) (j := 0) (hv148)
    have x162 := HI.eqA hI0 (p := 233) (j := 0) (hv148)
    have x163 := HI.eqA hI0 (p := 233) (j := 5) (hv150)
    have x164 := HI.eqA hI0 (p := 233) (j := 6) (hv152)
    have x165 := HI.eqA hI0 (p := 233) (j := 1) (hv154)
    have x166 := HI.eqA hI0 (p := 233) (j := 2) (hv156)
    have x167 := HI.eqA hI0 (p := 233) (j := 3) (hv158)
    have x168 := HI.eqA hI0 (p := 233) (j := 0) (hv148)
    have x169 := HI.eqA hI0 (p := 233) (j := 4) (hv146)
    exact ⟨_, rfl, hI140, hF144, _, rfl, by omega, ⟨⟨by omega, by omega, by omega, by omega, by omega, by omega, by omega⟩, (by intro i i0 i1; refine Eq.trans ?_ (if_neg (show ¬ ((0 ≤ a2.toInt ∧ a2.toInt ≤ 99 ∧ 0 ≤ a1.toInt ∧ a1.toInt < (eA g0 233 0).toInt ∧ (eA g0 233 4).toInt < 8) ∧ i = 94 + 2 * (eA g0 233 4).toInt + 0) from by omega)).symm; refine Eq.trans ?_ (if_neg (show ¬ ((0 ≤ a2.toInt ∧ a2.toInt ≤ 99 ∧ 0 ≤ a1.toInt ∧ a1.toInt < (eA g0 233 0).toInt ∧ (eA g0 233 4).toInt < 8) ∧ i = 94 + 2 * (eA g0 233 4).toInt + 1) from by omega)).symm; refine (eA_ti (((hF141.2.1 233 ma_X11_tell_231_233).trans (gA_sI)))).trans ?_; (first | with_reducible rfl | omega | exact eA_ix (by omega) | rfl))⟩⟩
  · have c138_ : v137.toInt ≥ 0 := en_j_lt_f c138
    refine At.enter rfl ?_
    refine r_lload_n rfl ?_
    refine r_lload rfl ?_
    refine r_lcmp _ rfl ?_
    refine r_ifs 13 rfl (fun c170 => ?_) (fun c170 => ?_)
    · have c170_ : v137.toInt > 99 := en_j_gt_t c170
      refine At.enter rfl ?_
      refine r_iconst 0 rfl ?_
      refine Ar.fall 18 rfl ?_
      refine At.enter rfl ?_
      refine q_iretz (by decide) ?_
      refine At.enter rfl ?_
      refine r_iff 17 rfl (by decide) ?_
      refine At.enter rfl ?_
      refine r_aload_n rfl ?_
      refine r_iconst (-1) rfl ?_
      refine r_callV 22 rfl [.ref 231, .int (-1)] [] (Nat.le_of_ble_eq_true rfl) rfl (T_X11_tell_231 _ hI135 (-1) (by decide)) ?_
      rintro _ _ ⟨g171, rfl, hI172, hF173, v174, rfl, hr175⟩
      refine At.sti ?_
      have hF176 := Fr.tr hF136 hF173 rfl rfl
      have zv177 : ((-1) : Int32).toInt = (-1) := rfl
      refine At.enter rfl ?_
      refine r_ireti ?_
      obtain ⟨v178, hv178⟩ : ∃ v, eA g0 233 4 = v := ⟨_, rfl⟩
      have wv178 := HI.t4 hI0
      rw [hv178] at wv178
      have tv178 := congrArg Int32.toInt hv178
      have x179 := HI.eqA hI172 (p := 233) (j := 4) ((((eA_c (hF173.2.1 233 ma_X11_tell_231_233)).trans (eA_c gA_sI)).trans hv178))
      obtain ⟨v180, hv180⟩ : ∃ v, eA g0 233 0 = v := ⟨_, rfl⟩
      have tv180 := congrArg Int32.toInt hv180
      have wv180 := HI.t0 hI0
      rw [hv180] at wv180
      have tv180 := congrArg Int32.toInt hv180
      have x181 := HI.eqA hI172 (p := 233) (j := 0) ((((eA_c (hF173.2.1 233 ma_X11_tell_231_233)).trans (eA_c gA_sI)).trans hv180))
      obtain ⟨v182, hv182⟩ : ∃ v, eA g0 233 5 = v := ⟨_, rfl⟩
      have wv182 := HI.t5 hI0
      rw [hv182] at wv182
      have tv182 := congrArg Int32.toInt hv182
      have x183 := HI.eqA hI172 (p := 233) (j := 5) ((((eA_c (hF173.2.1 233 ma_X11_tell_231_233)).trans (eA_c gA_sI)).trans hv182))
      obtain ⟨v184, hv184⟩ : ∃ v, eA g0 233 6 = v := ⟨_, rfl⟩
      have wv184 := HI.t6 hI0
      rw [hv184] at wv184
      have tv184 := congrArg Int32.toInt hv184
      have x185 := HI.eqA hI172 (p := 233) (j := 6) ((((eA_c (hF173.2.1 233 ma_X11_tell_231_233)).trans (eA_c gA_sI)).trans hv184))
      obtain ⟨v186, hv186⟩ : ∃ v, eA g0 233 1 = v := ⟨_, rfl⟩
      have tv186 := congrArg Int32.toInt hv186
      have wv186 := HI.t1 hI0
      rw [hv186] at wv186
      have tv186 := congrArg Int32.toInt hv186
      have x187 := HI.eqA hI172 (p := 233) (j := 1) ((((eA_c (hF173.2.1 233 ma_X11_tell_231_233)).trans (eA_c gA_sI)).trans hv186))
      obtain ⟨v188, hv188⟩ : ∃ v, eA g0 233 2 = v := ⟨_, rfl⟩
      have tv188 := congrArg Int32.toInt hv188
      have wv188 := HI.t2 hI0
      rw [hv188] at wv188
      have tv188 := congrArg Int32.toInt hv188
      have x189 := HI.eqA hI172 (p := 233) (j := 2) ((((eA_c (hF173.2.1 233 ma_X11_tell_231_233)).trans (eA_c gA_sI)).trans hv188))
      obtain ⟨v190, hv190⟩ : ∃ v, eA g0 233 3 = v := ⟨_, rfl⟩
      have wv190 := HI.t3 hI0
      rw [hv190] at wv190
      have tv190 := congrArg Int32.toInt hv190
      have x191 := HI.eqA hI172 (p := 233) (j := 3) ((((eA_c (hF173.2.1 233 ma_X11_tell_231_233)).trans (eA_c gA_sI)).trans hv190))
      have x192 := HI.eqA hI0 (p := 233) (j := 4) (hv178)
      have x193 := HI.eqA hI0 (p := 233) (j := 0) (hv180)
      have x194 := HI.eqA hI0 (p := 233) (j := 0) (hv180)
      have x195 := HI.eqA hI0 (p := 233) (j := 5) (hv182)
      have x196 := HI.eqA hI0 (p := 233) (j := 6) (hv184)
      have x197 := HI.eqA hI0 (p := 233) (j := 1) (hv186)
      have x198 := HI.eqA hI0 (p := 233) (j := 2) (hv188)
      have x199 := HI.eqA hI0 (p := 233) (j := 3) (hv190)
      have x200 := HI.eqA hI0 (p := 233) (j := 0) (hv180)
      have x201 := HI.eqA hI0 (p := 233) (j := 4) (hv178)
      exact ⟨_, rfl, hI172, hF176, _, rfl, by omega, ⟨⟨by omega, by omega, by omega, by omega, by omega, by omega, by omega⟩, (by intro i i0 i1; refine Eq.trans ?_ (if_neg (show ¬ ((0 ≤ a2.toInt ∧ a2.toInt ≤ 99 ∧ 0 ≤ a1.toInt ∧ a1.toInt < (eA g0 233 0).toInt ∧ (eA g0 233 4).toInt < 8) ∧ i = 94 + 2 * (eA g0 233 4).toInt + 0) from by omega)).symm; refine Eq.trans ?_ (if_neg (show ¬ ((0 ≤ a2.toInt ∧ a2.toInt ≤ 99 ∧ 0 ≤ a1.toInt ∧ a1.toInt < (eA g0 233 0).toInt ∧ (eA g0 233 4).toInt < 8) ∧ i = 94 + 2 * (eA g0 233 4).toInt + 1) from by omega)).symm; refine (eA_ti (((hF173.2.1 233 ma_X11_tell_231_233).trans (gA_sI)))).trans ?_; (first | with_reducible rfl | omega | exact eA_ix (by omega) | rfl))⟩⟩
    · have c170_ : v137.toInt ≤ 99 := en_j_gt_f c170
      refine At.enter rfl ?_
      refine r_iconst 1 rfl ?_
      refine r_goto ?_
      refine At.enter rfl ?_
      refine q_iretz (by decide) ?_
      refine At.enter rfl ?_
      refine r_ift (by decide) ?_
      refine At.enter rfl ?_
      refine r_aload_n rfl ?_
      refine r_iload_n rfl ?_
      refine q_inlV 28 rfl [.ref 231, .int a1] [] (Nat.le_of_ble_eq_true rfl) rfl ?_
      refine Ev.mk rfl rfl ⟨Nat.le_of_ble_eq_true rfl, Or.inr (q_rc hI135.1 kx_231 rfl)⟩ ?_
      show At _ none _ _ (0, [(0, .ref 231), (1, .int a1)], [], (_, _)) _
      refine At.enter rfl ?_
      refine r_iload_n rfl ?_
      refine q_i2l (fun v202 hv202 => ?_)
      refine r_lconst 0 rfl ?_
      refine r_aload_n rfl ?_
      refine q_getR (Sh.ref hI135.1 kx_231 rfl) ?_
      refine r_iconst 0 rfl ?_
      obtain ⟨v203, hv203⟩ : ∃ v, eA g0 233 0 = v := ⟨_, rfl⟩
      have tv203 := congrArg Int32.toInt hv203
      have wv203 := HI.t0 hI0
      rw [hv203] at wv203
      refine q_iald (Sh.arr hI135.1 ka_233) 0 rfl (by decide) v203 ((eA_c (gA_sI)).trans hv203) ?_
      refine q_i2l (fun v204 hv204 => ?_)
      refine r_lconst 1 rfl ?_
      refine q_lsub (v204.toInt - 1) rfl (by omega) (fun v205 hv205 => ?_)
      refine q_inlS 15 rfl [.long v202, .long 0, .long v205] [] (Nat.le_of_ble_eq_true rfl) rfl ?_
      refine Ev.mk rfl rfl ⟨Nat.le_of_ble_eq_true rfl, Or.inl rfl⟩ ?_
      show At _ none _ _ (0, [(0, .long v202), (2, .long 0), (4, .long v205)], [], (_, _)) _
      refine At.enter rfl ?_
      refine r_lload_n rfl ?_
      refine r_lload_n rfl ?_
      refine r_lcmp _ rfl ?_
      refine r_ifs 6 rfl (fun c206 => ?_) (fun c206 => ?_)
      · have c206_ : v202.toInt < 0 := en_j_lt_t c206
        refine At.enter rfl ?_
        refine r_iconst 0 rfl ?_
        refine Ar.fall 18 rfl ?_
        refine At.enter rfl ?_
        refine q_iretz (by decide) ?_
        refine At.enter rfl ?_
        refine q_iretz (by decide) ?_
        refine At.enter rfl ?_
        refine r_iff 31 rfl (by decide) ?_
        refine At.enter rfl ?_
        refine r_aload_n rfl ?_
        refine r_bipush (-2) rfl ?_
        refine r_callV 37 rfl [.ref 231, .int (-2)] [] (Nat.le_of_ble_eq_true rfl) rfl (T_X11_tell_231 _ hI135 (-2) (by decide)) ?_
        rintro _ _ ⟨g207, rfl, hI208, hF209, v210, rfl, hr211⟩
        refine At.sti ?_
        have hF212 := Fr.tr hF136 hF209 rfl rfl
        have zv213 : ((-2) : Int32).toInt = (-2) := rfl
        refine At.enter rfl ?_
        refine r_ireti ?_
        obtain ⟨v214, hv214⟩ : ∃ v, eA g0 233 4 = v := ⟨_, rfl⟩
        have wv214 := HI.t4 hI0
        rw [hv214] at wv214
        have tv214 := congrArg Int32.toInt hv214
        have x215 := HI.eqA hI208 (p := 233) (j := 4) ((((eA_c (hF209.2.1 233 ma_X11_tell_231_233)).trans (eA_c gA_sI)).trans hv214))
        have x216 := HI.eqA hI208 (p := 233) (j := 0) ((((eA_c (hF209.2.1 233 ma_X11_tell_231_233)).trans (eA_c gA_sI)).trans hv203))
        obtain ⟨v217, hv217⟩ : ∃ v, eA g0 233 5 = v := ⟨_, rfl⟩
        have wv217 := HI.t5 hI0
        rw [hv217] at wv217
        have tv217 := congrArg Int32.toInt hv217
        have x218 := HI.eqA hI208 (p := 233) (j := 5) ((((eA_c (hF209.2.1 233 ma_X11_tell_231_233)).trans (eA_c gA_sI)).trans hv217))
        obtain ⟨v219, hv219⟩ : ∃ v, eA g0 233 6 = v := ⟨_, rfl⟩
        have wv219 := HI.t6 hI0
        rw [hv219] at wv219
        have tv219 := congrArg Int32.toInt hv219
        have x220 := HI.eqA hI208 (p := 233) (j := 6) ((((eA_c (hF209.2.1 233 ma_X11_tell_231_233)).trans (eA_c gA_sI)).trans hv219))
        obtain ⟨v221, hv221⟩ : ∃ v, eA g0 233 1 = v := ⟨_, rfl⟩
        have tv221 := congrArg Int32.toInt hv221
        have wv221 := HI.t1 hI0
        rw [hv221] at wv221
        have tv221 := congrArg Int32.toInt hv221
        have x222 := HI.eqA hI208 (p := 233) (j := 1) ((((eA_c (hF209.2.1 233 ma_X11_tell_231_233)).trans (eA_c gA_sI)).trans hv221))
        obtain ⟨v223, hv223⟩ : ∃ v, eA g0 233 2 = v := ⟨_, rfl⟩
        have tv223 := congrArg Int32.toInt hv223
        have wv223 := HI.t2 hI0
        rw [hv223] at wv223
        have tv223 := congrArg Int32.toInt hv223
        have x224 := HI.eqA hI208 (p := 233) (j := 2) ((((eA_c (hF209.2.1 233 ma_X11_tell_231_233)).trans (eA_c gA_sI)).trans hv223))
        obtain ⟨v225, hv225⟩ : ∃ v, eA g0 233 3 = v := ⟨_, rfl⟩
        have wv225 := HI.t3 hI0
        rw [hv225] at wv225
        have tv225 := congrArg Int32.toInt hv225
        have x226 := HI.eqA hI208 (p := 233) (j := 3) ((((eA_c (hF209.2.1 233 ma_X11_tell_231_233)).trans (eA_c gA_sI)).trans hv225))
        have x227 := HI.eqA hI0 (p := 233) (j := 4) (hv214)
        have x228 := HI.eqA hI0 (p := 233) (j := 0) (hv203)
        have x229 := HI.eqA hI0 (p := 233) (j := 0) (hv203)
        have x230 := HI.eqA hI0 (p := 233) (j := 5) (hv217)
        have x231 := HI.eqA hI0 (p := 233) (j := 6) (hv219)
        have x232 := HI.eqA hI0 (p := 233) (j := 1) (hv221)
        have x233 := HI.eqA hI0 (p := 233) (j := 2) (hv223)
        have x234 := HI.eqA hI0 (p := 233) (j := 3) (hv225)
        have x235 := HI.eqA hI0 (p := 233) (j := 0) (hv203)
        have x236 := HI.eqA hI0 (p := 233) (j := 4) (hv214)
        exact ⟨_, rfl, hI208, hF212, _, rfl, by omega, ⟨⟨by omega, by omega, by omega, by omega, by omega, by omega, by omega⟩, (by intro i i0 i1; refine Eq.trans ?_ (if_neg (show ¬ ((0 ≤ a2.toInt ∧ a2.toInt ≤ 99 ∧ 0 ≤ a1.toInt ∧ a1.toInt < (eA g0 233 0).toInt ∧ (eA g0 233 4).toInt < 8) ∧ i = 94 + 2 * (eA g0 233 4).toInt + 0) from by omega)).symm; refine Eq.trans ?_ (if_neg (show ¬ ((0 ≤ a2.toInt ∧ a2.toInt ≤ 99 ∧ 0 ≤ a1.toInt ∧ a1.toInt < (eA g0 233 0).toInt ∧ (eA g0 233 4).toInt < 8) ∧ i = 94 + 2 * (eA g0 233 4).toInt + 1) from by omega)).symm; refine (eA_ti (((hF209.2.1 233 ma_X11_tell_231_233).trans (gA_sI)))).trans ?_; (first | with_reducible rfl | omega | exact eA_ix (by omega) | rfl))⟩⟩
      · have c206_ : v202.toInt ≥ 0 := en_j_lt_f c206
        refine At.enter rfl ?_
        refine r_lload_n rfl ?_
        refine r_lload rfl ?_
        refine r_lcmp _ rfl ?_
        refine r_ifs 13 rfl (fun c237 => ?_) (fun c237 => ?_)
        · have c237_ : v202.toInt > v205.toInt := en_j_gt_t c237
          refine At.enter rfl ?_
          refine r_iconst 0 rfl ?_
          refine Ar.fall 18 rfl ?_
          refine At.enter rfl ?_
          refine q_iretz (by decide) ?_
          refine At.enter rfl ?_
          refine q_iretz (by decide) ?_
          refine At.enter rfl ?_
          refine r_iff 31 rfl (by decide) ?_
          refine At.enter rfl ?_
          refine r_aload_n rfl ?_
          refine r_bipush (-2) rfl ?_
          refine r_callV 37 rfl [.ref 231, .int (-2)] [] (Nat.le_of_ble_eq_true rfl) rfl (T_X11_tell_231 _ hI135 (-2) (by decide)) ?_
          rintro _ _ ⟨g238, rfl, hI239, hF240, v241, rfl, hr242⟩
          refine At.sti ?_
          have hF243 := Fr.tr hF136 hF240 rfl rfl
          have zv244 : ((-2) : Int32).toInt = (-2) := rfl
          refine At.enter rfl ?_
          refine r_ireti ?_
          obtain ⟨v245, hv245⟩ : ∃ v, eA g0 233 4 = v := ⟨_, rfl⟩
          have wv245 := HI.t4 hI0
          rw [hv245] at wv245
          have tv245 := congrArg Int32.toInt hv245
          have x246 := HI.eqA hI239 (p := 233) (j := 4) ((((eA_c (hF240.2.1 233 ma_X11_tell_231_233)).trans (eA_c gA_sI)).trans hv245))
          have x247 := HI.eqA hI239 (p := 233) (j := 0) ((((eA_c (hF240.2.1 233 ma_X11_tell_231_233)).trans (eA_c gA_sI)).trans hv203))
          obtain ⟨v248, hv248⟩ : ∃ v, eA g0 233 5 = v := ⟨_, rfl⟩
          have wv248 := HI.t5 hI0
          rw [hv248] at wv248
          have tv248 := congrArg Int32.toInt hv248
          have x249 := HI.eqA hI239 (p := 233) (j := 5) ((((eA_c (hF240.2.1 233 ma_X11_tell_231_233)).trans (eA_c gA_sI)).trans hv248))
          obtain ⟨v250, hv250⟩ : ∃ v, eA g0 233 6 = v := ⟨_, rfl⟩
          have wv250 := HI.t6 hI0
          rw [hv250] at wv250
          have tv250 := congrArg Int32.toInt hv250
          have x251 := HI.eqA hI239 (p := 233) (j := 6) ((((eA_c (hF240.2.1 233 ma_X11_tell_231_233)).trans (eA_c gA_sI)).trans hv250))
          obtain ⟨v252, hv252⟩ : ∃ v, eA g0 233 1 = v := ⟨_, rfl⟩
          have tv252 := congrArg Int32.toInt hv252
          have wv252 := HI.t1 hI0
          rw [hv252] at wv252
          have tv252 := congrArg Int32.toInt hv252
          have x253 := HI.eqA hI239 (p := 233) (j := 1) ((((eA_c (hF240.2.1 233 ma_X11_tell_231_233)).trans (eA_c gA_sI)).trans hv252))
          obtain ⟨v254, hv254⟩ : ∃ v, eA g0 233 2 = v := ⟨_, rfl⟩
          have tv254 := congrArg Int32.toInt hv254
          have wv254 := HI.t2 hI0
          rw [hv254] at wv254
          have tv254 := congrArg Int32.toInt hv254
          have x255 := HI.eqA hI239 (p := 233) (j := 2) ((((eA_c (hF240.2.1 233 ma_X11_tell_231_233)).trans (eA_c gA_sI)).trans hv254))
          obtain ⟨v256, hv256⟩ : ∃ v, eA g0 233 3 = v := ⟨_, rfl⟩
          have wv256 := HI.t3 hI0
          rw [hv256] at wv256
          have tv256 := congrArg Int32.toInt hv256
          have x257 := HI.eqA hI239 (p := 233) (j := 3) ((((eA_c (hF240.2.1 233 ma_X11_tell_231_233)).trans (eA_c gA_sI)).trans hv256))
          have x258 := HI.eqA hI0 (p := 233) (j := 4) (hv245)
          have x259 := HI.eqA hI0 (p := 233) (j := 0) (hv203)
          have x260 := HI.eqA hI0 (p := 233) (j := 0) (hv203)
          have x261 := HI.eqA hI0 (p := 233) (j := 5) (hv248)
          have x262 := HI.eqA hI0 (p := 233) (j := 6) (hv250)
          have x263 := HI.eqA hI0 (p := 233) (j := 1) (hv252)
          have x264 := HI.eqA hI0 (p := 233) (j := 2) (hv254)
          have x265 := HI.eqA hI0 (p := 233) (j := 3) (hv256)
          have x266 := HI.eqA hI0 (p := 233) (j := 0) (hv203)
          have x267 := HI.eqA hI0 (p := 233) (j := 4) (hv245)
          exact ⟨_, rfl, hI239, hF243, _, rfl, by omega, ⟨⟨by omega, by omega, by omega, by omega, by omega, by omega, by omega⟩, (by intro i i0 i1; refine Eq.trans ?_ (if_neg (show ¬ ((0 ≤ a2.toInt ∧ a2.toInt ≤ 99 ∧ 0 ≤ a1.toInt ∧ a1.toInt < (eA g0 233 0).toInt ∧ (eA g0 233 4).toInt < 8) ∧ i = 94 + 2 * (eA g0 233 4).toInt + 0) from by omega)).symm; refine Eq.trans ?_ (if_neg (show ¬ ((0 ≤ a2.toInt ∧ a2.toInt ≤ 99 ∧ 0 ≤ a1.toInt ∧ a1.toInt < (eA g0 233 0).toInt ∧ (eA g0 233 4).toInt < 8) ∧ i = 94 + 2 * (eA g0 233 4).toInt + 1) from by omega)).symm; refine (eA_ti (((hF240.2.1 233 ma_X11_tell_231_233).trans (gA_sI)))).trans ?_; (first | with_reducible rfl | omega | exact eA_ix (by omega) | rfl))⟩⟩
        · have c237_ : v202.toInt ≤ v205.toInt := en_j_gt_f c237
          refine At.enter rfl ?_
          refine r_iconst 1 rfl ?_
          refine r_goto ?_
          refine At.enter rfl ?_
          refine q_iretz (by decide) ?_
          refine At.enter rfl ?_
          refine q_iretz (by decide) ?_
          refine At.enter rfl ?_
          refine r_ift (by decide) ?_
          refine At.enter rfl ?_
          refine r_aload_n rfl ?_
          refine q_getR (Sh.ref hI135.1 kx_231 rfl) ?_
          refine r_iconst 4 rfl ?_
          obtain ⟨v268, hv268⟩ : ∃ v, eA g0 233 4 = v := ⟨_, rfl⟩
          have wv268 := HI.t4 hI0
          rw [hv268] at wv268
          refine q_iald (Sh.arr hI135.1 ka_233) 4 rfl (by decide) v268 ((eA_c (gA_sI)).trans hv268) ?_
          refine r_istore_n ([(3, .int v268), (0, .ref 231), (1, .int a1), (2, .int a2)]) rfl ?_
          refine r_iload_n rfl ?_
          refine r_bipush 8 rfl ?_
          refine r_ics 51 rfl (fun c269 => ?_) (fun c269 => ?_)
          · have c269_ : v268.toInt ≠ 8 := en_i_ne_t c269
            refine At.enter rfl ?_
            refine r_aload_n rfl ?_
            refine q_getR (Sh.ref hI135.1 kx_231 rfl) ?_
            refine r_bipush 94 rfl ?_
            refine r_iconst 2 rfl ?_
            refine r_iload_n rfl ?_
            refine q_imul (2 * v268.toInt) rfl (by omega) (fun v270 hv270 => ?_)
            refine q_iadd (94 + v270.toInt) rfl (by omega) (fun v271 hv271 => ?_)
            refine r_iload_n rfl ?_
            refine q_iast (Sh.arr hI135.1 ka_233) ((2 * v268.toInt + 94)) (by omega) (by omega) ?_
            have hI272 := HI.wg hI135 (j := (2 * v268.toInt + 94)) (v := a1) (v268.toInt) 0 (by omega) (by decide) (by omega) (by omega)
            have hF273 := Fr.wA (p := 233) (j := (2 * v268.toInt + 94)) (v := a1) hF136 rfl
            refine r_aload_n rfl ?_
            refine q_getR (Sh.ref hI272.1 kx_231 rfl) ?_
            refine r_bipush 94 rfl ?_
            refine r_iconst 2 rfl ?_
            refine r_iload_n rfl ?_
            refine q_imul (2 * v268.toInt) rfl (by omega) (fun v274 hv274 => ?_)
            refine q_iadd (94 + v274.toInt) rfl (by omega) (fun v275 hv275 => ?_)
            refine r_iconst 1 rfl ?_
            refine q_iadd (v275.toInt + 1) rfl (by omega) (fun v276 hv276 => ?_)
            refine r_iload_n rfl ?_
            refine q_iast (Sh.arr hI272.1 ka_233) ((2 * v268.toInt + 95)) (by omega) (by omega) ?_
            have hI277 := HI.wg hI272 (j := (2 * v268.toInt + 95)) (v := a2) (v268.toInt) 1 (by omega) (by decide) (by omega) (by omega)
            have hF278 := Fr.wA (p := 233) (j := (2 * v268.toInt + 95)) (v := a2) hF273 rfl
            refine r_aload_n rfl ?_
            refine q_getR (Sh.ref hI277.1 kx_231 rfl) ?_
            refine r_iconst 4 rfl ?_
            refine r_dup2 ⟨rfl, rfl⟩ ?_
            refine q_iald (Sh.arr hI277.1 ka_233) 4 rfl (by decide) v268 (((eA_sA_ne hI272.1 ka_233 (by first | decide | omega) (by first | decide | omega) (by first | decide | omega)).trans ((eA_sA_ne hI135.1 ka_233 (by first | decide | omega) (by first | decide | omega) (by first | decide | omega)).trans (eA_c gA_sI))).trans hv268) ?_
            refine r_iconst 1 rfl ?_
            refine q_iadd (v268.toInt + 1) rfl (by omega) (fun v279 hv279 => ?_)
            refine q_iast (Sh.arr hI277.1 ka_233) (4) rfl (by decide) ?_
            have hI280 := HI.wt hI277 (j := 4) (v := v279) (by omega) (by omega)
            have hF281 := Fr.wA (p := 233) (j := 4) (v := v279) hF278 rfl
            refine r_aload_n rfl ?_
            refine r_iload_n rfl ?_
            refine r_iconst 1 rfl ?_
            refine q_iadd (v268.toInt + 1) rfl (by omega) (fun v282 hv282 => ?_)
            refine r_callV 101 rfl [.ref 231, .int v282] [] (Nat.le_of_ble_eq_true rfl) rfl (T_X11_tell_231 _ hI280 v282 (by omega)) ?_
            rintro _ _ ⟨g283, rfl, hI284, hF285, v286, rfl, hr287⟩
            refine At.sti ?_
            have hF288 := Fr.tr hF281 hF285 rfl rfl
            refine At.enter rfl ?_
            refine r_ireti ?_
            have x289 := HI.eqA hI284 (p := 233) (j := 4) (((eA_c (hF285.2.1 233 ma_X11_tell_231_233)).trans (eA_sA_eq hI277.1 ka_233 (by first | rfl | omega) (by first | decide | omega) (by first | decide | omega))))
            have x290 := HI.eqA hI284 (p := 233) (j := 0) ((((eA_c (hF285.2.1 233 ma_X11_tell_231_233)).trans ((eA_sA_ne hI277.1 ka_233 (by first | decide | omega) (by first | decide | omega) (by first | decide | omega)).trans ((eA_sA_ne hI272.1 ka_233 (by first | decide | omega) (by first | decide | omega) (by first | decide | omega)).trans ((eA_sA_ne hI135.1 ka_233 (by first | decide | omega) (by first | decide | omega) (by first | decide | omega)).trans (eA_c gA_sI))))).trans hv203))
            obtain ⟨v291, hv291⟩ : ∃ v, eA g0 233 5 = v := ⟨_, rfl⟩
            have wv291 := HI.t5 hI0
            rw [hv291] at wv291
            have tv291 := congrArg Int32.toInt hv291
            have x292 := HI.eqA hI284 (p := 233) (j := 5) ((((eA_c (hF285.2.1 233 ma_X11_tell_231_233)).trans ((eA_sA_ne hI277.1 ka_233 (by first | decide | omega) (by first | decide | omega) (by first | decide | omega)).trans ((eA_sA_ne hI272.1 ka_233 (by first | decide | omega) (by first | decide | omega) (by first | decide | omega)).trans ((eA_sA_ne hI135.1 ka_233 (by first | decide | omega) (by first | decide | omega) (by first | decide | omega)).trans (eA_c gA_sI))))).trans hv291))
            obtain ⟨v293, hv293⟩ : ∃ v, eA g0 233 6 = v := ⟨_, rfl⟩
            have wv293 := HI.t6 hI0
            rw [hv293] at wv293
            have tv293 := congrArg Int32.toInt hv293
            have x294 := HI.eqA hI284 (p := 233) (j := 6) ((((eA_c (hF285.2.1 233 ma_X11_tell_231_233)).trans ((eA_sA_ne hI277.1 ka_233 (by first | decide | omega) (by first | decide | omega) (by first | decide | omega)).trans ((eA_sA_ne hI272.1 ka_233 (by first | decide | omega) (by first | decide | omega) (by first | decide | omega)).trans ((eA_sA_ne hI135.1 ka_233 (by first | decide | omega) (by first | decide | omega) (by first | decide | omega)).trans (eA_c gA_sI))))).trans hv293))
            obtain ⟨v295, hv295⟩ : ∃ v, eA g0 233 1 = v := ⟨_, rfl⟩
            have tv295 := congrArg Int32.toInt hv295
            have wv295 := HI.t1 hI0
            rw [hv295] at wv295
            have tv295 := congrArg Int32.toInt hv295
            have x296 := HI.eqA hI284 (p := 233) (j := 1) ((((eA_c (hF285.2.1 233 ma_X11_tell_231_233)).trans ((eA_sA_ne hI277.1 ka_233 (by first | decide | omega) (by first | decide | omega) (by first | decide | omega)).trans ((eA_sA_ne hI272.1 ka_233 (by first | decide | omega) (by first | decide | omega) (by first | decide | omega)).trans ((eA_sA_ne hI135.1 ka_233 (by first | decide | omega) (by first | decide | omega) (by first | decide | omega)).trans (eA_c gA_sI))))).trans hv295))
            obtain ⟨v297, hv297⟩ : ∃ v, eA g0 233 2 = v := ⟨_, rfl⟩
            have tv297 := congrArg Int32.toInt hv297
            have wv297 := HI.t2 hI0
            rw [hv297] at wv297
            have tv297 := congrArg Int32.toInt hv297
            have x298 := HI.eqA hI284 (p := 233) (j := 2) ((((eA_c (hF285.2.1 233 ma_X11_tell_231_233)).trans ((eA_sA_ne hI277.1 ka_233 (by first | decide | omega) (by first | decide | omega) (by first | decide | omega)).trans ((eA_sA_ne hI272.1 ka_233 (by first | decide | omega) (by first | decide | omega) (by first | decide | omega)).trans ((eA_sA_ne hI135.1 ka_233 (by first | decide | omega) (by first | decide | omega) (by first | decide | omega)).trans (eA_c gA_sI))))).trans hv297))
            obtain ⟨v299, hv299⟩ : ∃ v, eA g0 233 3 = v := ⟨_, rfl⟩
            have wv299 := HI.t3 hI0
            rw [hv299] at wv299
            have tv299 := congrArg Int32.toInt hv299
            have x300 := HI.eqA hI284 (p := 233) (j := 3) ((((eA_c (hF285.2.1 233 ma_X11_tell_231_233)).trans ((eA_sA_ne hI277.1 ka_233 (by first | decide | omega) (by first | decide | omega) (by first | decide | omega)).trans ((eA_sA_ne hI272.1 ka_233 (by first | decide | omega) (by first | decide | omega) (by first | decide | omega)).trans ((eA_sA_ne hI135.1 ka_233 (by first | decide | omega) (by first | decide | omega) (by first | decide | omega)).trans (eA_c gA_sI))))).trans hv299))
            have x301 := HI.eqA hI0 (p := 233) (j := 4) (hv268)
            have x302 := HI.eqA hI0 (p := 233) (j := 0) (hv203)
            have x303 := HI.eqA hI0 (p := 233) (j := 0) (hv203)
            have x304 := HI.eqA hI0 (p := 233) (j := 5) (hv291)
            have x305 := HI.eqA hI0 (p := 233) (j := 6) (hv293)
            have x306 := HI.eqA hI0 (p := 233) (j := 1) (hv295)
            have x307 := HI.eqA hI0 (p := 233) (j := 2) (hv297)
            have x308 := HI.eqA hI0 (p := 233) (j := 3) (hv299)
            have x309 := HI.eqA hI0 (p := 233) (j := 0) (hv203)
            have x310 := HI.eqA hI0 (p := 233) (j := 4) (hv268)
            exact ⟨_, rfl, hI284, hF288, _, rfl, by omega, ⟨⟨by omega, by omega, by omega, by omega, by omega, by omega, by omega⟩, (by intro i i0 i1; exact (Decidable.em ((0 ≤ a2.toInt ∧ a2.toInt ≤ 99 ∧ 0 ≤ a1.toInt ∧ a1.toInt < (eA g0 233 0).toInt ∧ (eA g0 233 4).toInt < 8) ∧ i = 94 + 2 * (eA g0 233 4).toInt + 0)).elim (fun k325_ => by refine Eq.trans ?_ (if_pos k325_).symm; refine (eA_ti ((hF285.2.1 233 ma_X11_tell_231_233))).trans ?_; exact (Decidable.em (i = 4)).elim (fun k326_ => by refine (eA_eqT hI277.1 ka_233 k326_ (by first | decide | omega) (by first | decide | omega)).trans ?_; (first | (with_reducible rfl) | (omega) | (rfl))) (fun k326_ => by refine (eA_neT hI277.1 ka_233 k326_ (by first | decide | omega) (by omega)).trans ?_; exact (Decidable.em (i = (2 * v268.toInt + 95))).elim (fun k327_ => by refine (eA_eqT hI272.1 ka_233 k327_ (by first | decide | omega) (by first | decide | omega)).trans ?_; (first | (with_reducible rfl) | (omega) | (rfl))) (fun k327_ => by refine (eA_neT hI272.1 ka_233 k327_ (by first | decide | omega) (by omega)).trans ?_; exact (Decidable.em (i = (2 * v268.toInt + 94))).elim (fun k328_ => by refine (eA_eqT hI135.1 ka_233 k328_ (by first | decide | omega) (by first | decide | omega)).trans ?_; (first | (with_reducible rfl) | (omega) | (rfl))) (fun k328_ => by refine (eA_neT hI135.1 ka_233 k328_ (by first | decide | omega) (by omega)).trans ?_; refine (eA_ti ((gA_sI))).trans ?_; (first | with_reducible rfl | omega | exact eA_ix (by omega) | rfl))))) (fun k325_ => by refine Eq.trans ?_ (if_neg k325_).symm; exact (Decidable.em ((0 ≤ a2.toInt ∧ a2.toInt ≤ 99 ∧ 0 ≤ a1.toInt ∧ a1.toInt < (eA g0 233 0).toInt ∧ (eA g0 233 4).toInt < 8) ∧ i = 94 + 2 * (eA g0 233 4).toInt + 1)).elim (fun k329_ => by refine Eq.trans ?_ (if_pos k329_).symm; refine (eA_ti ((hF285.2.1 233 ma_X11_tell_231_233))).trans ?_; exact (Decidable.em (i = 4)).elim (fun k330_ => by refine (eA_eqT hI277.1 ka_233 k330_ (by first | decide | omega) (by first | decide | omega)).trans ?_; (first | (with_reducible rfl) | (omega) | (rfl))) (fun k330_ => by refine (eA_neT hI277.1 ka_233 k330_ (by first | decide | omega) (by omega)).trans ?_; exact (Decidable.em (i = (2 * v268.toInt + 95))).elim (fun k331_ => by refine (eA_eqT hI272.1 ka_233 k331_ (by first | decide | omega) (by first | decide | omega)).trans ?_; (first | (with_reducible rfl) | (omega) | (rfl))) (fun k331_ => by refine (eA_neT hI272.1 ka_233 k331_ (by first | decide | omega) (by omega)).trans ?_; exact (Decidable.em (i = (2 * v268.toInt + 94))).elim (fun k332_ => by refine (eA_eqT hI135.1 ka_233 k332_ (by first | decide | omega) (by first | decide | omega)).trans ?_; (first | (with_reducible rfl) | (omega) | (rfl))) (fun k332_ => by refine (eA_neT hI135.1 ka_233 k332_ (by first | decide | omega) (by omega)).trans ?_; refine (eA_ti ((gA_sI))).trans ?_; (first | with_reducible rfl | omega | exact eA_ix (by omega) | rfl))))) (fun k329_ => by refine Eq.trans ?_ (if_neg k329_).symm; refine (eA_ti ((hF285.2.1 233 ma_X11_tell_231_233))).trans ?_; exact (Decidable.em (i = 4)).elim (fun k333_ => by refine (eA_eqT hI277.1 ka_233 k333_ (by first | decide | omega) (by first | decide | omega)).trans ?_; (first | (with_reducible rfl) | (omega) | (rfl))) (fun k333_ => by refine (eA_neT hI277.1 ka_233 k333_ (by first | decide | omega) (by omega)).trans ?_; exact (Decidable.em (i = (2 * v268.toInt + 95))).elim (fun k334_ => by refine (eA_eqT hI272.1 ka_233 k334_ (by first | decide | omega) (by first | decide | omega)).trans ?_; (first | (with_reducible rfl) | (omega) | (rfl))) (fun k334_ => by refine (eA_neT hI272.1 ka_233 k334_ (by first | decide | omega) (by omega)).trans ?_; exact (Decidable.em (i = (2 * v268.toInt + 94))).elim (fun k335_ => by refine (eA_eqT hI135.1 ka_233 k335_ (by first | decide | omega) (by first | decide | omega)).trans ?_; (first | (with_reducible rfl) | (omega) | (rfl))) (fun k335_ => by refine (eA_neT hI135.1 ka_233 k335_ (by first | decide | omega) (by omega)).trans ?_; refine (eA_ti ((gA_sI))).trans ?_; (first | with_reducible rfl | omega | exact eA_ix (by omega) | rfl)))))))⟩⟩
          · have c269_ : v268.toInt = 8 := en_i_ne_f c269
            refine At.enter rfl ?_
            refine r_aload_n rfl ?_
            refine r_bipush (-5) rfl ?_
            refine r_callV 57 rfl [.ref 231, .int (-5)] [] (Nat.le_of_ble_eq_true rfl) rfl (T_X11_tell_231 _ hI135 (-5) (by decide)) ?_
            rintro _ _ ⟨g311, rfl, hI312, hF313, v314, rfl, hr315⟩
            refine At.sti ?_
            have hF316 := Fr.tr hF136 hF313 rfl rfl
            have zv317 : ((-5) : Int32).toInt = (-5) := rfl
            refine At.enter rfl ?_
            refine r_ireti ?_
            have x318 := HI.eqA hI312 (p := 233) (j := 4) ((((eA_c (hF313.2.1 233 ma_X11_tell_231_233)).trans (eA_c gA_sI)).trans hv268))
            have x319 := HI.eqA hI312 (p := 233) (j := 0) ((((eA_c (hF313.2.1 233 ma_X11_tell_231_233)).trans (eA_c gA_sI)).trans hv203))
            obtain ⟨v320, hv320⟩ : ∃ v, eA g0 233 5 = v := ⟨_, rfl⟩
            have wv320 := HI.t5 hI0
            rw [hv320] at wv320
            have tv320 := congrArg Int32.toInt hv320
            have x321 := HI.eqA hI312 (p := 233) (j := 5) ((((eA_c (hF313.2.1 233 ma_X11_tell_231_233)).trans (eA_c gA_sI)).trans hv320))
            obtain ⟨v322, hv322⟩ : ∃ v, eA g0 233 6 = v := ⟨_, rfl⟩
            have wv322 := HI.t6 hI0
            rw [hv322] at wv322
            have tv322 := congrArg Int32.toInt hv322
            have x323 := HI.eqA hI312 (p := 233) (j := 6) ((((eA_c (hF313.2.1 233 ma_X11_tell_231_233)).trans (eA_c gA_sI)).trans hv322))
            obtain ⟨v324, hv324⟩ : ∃ v, eA g0 233 1 = v := ⟨_, rfl⟩
            have tv324 := congrArg Int32.toInt hv324
            have wv324 := HI.t1 hI0
            rw [hv324] at wv324
            have tv324 := congrArg Int32.toInt hv324
            have x325 := HI.eqA hI312 (p := 233) (j := 1) ((((eA_c (hF313.2.1 233 ma_X11_tell_231_233)).trans (eA_c gA_sI)).trans hv324))
            obtain ⟨v326, hv326⟩ : ∃ v, eA g0 233 2 = v := ⟨_, rfl⟩
            have tv326 := congrArg Int32.toInt hv326
            have wv326 := HI.t2 hI0
            rw [hv326] at wv326
            have tv326 := congrArg Int32.toInt hv326
            have x327 := HI.eqA hI312 (p := 233) (j := 2) ((((eA_c (hF313.2.1 233 ma_X11_tell_231_233)).trans (eA_c gA_sI)).trans hv326))
            obtain ⟨v328, hv328⟩ : ∃ v, eA g0 233 3 = v := ⟨_, rfl⟩
            have wv328 := HI.t3 hI0
            rw [hv328] at wv328
            have tv328 := congrArg Int32.toInt hv328
            have x329 := HI.eqA hI312 (p := 233) (j := 3) ((((eA_c (hF313.2.1 233 ma_X11_tell_231_233)).trans (eA_c gA_sI)).trans hv328))
            have x330 := HI.eqA hI0 (p := 233) (j := 4) (hv268)
            have x331 := HI.eqA hI0 (p := 233) (j := 0) (hv203)
            have x332 := HI.eqA hI0 (p := 233) (j := 0) (hv203)
            have x333 := HI.eqA hI0 (p := 233) (j := 5) (hv320)
            have x334 := HI.eqA hI0 (p := 233) (j := 6) (hv322)
            have x335 := HI.eqA hI0 (p := 233) (j := 1) (hv324)
            have x336 := HI.eqA hI0 (p := 233) (j := 2) (hv326)
            have x337 := HI.eqA hI0 (p := 233) (j := 3) (hv328)
            have x338 := HI.eqA hI0 (p := 233) (j := 0) (hv203)
            have x339 := HI.eqA hI0 (p := 233) (j := 4) (hv268)
            exact ⟨_, rfl, hI312, hF316, _, rfl, by omega, ⟨⟨by omega, by omega, by omega, by omega, by omega, by omega, by omega⟩, (by intro i i0 i1; refine Eq.trans ?_ (if_neg (show ¬ ((0 ≤ a2.toInt ∧ a2.toInt ≤ 99 ∧ 0 ≤ a1.toInt ∧ a1.toInt < (eA g0 233 0).toInt ∧ (eA g0 233 4).toInt < 8) ∧ i = 94 + 2 * (eA g0 233 4).toInt + 0) from by omega)).symm; refine Eq.trans ?_ (if_neg (show ¬ ((0 ≤ a2.toInt ∧ a2.toInt ≤ 99 ∧ 0 ≤ a1.toInt ∧ a1.toInt < (eA g0 233 0).toInt ∧ (eA g0 233 4).toInt < 8) ∧ i = 94 + 2 * (eA g0 233 4).toInt + 1) from by omega)).symm; refine (eA_ti (((hF313.2.1 233 ma_X11_tell_231_233).trans (gA_sI)))).trans ?_; (first | with_reducible rfl | omega | exact eA_ix (by omega) | rfl))⟩⟩
