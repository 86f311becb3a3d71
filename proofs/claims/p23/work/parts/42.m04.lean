def F_X11_status_231 : List (Nat × Nat) := [(231, 0)]
def A_X11_status_231 : List Nat := []
set_option maxRecDepth 100000 in
set_option maxHeartbeats 4000000 in
theorem T_X11_status_231 (d : Nat) {N : Nat} {g0 : List en_E} (hI0 : HI g0) : Ev (d + 1) 264 [.ref 231] (g0, N) (fun w h' => ∃ g', h' = (g', N) ∧ HI g' ∧ Fr F_X11_status_231 A_X11_status_231 g0 g' ∧ ∃ r : Int32, w = some (.int r) ∧ True) := by
  have hF0 : Fr F_X11_status_231 A_X11_status_231 g0 g0 := Fr.rf
  refine Ev.mk rfl rfl ⟨Nat.le_of_ble_eq_true rfl, Or.inr (q_rc hI0.1 kx_231 rfl)⟩ ?_
  show At _ none _ _ (0, [(0, .ref 231)], [], (_, _)) _
  refine At.enter rfl ?_
  refine r_aload_n rfl ?_
  refine r_iconst 0 rfl ?_
  refine q_putI (Sh.int hI0.1 kx_231 rfl) rfl ?_
  have hI7 := HI.wI0 hI0 kx_231 rfl (p := 231) (b := 0) (v := 0) rfl
  have hF8 := Fr.wI (p := 231) (b := 0) (v := 0) hF0 rfl
  refine r_aload_n rfl ?_
  obtain ⟨v9, hv9⟩ : ∃ v, gI g0 231 1 = v := ⟨_, rfl⟩
  refine q_getI (Sh.int hI7.1 kx_231 rfl) v9 ((gI_sI_ne (by decide)).trans hv9) ?_
  refine r_ireti ?_
  exact ⟨_, rfl, hI7, hF8, _, rfl, trivial⟩

def F_X11_stand_231 : List (Nat × Nat) := [(231, 0), (231, 1)]
def A_X11_stand_231 : List Nat := [232, 233]
set_option maxRecDepth 100000 in
set_option maxHeartbeats 4000000 in
theorem T_X11_stand_231 (d : Nat) {N : Nat} {g0 : List en_E} (hI0 : HI g0) (a1 : Int32) (a2 : Int32) (a3 : Int32) : Ev (d + 3) 172 [.ref 231, .int a1, .int a2, .int a3] (g0, N) (fun w h' => ∃ g', h' = (g', N) ∧ HI g' ∧ Fr F_X11_stand_231 A_X11_stand_231 g0 g' ∧ ∃ r : Int32, w = some (.int r) ∧ ((-5) ≤ r.toInt ∧ r.toInt ≤ 11) ∧ (((¬ (-1 ≤ a1.toInt ∧ a1.toInt ≤ 11 ∧ 1 ≤ a2.toInt ∧ a2.toInt ≤ 9 ∧ 0 ≤ a3.toInt ∧ a3.toInt ≤ 99) → r.toInt = -1 ∧ (eA g' 233 0).toInt = (eA g0 233 0).toInt) ∧ ((-1 ≤ a1.toInt ∧ a1.toInt ≤ 11 ∧ 1 ≤ a2.toInt ∧ a2.toInt ≤ 9 ∧ 0 ≤ a3.toInt ∧ a3.toInt ≤ 99) ∧ 12 ≤ (eA g0 233 0).toInt → r.toInt = -5 ∧ (eA g' 233 0).toInt = (eA g0 233 0).toInt) ∧ ((-1 ≤ a1.toInt ∧ a1.toInt ≤ 11 ∧ 1 ≤ a2.toInt ∧ a2.toInt ≤ 9 ∧ 0 ≤ a3.toInt ∧ a3.toInt ≤ 99) ∧ (eA g0 233 0).toInt < 12 → r.toInt = (eA g0 233 0).toInt ∧ (eA g' 233 0).toInt = (eA g0 233 0).toInt + 1)) ∧ (eA g' 233 4).toInt = (eA g0 233 4).toInt ∧ (eA g' 233 5).toInt = (eA g0 233 5).toInt ∧ (eA g' 233 6).toInt = (eA g0 233 6).toInt)) := by
  have hF0 : Fr F_X11_stand_231 A_X11_stand_231 g0 g0 := Fr.rf
  refine Ev.mk rfl rfl ⟨Nat.le_of_ble_eq_true rfl, Or.inr (q_rc hI0.1 kx_231 rfl)⟩ ?_
  show At _ none _ _ (0, [(0, .ref 231), (1, .int a1), (2, .int a2), (3, .int a3)], [], (_, _)) _
  refine At.enter rfl ?_
  refine r_aload_n rfl ?_
  refine r_iconst 0 rfl ?_
  refine q_putI (Sh.int hI0.1 kx_231 rfl) rfl ?_
  have hI173 := HI.wI0 hI0 kx_231 rfl (p := 231) (b := 0) (v := 0) rfl
  have hF174 := Fr.wI (p := 231) (b := 0) (v := 0) hF0 rfl
  refine r_iconst 0 rfl ?_
  refine r_iload_n rfl ?_
  refine q_inlS 10 rfl [.int 0, .int a1] [] (Nat.le_of_ble_eq_true rfl) rfl ?_
  refine Ev.mk rfl rfl ⟨Nat.le_of_ble_eq_true rfl, Or.inl rfl⟩ ?_
  show At _ none _ _ (0, [(0, .int 0), (1, .int a1)], [], (_, _)) _
  refine At.enter rfl ?_
  refine r_iload_n rfl ?_
  refine r_tsw 28 rfl ?_
  refine At.enter rfl ?_
  refine r_iload_n rfl ?_
  refine q_i2l (fun v175 hv175 => ?_)
  refine r_ldc2 (-1) rfl ?_
  refine r_ldc2 11 rfl ?_
  refine q_inlS 39 rfl [.long v175, .long (-1), .long 11] [] (Nat.le_of_ble_eq_true rfl) rfl ?_
  refine Ev.mk rfl rfl ⟨Nat.le_of_ble_eq_true rfl, Or.inl rfl⟩ ?_
  show At _ none _ _ (0, [(0, .long v175), (2, .long (-1)), (4, .long 11)], [], (_, _)) _
  refine At.enter rfl ?_
  refine r_lload_n rfl ?_
  refine r_lload_n rfl ?_
  refine r_lcmp _ rfl ?_
  refine r_ifs 6 rfl (fun c176 => ?_) (fun c176 => ?_)
  · have c176_ : v175.toInt < (-1) := en_j_lt_t c176
    refine At.enter rfl ?_
    refine r_iconst 0 rfl ?_
    refine Ar.fall 18 rfl ?_
    refine At.enter rfl ?_
    refine q_iretz (by decide) ?_
    refine At.enter rfl ?_
    refine q_iretz (by decide) ?_
    refine At.enter rfl ?_
    refine r_ift (by decide) ?_
    refine At.enter rfl ?_
    refine r_aload_n rfl ?_
    refine r_iconst (-1) rfl ?_
    refine r_callV 34 rfl [.ref 231, .int (-1)] [] (Nat.le_of_ble_eq_true rfl) rfl (T_X11_tell_231 _ hI173 (-1) (by decide)) ?_
    rintro _ _ ⟨g177, rfl, hI178, hF179, v180, rfl, hr181⟩
    refine At.sti ?_
    have hF182 := Fr.tr hF174 hF179 rfl rfl
    have zv183 : ((-1) : Int32).toInt = (-1) := rfl
    refine At.enter rfl ?_
    refine r_ireti ?_
    obtain ⟨v184, hv184⟩ : ∃ v, eA g0 233 0 = v := ⟨_, rfl⟩
    have tv184 := congrArg Int32.toInt hv184
    have wv184 := HI.t0 hI0
    rw [hv184] at wv184
    have tv184 := congrArg Int32.toInt hv184
    have x185 := HI.eqA hI178 (p := 233) (j := 0) ((((eA_c (hF179.2.1 233 (by decide))).trans (eA_c gA_sI)).trans hv184))
    obtain ⟨v186, hv186⟩ : ∃ v, eA g0 233 4 = v := ⟨_, rfl⟩
    have wv186 := HI.t4 hI0
    rw [hv186] at wv186
    have tv186 := congrArg Int32.toInt hv186
    have x187 := HI.eqA hI178 (p := 233) (j := 4) ((((eA_c (hF179.2.1 233 (by decide))).trans (eA_c gA_sI)).trans hv186))
    obtain ⟨v188, hv188⟩ : ∃ v, eA g0 233 5 = v := ⟨_, rfl⟩
    have wv188 := HI.t5 hI0
    rw [hv188] at wv188
    have tv188 := congrArg Int32.toInt hv188
    have x189 := HI.eqA hI178 (p := 233) (j := 5) ((((eA_c (hF179.2.1 233 (by decide))).trans (eA_c gA_sI)).trans hv188))
    obtain ⟨v190, hv190⟩ : ∃ v, eA g0 233 6 = v := ⟨_, rfl⟩
    have wv190 := HI.t6 hI0
    rw [hv190] at wv190
    have tv190 := congrArg Int32.toInt hv190
    have x191 := HI.eqA hI178 (p := 233) (j := 6) ((((eA_c (hF179.2.1 233 (by decide))).trans (eA_c gA_sI)).trans hv190))
    have x192 := HI.eqA hI0 (p := 233) (j := 0) (hv184)
    have x193 := HI.eqA hI0 (p := 233) (j := 4) (hv186)
    have x194 := HI.eqA hI0 (p := 233) (j := 5) (hv188)
    have x195 := HI.eqA hI0 (p := 233) (j := 6) (hv190)
    exact ⟨_, rfl, hI178, hF182, _, rfl, by omega, ⟨by omega, by omega, by omega, by omega⟩⟩
  · have c176_ : v175.toInt ≥ (-1) := en_j_lt_f c176
    refine At.enter rfl ?_
    refine r_lload_n rfl ?_
    refine r_lload rfl ?_
    refine r_lcmp _ rfl ?_
    refine r_ifs 13 rfl (fun c196 => ?_) (fun c196 => ?_)
    · have c196_ : v175.toInt > 11 := en_j_gt_t c196
      refine At.enter rfl ?_
      refine r_iconst 0 rfl ?_
      refine Ar.fall 18 rfl ?_
      refine At.enter rfl ?_
      refine q_iretz (by decide) ?_
      refine At.enter rfl ?_
      refine q_iretz (by decide) ?_
      refine At.enter rfl ?_
      refine r_ift (by decide) ?_
      refine At.enter rfl ?_
      refine r_aload_n rfl ?_
      refine r_iconst (-1) rfl ?_
      refine r_callV 34 rfl [.ref 231, .int (-1)] [] (Nat.le_of_ble_eq_true rfl) rfl (T_X11_tell_231 _ hI173 (-1) (by decide)) ?_
      rintro _ _ ⟨g197, rfl, hI198, hF199, v200, rfl, hr201⟩
      refine At.sti ?_
      have hF202 := Fr.tr hF174 hF199 rfl rfl
      have zv203 : ((-1) : Int32).toInt = (-1) := rfl
      refine At.enter rfl ?_
      refine r_ireti ?_
      obtain ⟨v204, hv204⟩ : ∃ v, eA g0 233 0 = v := ⟨_, rfl⟩
      have tv204 := congrArg Int32.toInt hv204
      have wv204 := HI.t0 hI0
      rw [hv204] at wv204
      have tv204 := congrArg Int32.toInt hv204
      have x205 := HI.eqA hI198 (p := 233) (j := 0) ((((eA_c (hF199.2.1 233 (by decide))).trans (eA_c gA_sI)).trans hv204))
      obtain ⟨v206, hv206⟩ : ∃ v, eA g0 233 4 = v := ⟨_, rfl⟩
      have wv206 := HI.t4 hI0
      rw [hv206] at wv206
      have tv206 := congrArg Int32.toInt hv206
      have x207 := HI.eqA hI198 (p := 233) (j := 4) ((((eA_c (hF199.2.1 233 (by decide))).trans (eA_c gA_sI)).trans hv206))
      obtain ⟨v208, hv208⟩ : ∃ v, eA g0 233 5 = v := ⟨_, rfl⟩
      have wv208 := HI.t5 hI0
      rw [hv208] at wv208
      have tv208 := congrArg Int32.toInt hv208
      have x209 := HI.eqA hI198 (p := 233) (j := 5) ((((eA_c (hF199.2.1 233 (by decide))).trans (eA_c gA_sI)).trans hv208))
      obtain ⟨v210, hv210⟩ : ∃ v, eA g0 233 6 = v := ⟨_, rfl⟩
      have wv210 := HI.t6 hI0
      rw [hv210] at wv210
      have tv210 := congrArg Int32.toInt hv210
      have x211 := HI.eqA hI198 (p := 233) (j := 6) ((((eA_c (hF199.2.1 233 (by decide))).trans (eA_c gA_sI)).trans hv210))
      have x212 := HI.eqA hI0 (p := 233) (j := 0) (hv204)
      have x213 := HI.eqA hI0 (p := 233) (j := 4) (hv206)
      have x214 := HI.eqA hI0 (p := 233) (j := 5) (hv208)
      have x215 := HI.eqA hI0 (p := 233) (j := 6) (hv210)
      exact ⟨_, rfl, hI198, hF202, _, rfl, by omega, ⟨by omega, by omega, by omega, by omega⟩⟩
    · have c196_ : v175.toInt ≤ 11 := en_j_gt_f c196
      refine At.enter rfl ?_
      refine r_iconst 1 rfl ?_
      refine r_goto ?_
      refine At.enter rfl ?_
      refine q_iretz (by decide) ?_
      refine At.enter rfl ?_
      refine q_iretz (by decide) ?_
      refine At.enter rfl ?_
      refine r_iff 13 rfl (by decide) ?_
      refine At.enter rfl ?_
      refine r_iconst 1 rfl ?_
      refine r_iload_n rfl ?_
      refine q_inlS 18 rfl [.int 1, .int a2] [] (Nat.le_of_ble_eq_true rfl) rfl ?_
      refine Ev.mk rfl rfl ⟨Nat.le_of_ble_eq_true rfl, Or.inl rfl⟩ ?_
      show At _ none _ _ (0, [(0, .int 1), (1, .int a2)], [], (_, _)) _
      refine At.enter rfl ?_
      refine r_iload_n rfl ?_
      refine r_tsw 40 rfl ?_
      refine At.enter rfl ?_
      refine r_iload_n rfl ?_
      refine q_i2l (fun v216 hv216 => ?_)
      refine r_lconst 1 rfl ?_
      refine r_ldc2 9 rfl ?_
      refine q_inlS 49 rfl [.long v216, .long 1, .long 9] [] (Nat.le_of_ble_eq_true rfl) rfl ?_
      refine Ev.mk rfl rfl ⟨Nat.le_of_ble_eq_true rfl, Or.inl rfl⟩ ?_
      show At _ none _ _ (0, [(0, .long v216), (2, .long 1), (4, .long 9)], [], (_, _)) _
      refine At.enter rfl ?_
      refine r_lload_n rfl ?_
      refine r_lload_n rfl ?_
      refine r_lcmp _ rfl ?_
      refine r_ifs 6 rfl (fun c217 => ?_) (fun c217 => ?_)
      · have c217_ : v216.toInt < 1 := en_j_lt_t c217
        refine At.enter rfl ?_
        refine r_iconst 0 rfl ?_
        refine Ar.fall 18 rfl ?_
        refine At.enter rfl ?_
        refine q_iretz (by decide) ?_
        refine At.enter rfl ?_
        refine q_iretz (by decide) ?_
        refine At.enter rfl ?_
        refine r_ift (by decide) ?_
        refine At.enter rfl ?_
        refine r_aload_n rfl ?_
        refine r_iconst (-1) rfl ?_
        refine r_callV 34 rfl [.ref 231, .int (-1)] [] (Nat.le_of_ble_eq_true rfl) rfl (T_X11_tell_231 _ hI173 (-1) (by decide)) ?_
        rintro _ _ ⟨g218, rfl, hI219, hF220, v221, rfl, hr222⟩
        refine At.sti ?_
        have hF223 := Fr.tr hF174 hF220 rfl rfl
        have zv224 : ((-1) : Int32).toInt = (-1) := rfl
        refine At.enter rfl ?_
        refine r_ireti ?_
        obtain ⟨v225, hv225⟩ : ∃ v, eA g0 233 0 = v := ⟨_, rfl⟩
        have tv225 := congrArg Int32.toInt hv225
        have wv225 := HI.t0 hI0
        rw [hv225] at wv225
        have tv225 := congrArg Int32.toInt hv225
        have x226 := HI.eqA hI219 (p := 233) (j := 0) ((((eA_c (hF220.2.1 233 (by decide))).trans (eA_c gA_sI)).trans hv225))
        obtain ⟨v227, hv227⟩ : ∃ v, eA g0 233 4 = v := ⟨_, rfl⟩
        have wv227 := HI.t4 hI0
        rw [hv227] at wv227
        have tv227 := congrArg Int32.toInt hv227
        have x228 := HI.eqA hI219 (p := 233) (j := 4) ((((eA_c (hF220.2.1 233 (by decide))).trans (eA_c gA_sI)).trans hv227))
        obtain ⟨v229, hv229⟩ : ∃ v, eA g0 233 5 = v := ⟨_, rfl⟩
        have wv229 := HI.t5 hI0
        rw [hv229] at wv229
        have tv229 := congrArg Int32.toInt hv229
        have x230 := HI.eqA hI219 (p := 233) (j := 5) ((((eA_c (hF220.2.1 233 (by decide))).trans (eA_c gA_sI)).trans hv229))
        obtain ⟨v231, hv231⟩ : ∃ v, eA g0 233 6 = v := ⟨_, rfl⟩
        have wv231 := HI.t6 hI0
        rw [hv231] at wv231
        have tv231 := congrArg Int32.toInt hv231
        have x232 := HI.eqA hI219 (p := 233) (j := 6) ((((eA_c (hF220.2.1 233 (by decide))).trans (eA_c gA_sI)).trans hv231))
        have x233 := HI.eqA hI0 (p := 233) (j := 0) (hv225)
        have x234 := HI.eqA hI0 (p := 233) (j := 4) (hv227)
        have x235 := HI.eqA hI0 (p := 233) (j := 5) (hv229)
        have x236 := HI.eqA hI0 (p := 233) (j := 6) (hv231)
        exact ⟨_, rfl, hI219, hF223, _, rfl, by omega, ⟨by omega, by omega, by omega, by omega⟩⟩
      · have c217_ : v216.toInt ≥ 1 := en_j_lt_f c217
        refine At.enter rfl ?_
        refine r_lload_n rfl ?_
        refine r_lload rfl ?_
        refine r_lcmp _ rfl ?_
        refine r_ifs 13 rfl (fun c237 => ?_) (fun c237 => ?_)
        · have c237_ : v216.toInt > 9 := en_j_gt_t c237
          refine At.enter rfl ?_
          refine r_iconst 0 rfl ?_
          refine Ar.fall 18 rfl ?_
          refine At.enter rfl ?_
          refine q_iretz (by decide) ?_
          refine At.enter rfl ?_
          refine q_iretz (by decide) ?_
          refine At.enter rfl ?_
          refine r_ift (by decide) ?_
          refine At.enter rfl ?_
          refine r_aload_n rfl ?_
          refine r_iconst (-1) rfl ?_
          refine r_callV 34 rfl [.ref 231, .int (-1)] [] (Nat.le_of_ble_eq_true rfl) rfl (T_X11_tell_231 _ hI173 (-1) (by decide)) ?_
          rintro _ _ ⟨g238, rfl, hI239, hF240, v241, rfl, hr242⟩
          refine At.sti ?_
          have hF243 := Fr.tr hF174 hF240 rfl rfl
          have zv244 : ((-1) : Int32).toInt = (-1) := rfl
          refine At.enter rfl ?_
          refine r_ireti ?_
          obtain ⟨v245, hv245⟩ : ∃ v, eA g0 233 0 = v := ⟨_, rfl⟩
          have tv245 := congrArg Int32.toInt hv245
          have wv245 := HI.t0 hI0
          rw [hv245] at wv245
          have tv245 := congrArg Int32.toInt hv245
          have x246 := HI.eqA hI239 (p := 233) (j := 0) ((((eA_c (hF240.2.1 233 (by decide))).trans (eA_c gA_sI)).trans hv245))
          obtain ⟨v247, hv247⟩ : ∃ v, eA g0 233 4 = v := ⟨_, rfl⟩
          have wv247 := HI.t4 hI0
          rw [hv247] at wv247
          have tv247 := congrArg Int32.toInt hv247
          have x248 := HI.eqA hI239 (p := 233) (j := 4) ((((eA_c (hF240.2.1 233 (by decide))).trans (eA_c gA_sI)).trans hv247))
          obtain ⟨v249, hv249⟩ : ∃ v, eA g0 233 5 = v := ⟨_, rfl⟩
          have wv249 := HI.t5 hI0
          rw [hv249] at wv249
          have tv249 := congrArg Int32.toInt hv249
          have x250 := HI.eqA hI239 (p := 233) (j := 5) ((((eA_c (hF240.2.1 233 (by decide))).trans (eA_c gA_sI)).trans hv249))
          obtain ⟨v251, hv251⟩ : ∃ v, eA g0 233 6 = v := ⟨_, rfl⟩
          have wv251 := HI.t6 hI0
          rw [hv251] at wv251
          have tv251 := congrArg Int32.toInt hv251
          have x252 := HI.eqA hI239 (p := 233) (j := 6) ((((eA_c (hF240.2.1 233 (by decide))).trans (eA_c gA_sI)).trans hv251))
          have x253 := HI.eqA hI0 (p := 233) (j := 0) (hv245)
          have x254 := HI.eqA hI0 (p := 233) (j := 4) (hv247)
          have x255 := HI.eqA hI0 (p := 233) (j := 5) (hv249)
          have x256 := HI.eqA hI0 (p := 233) (j := 6) (hv251)
          exact ⟨_, rfl, hI239, hF243, _, rfl, by omega, ⟨by omega, by omega, by omega, by omega⟩⟩
        · have c237_ : v216.toInt ≤ 9 := en_j_gt_f c237
          refine At.enter rfl ?_
          refine r_iconst 1 rfl ?_
          refine r_goto ?_
          refine At.enter rfl ?_
          refine q_iretz (by decide) ?_
          refine At.enter rfl ?_
          refine q_iretz (by decide) ?_
          refine At.enter rfl ?_
          refine r_iff 21 rfl (by decide) ?_
          refine At.enter rfl ?_
          refine r_iconst 2 rfl ?_
          refine r_iload_n rfl ?_
          refine q_inlS 26 rfl [.int 2, .int a3] [] (Nat.le_of_ble_eq_true rfl) rfl ?_
          refine Ev.mk rfl rfl ⟨Nat.le_of_ble_eq_true rfl, Or.inl rfl⟩ ?_
          show At _ none _ _ (0, [(0, .int 2), (1, .int a3)], [], (_, _)) _
          refine At.enter rfl ?_
          refine r_iload_n rfl ?_
          refine r_tsw 50 rfl ?_
          refine At.enter rfl ?_
          refine r_iload_n rfl ?_
          refine q_i2l (fun v257 hv257 => ?_)
          refine r_lconst 0 rfl ?_
          refine r_ldc2 99 rfl ?_
          refine q_inlS 59 rfl [.long v257, .long 0, .long 99] [] (Nat.le_of_ble_eq_true rfl) rfl ?_
          refine Ev.mk rfl rfl ⟨Nat.le_of_ble_eq_true rfl, Or.inl rfl⟩ ?_
          show At _ none _ _ (0, [(0, .long v257), (2, .long 0), (4, .long 99)], [], (_, _)) _
          refine At.enter rfl ?_
          refine r_lload_n rfl ?_
          refine r_lload_n rfl ?_
          refine r_lcmp _ rfl ?_
          refine r_ifs 6 rfl (fun c258 => ?_) (fun c258 => ?_)
          · have c258_ : v257.toInt < 0 := en_j_lt_t c258
            refine At.enter rfl ?_
            refine r_iconst 0 rfl ?_
            refine Ar.fall 18 rfl ?_
            refine At.enter rfl ?_
            refine q_iretz (by decide) ?_
            refine At.enter rfl ?_
            refine q_iretz (by decide) ?_
            refine At.enter rfl ?_
            refine r_iff 29 rfl (by decide) ?_
            refine At.enter rfl ?_
            refine r_aload_n rfl ?_
            refine r_iconst (-1) rfl ?_
            refine r_callV 34 rfl [.ref 231, .int (-1)] [] (Nat.le_of_ble_eq_true rfl) rfl (T_X11_tell_231 _ hI173 (-1) (by decide)) ?_
            rintro _ _ ⟨g259, rfl, hI260, hF261, v262, rfl, hr263⟩
            refine At.sti ?_
            have hF264 := Fr.tr hF174 hF261 rfl rfl
            have zv265 : ((-1) : Int32).toInt = (-1) := rfl
            refine At.enter rfl ?_
            refine r_ireti ?_
            obtain ⟨v266, hv266⟩ : ∃ v, eA g0 233 0 = v := ⟨_, rfl⟩
            have tv266 := congrArg Int32.toInt hv266
            have wv266 := HI.t0 hI0
            rw [hv266] at wv266
            have tv266 := congrArg Int32.toInt hv266
            have x267 := HI.eqA hI260 (p := 233) (j := 0) ((((eA_c (hF261.2.1 233 (by decide))).trans (eA_c gA_sI)).trans hv266))
            obtain ⟨v268, hv268⟩ : ∃ v, eA g0 233 4 = v := ⟨_, rfl⟩
            have wv268 := HI.t4 hI0
            rw [hv268] at wv268
            have tv268 := congrArg Int32.toInt hv268
            have x269 := HI.eqA hI260 (p := 233) (j := 4) ((((eA_c (hF261.2.1 233 (by decide))).trans (eA_c gA_sI)).trans hv268))
            obtain ⟨v270, hv270⟩ : ∃ v, eA g0 233 5 = v := ⟨_, rfl⟩
            have wv270 := HI.t5 hI0
            rw [hv270] at wv270
            have tv270 := congrArg Int32.toInt hv270
            have x271 := HI.eqA hI260 (p := 233) (j := 5) ((((eA_c (hF261.2.1 233 (by decide))).trans (eA_c gA_sI)).trans hv270))
            obtain ⟨v272, hv272⟩ : ∃ v, eA g0 233 6 = v := ⟨_, rfl⟩
            have wv272 := HI.t6 hI0
            rw [hv272] at wv272
            have tv272 := congrArg Int32.toInt hv272
            have x273 := HI.eqA hI260 (p := 233) (j := 6) ((((eA_c (hF261.2.1 233 (by decide))).trans (eA_c gA_sI)).trans hv272))
            have x274 := HI.eqA hI0 (p := 233) (j := 0) (hv266)
            have x275 := HI.eqA hI0 (p := 233) (j := 4) (hv268)
            have x276 := HI.eqA hI0 (p := 233) (j := 5) (hv270)
            have x277 := HI.eqA hI0 (p := 233) (j := 6) (hv272)
            exact ⟨_, rfl, hI260, hF264, _, rfl, by omega, ⟨by omega, by omega, by omega, by omega⟩⟩
          · have c258_ : v257.toInt ≥ 0 := en_j_lt_f c258
            refine At.enter rfl ?_
            refine r_lload_n rfl ?_
            refine r_lload rfl ?_
            refine r_lcmp _ rfl ?_
            refine r_ifs 13 rfl (fun c278 => ?_) (fun c278 => ?_)
            · have c278_ : v257.toInt > 99 := en_j_gt_t c278
              refine At.enter rfl ?_
              refine r_iconst 0 rfl ?_
              refine Ar.fall 18 rfl ?_
              refine At.enter rfl ?_
              refine q_iretz (by decide) ?_
              refine At.enter rfl ?_
              refine q_iretz (by decide) ?_
              refine At.enter rfl ?_
              refine r_iff 29 rfl (by decide) ?_
              refine At.enter rfl ?_
              refine r_aload_n rfl ?_
              refine r_iconst (-1) rfl ?_
              refine r_callV 34 rfl [.ref 231, .int (-1)] [] (Nat.le_of_ble_eq_true rfl) rfl (T_X11_tell_231 _ hI173 (-1) (by decide)) ?_
              rintro _ _ ⟨g279, rfl, hI280, hF281, v282, rfl, hr283⟩
              refine At.sti ?_
              have hF284 := Fr.tr hF174 hF281 rfl rfl
              have zv285 : ((-1) : Int32).toInt = (-1) := rfl
              refine At.enter rfl ?_
              refine r_ireti ?_
              obtain ⟨v286, hv286⟩ : ∃ v, eA g0 233 0 = v := ⟨_, rfl⟩
              have tv286 := congrArg Int32.toInt hv286
              have wv286 := HI.t0 hI0
              rw [hv286] at wv286
              have tv286 := congrArg Int32.toInt hv286
              have x287 := HI.eqA hI280 (p := 233) (j := 0) ((((eA_c (hF281.2.1 233 (by decide))).trans (eA_c gA_sI)).trans hv286))
              obtain ⟨v288, hv288⟩ : ∃ v, eA g0 233 4 = v := ⟨_, rfl⟩
              have wv288 := HI.t4 hI0
              rw [hv288] at wv288
              have tv288 := congrArg Int32.toInt hv288
              have x289 := HI.eqA hI280 (p := 233) (j := 4) ((((eA_c (hF281.2.1 233 (by decide))).trans (eA_c gA_sI)).trans hv288))
              obtain ⟨v290, hv290⟩ : ∃ v, eA g0 233 5 = v := ⟨_, rfl⟩
              have wv290 := HI.t5 hI0
              rw [hv290] at wv290
              have tv290 := congrArg Int32.toInt hv290
              have x291 := HI.eqA hI280 (p := 233) (j := 5) ((((eA_c (hF281.2.1 233 (by decide))).trans (eA_c gA_sI)).trans hv290))
              obtain ⟨v292, hv292⟩ : ∃ v, eA g0 233 6 = v := ⟨_, rfl⟩
              have wv292 := HI.t6 hI0
              rw [hv292] at wv292
              have tv292 := congrArg Int32.toInt hv292
              have x293 := HI.eqA hI280 (p := 233) (j := 6) ((((eA_c (hF281.2.1 233 (by decide))).trans (eA_c gA_sI)).trans hv292))
              have x294 := HI.eqA hI0 (p := 233) (j := 0) (hv286)
              have x295 := HI.eqA hI0 (p := 233) (j := 4) (hv288)
              have x296 := HI.eqA hI0 (p := 233) (j := 5) (hv290)
              have x297 := HI.eqA hI0 (p := 233) (j := 6) (hv292)
              exact ⟨_, rfl, hI280, hF284, _, rfl, by omega, ⟨by omega, by omega, by omega, by omega⟩⟩
            · have c278_ : v257.toInt ≤ 99 := en_j_gt_f c278
              refine At.enter rfl ?_
              refine r_iconst 1 rfl ?_
              refine r_goto ?_
              refine At.enter rfl ?_
              refine q_iretz (by decide) ?_
              refine At.enter rfl ?_
              refine q_iretz (by decide) ?_
              refine At.enter rfl ?_
              refine r_ift (by decide) ?_
              refine At.enter rfl ?_
              refine r_aload_n rfl ?_
              refine q_getR (Sh.ref hI173.1 kx_231 rfl) ?_
              refine r_iconst 0 rfl ?_
              obtain ⟨v298, hv298⟩ : ∃ v, eA g0 233 0 = v := ⟨_, rfl⟩
              have tv298 := congrArg Int32.toInt hv298
              have wv298 := HI.t0 hI0
              rw [hv298] at wv298
              refine q_iald (Sh.arr hI173.1 ka_233) 0 rfl (by decide) v298 ((eA_c (gA_sI)).trans hv298) ?_
              refine r_istore ([(4, .int v298), (0, .ref 231), (1, .int a1), (2, .int a2), (3, .int a3)]) rfl ?_
              refine r_iload rfl ?_
              refine r_bipush 12 rfl ?_
              refine r_ics 50 rfl (fun c299 => ?_) (fun c299 => ?_)
              · have c299_ : v298.toInt ≠ 12 := en_i_ne_t c299
                refine At.enter rfl ?_
                refine r_aload_n rfl ?_
                refine q_getR (Sh.ref hI173.1 kx_231 rfl) ?_
                refine r_bipush 10 rfl ?_
                refine r_iconst 3 rfl ?_
                refine r_iload rfl ?_
                refine q_imul (3 * v298.toInt) rfl (by omega) (fun v300 hv300 => ?_)
                refine q_iadd (10 + v300.toInt) rfl (by omega) (fun v301 hv301 => ?_)
                refine r_iload_n rfl ?_
                refine q_iast (Sh.arr hI173.1 ka_233) ((3 * v298.toInt + 10)) (by omega) (by omega) ?_
                have hI302 := HI.ws hI173 (j := (3 * v298.toInt + 10)) (v := a1) (v298.toInt) 0 (by omega) (by decide) (by omega) (by omega)
                have hF303 := Fr.wA (p := 233) (j := (3 * v298.toInt + 10)) (v := a1) hF174 rfl
                refine r_aload_n rfl ?_
                refine q_getR (Sh.ref hI302.1 kx_231 rfl) ?_
                refine r_bipush 10 rfl ?_
                refine r_iconst 3 rfl ?_
                refine r_iload rfl ?_
                refine q_imul (3 * v298.toInt) rfl (by omega) (fun v304 hv304 => ?_)
                refine q_iadd (10 + v304.toInt) rfl (by omega) (fun v305 hv305 => ?_)
                refine r_iconst 1 rfl ?_
                refine q_iadd (v305.toInt + 1) rfl (by omega) (fun v306 hv306 => ?_)
                refine r_iload_n rfl ?_
                refine q_iast (Sh.arr hI302.1 ka_233) ((3 * v298.toInt + 11)) (by omega) (by omega) ?_
                have hI307 := HI.ws hI302 (j := (3 * v298.toInt + 11)) (v := a2) (v298.toInt) 1 (by omega) (by decide) (by omega) (by omega)
                have hF308 := Fr.wA (p := 233) (j := (3 * v298.toInt + 11)) (v := a2) hF303 rfl
                refine r_aload_n rfl ?_
                refine q_getR (Sh.ref hI307.1 kx_231 rfl) ?_
                refine r_bipush 10 rfl ?_
                refine r_iconst 3 rfl ?_
                refine r_iload rfl ?_
                refine q_imul (3 * v298.toInt) rfl (by omega) (fun v309 hv309 => ?_)
                refine q_iadd (10 + v309.toInt) rfl (by omega) (fun v310 hv310 => ?_)
                refine r_iconst 2 rfl ?_
                refine q_iadd (v310.toInt + 2) rfl (by omega) (fun v311 hv311 => ?_)
                refine r_iload_n rfl ?_
                refine q_iast (Sh.arr hI307.1 ka_233) ((3 * v298.toInt + 12)) (by omega) (by omega) ?_
                have hI312 := HI.ws hI307 (j := (3 * v298.toInt + 12)) (v := a3) (v298.toInt) 2 (by omega) (by decide) (by omega) (by omega)
                have hF313 := Fr.wA (p := 233) (j := (3 * v298.toInt + 12)) (v := a3) hF308 rfl
                refine r_aload_n rfl ?_
                refine q_getR (Sh.ref hI312.1 kx_231 rfl) ?_
                refine r_iconst 0 rfl ?_
                refine r_dup2 ⟨rfl, rfl⟩ ?_
                refine q_iald (Sh.arr hI312.1 ka_233) 0 rfl (by decide) v298 (((eA_sA_ne hI307.1 ka_233 (by first | decide | omega) (by first | decide | omega) (by first | decide | omega)).trans ((eA_sA_ne hI302.1 ka_233 (by first | decide | omega) (by first | decide | omega) (by first | decide | omega)).trans ((eA_sA_ne hI173.1 ka_233 (by first | decide | omega) (by first | decide | omega) (by first | decide | omega)).trans (eA_c gA_sI)))).trans hv298) ?_
                refine r_iconst 1 rfl ?_
                refine q_iadd (v298.toInt + 1) rfl (by omega) (fun v314 hv314 => ?_)
                refine q_iast (Sh.arr hI312.1 ka_233) (0) rfl (by decide) ?_
                have x317 := HI.eqA hI312 (p := 233) (j := 0) ((((eA_sA_ne hI307.1 ka_233 (by first | decide | omega) (by first | decide | omega) (by first | decide | omega)).trans ((eA_sA_ne hI302.1 ka_233 (by first | decide | omega) (by first | decide | omega) (by first | decide | omega)).trans ((eA_sA_ne hI173.1 ka_233 (by first | decide | omega) (by first | decide | omega) (by first | decide | omega)).trans (eA_c gA_sI)))).trans hv298))
                have hI315 := HI.wt0 hI312 (v := v314) (by rw [(((eA_sA_ne hI307.1 ka_233 (by first | decide | omega) (by first | decide | omega) (by first | decide | omega)).trans ((eA_sA_ne hI302.1 ka_233 (by first | decide | omega) (by first | decide | omega) (by first | decide | omega)).trans ((eA_sA_ne hI173.1 ka_233 (by first | decide | omega) (by first | decide | omega) (by first | decide | omega)).trans (eA_c gA_sI)))).trans hv298)]; omega) (by omega) (i := (3 * v298.toInt + 11)) (by rw [(((eA_sA_ne hI307.1 ka_233 (by first | decide | omega) (by first | decide | omega) (by first | decide | omega)).trans ((eA_sA_ne hI302.1 ka_233 (by first | decide | omega) (by first | decide | omega) (by first | decide | omega)).trans ((eA_sA_ne hI173.1 ka_233 (by first | decide | omega) (by first | decide | omega) (by first | decide | omega)).trans (eA_c gA_sI)))).trans hv298)]; omega) (by rw [((eA_sA_ne hI307.1 ka_233 (by first | decide | omega) (by first | decide | omega) (by first | decide | omega)).trans (eA_sA_eq hI302.1 ka_233 (by first | rfl | omega) (by first | decide | omega) (by first | decide | omega)))]; omega)
                have hF316 := Fr.wA (p := 233) (j := 0) (v := v314) hF313 rfl
                refine r_aload_n rfl ?_
                refine r_iload rfl ?_
                refine r_callV 116 rfl [.ref 231, .int v298] [] (Nat.le_of_ble_eq_true rfl) rfl (T_X11_tell_231 _ hI315 v298 (by omega)) ?_
                rintro _ _ ⟨g318, rfl, hI319, hF320, v321, rfl, hr322⟩
                refine At.sti ?_
                have hF323 := Fr.tr hF316 hF320 rfl rfl
                refine At.enter rfl ?_
                refine r_ireti ?_
                have x324 := HI.eqA hI319 (p := 233) (j := 0) (((eA_c (hF320.2.1 233 (by decide))).trans (eA_sA_eq hI312.1 ka_233 (by first | rfl | omega) (by first | decide | omega) (by first | decide | omega))))
                obtain ⟨v325, hv325⟩ : ∃ v, eA g0 233 4 = v := ⟨_, rfl⟩
                have wv325 := HI.t4 hI0
                rw [hv325] at wv325
                have tv325 := congrArg Int32.toInt hv325
                have x326 := HI.eqA hI319 (p := 233) (j := 4) ((((eA_c (hF320.2.1 233 (by decide))).trans ((eA_sA_ne hI312.1 ka_233 (by first | decide | omega) (by first | decide | omega) (by first | decide | omega)).trans ((eA_sA_ne hI307.1 ka_233 (by first | decide | omega) (by first | decide | omega) (by first | decide | omega)).trans ((eA_sA_ne hI302.1 ka_233 (by first | decide | omega) (by first | decide | omega) (by first | decide | omega)).trans ((eA_sA_ne hI173.1 ka_233 (by first | decide | omega) (by first | decide | omega) (by first | decide | omega)).trans (eA_c gA_sI)))))).trans hv325))
                obtain ⟨v327, hv327⟩ : ∃ v, eA g0 233 5 = v := ⟨_, rfl⟩
                have wv327 := HI.t5 hI0
                rw [hv327] at wv327
                have tv327 := congrArg Int32.toInt hv327
                have x328 := HI.eqA hI319 (p := 233) (j := 5) ((((eA_c (hF320.2.1 233 (by decide))).trans ((eA_sA_ne hI312.1 ka_233 (by first | decide | omega) (by first | decide | omega) (by first | decide | omega)).trans ((eA_sA_ne hI307.1 ka_233 (by first | decide | omega) (by first | decide | omega) (by first | decide | omega)).trans ((eA_sA_ne hI302.1 ka_233 (by first | decide | omega) (by first | decide | omega) (by first | decide | omega)).trans ((eA_sA_ne hI173.1 ka_233 (by first | decide | omega) (by first | decide | omega) (by first | decide | omega)).trans (eA_c gA_sI)))))).trans hv327))
                obtain ⟨v329, hv329⟩ : ∃ v, eA g0 233 6 = v := ⟨_, rfl⟩
                have wv329 := HI.t6 hI0
                rw [hv329] at wv329
                have tv329 := congrArg Int32.toInt hv329
                have x330 := HI.eqA hI319 (p := 233) (j := 6) ((((eA_c (hF320.2.1 233 (by decide))).trans ((eA_sA_ne hI312.1 ka_233 (by first | decide | omega) (by first | decide | omega) (by first | decide | omega)).trans ((eA_sA_ne hI307.1 ka_233 (by first | decide | omega) (by first | decide | omega) (by first | decide | omega)).trans ((eA_sA_ne hI302.1 ka_233 (by first | decide | omega) (by first | decide | omega) (by first | decide | omega)).trans ((eA_sA_ne hI173.1 ka_233 (by first | decide | omega) (by first | decide | omega) (by first | decide | omega)).trans (eA_c gA_sI)))))).trans hv329))
                have x331 := HI.eqA hI0 (p := 233) (j := 0) (hv298)
                have x332 := HI.eqA hI0 (p := 233) (j := 4) (hv325)
                have x333 := HI.eqA hI0 (p := 233) (j := 5) (hv327)
                have x334 := HI.eqA hI0 (p := 233) (j := 6) (hv329)
                exact ⟨_, rfl, hI319, hF323, _, rfl, by omega, ⟨by omega, by omega, by omega, by omega⟩⟩
              · have c299_ : v298.toInt = 12 := en_i_ne_f c299
                refine At.enter rfl ?_
                refine r_aload_n rfl ?_
                refine r_bipush (-5) rfl ?_
                refine r_callV 56 rfl [.ref 231, .int (-5)] [] (Nat.le_of_ble_eq_true rfl) rfl (T_X11_tell_231 _ hI173 (-5) (by decide)) ?_
                rintro _ _ ⟨g335, rfl, hI336, hF337, v338, rfl, hr339⟩
                refine At.sti ?_
                have hF340 := Fr.tr hF174 hF337 rfl rfl
                have zv341 : ((-5) : Int32).toInt = (-5) := rfl
                refine At.enter rfl ?_
                refine r_ireti ?_
                have x342 := HI.eqA hI336 (p := 233) (j := 0) ((((eA_c (hF337.2.1 233 (by decide))).trans (eA_c gA_sI)).trans hv298))
                obtain ⟨v343, hv343⟩ : ∃ v, eA g0 233 4 = v := ⟨_, rfl⟩
                have wv343 := HI.t4 hI0
                rw [hv343] at wv343
                have tv343 := congrArg Int32.toInt hv343
                have x344 := HI.eqA hI336 (p := 233) (j := 4) ((((eA_c (hF337.2.1 233 (by decide))).trans (eA_c gA_sI)).trans hv343))
                obtain ⟨v345, hv345⟩ : ∃ v, eA g0 233 5 = v := ⟨_, rfl⟩
                have wv345 := HI.t5 hI0
                rw [hv345] at wv345
                have tv345 := congrArg Int32.toInt hv345
                have x346 := HI.eqA hI336 (p := 233) (j := 5) ((((eA_c (hF337.2.1 233 (by decide))).trans (eA_c gA_sI)).trans hv345))
                obtain ⟨v347, hv347⟩ : ∃ v, eA g0 233 6 = v := ⟨_, rfl⟩
                have wv347 := HI.t6 hI0
                rw [hv347] at wv347
                have tv347 := congrArg Int32.toInt hv347
                have x348 := HI.eqA hI336 (p := 233) (j := 6) ((((eA_c (hF337.2.1 233 (by decide))).trans (eA_c gA_sI)).trans hv347))
                have x349 := HI.eqA hI0 (p := 233) (j := 0) (hv298)
                have x350 := HI.eqA hI0 (p := 233) (j := 4) (hv343)
                have x351 := HI.eqA hI0 (p := 233) (j := 5) (hv345)
                have x352 := HI.eqA hI0 (p := 233) (j := 6) (hv347)
                exact ⟨_, rfl, hI336, hF340, _, rfl, by omega, ⟨by omega, by omega, by omega, by omega⟩⟩

def F_X11_put_231 : List (Nat × Nat) := [(231, 0), (231, 1)]
def A_X11_put_231 : List Nat := [232, 233]
set_option maxRecDepth 100000 in
set_option maxHeartbeats 4000000 in
theorem T_X11_put_231 (d : Nat) {N : Nat} {g0 : List en_E} (hI0 : HI g0) (a1 : Int32) (a2 : Int32) (a3 : Int32) : Ev (d + 3) 173 [.ref 231, .int a1, .int a2, .int a3] (g0, N) (fun w h' => ∃ g', h' = (g', N) ∧ HI g' ∧ Fr F_X11_put_231 A_X11_put_231 g0 g' ∧ ∃ r : Int32, w = some (.int r) ∧ ((-2) ≤ r.toInt ∧ r.toInt ≤ 99) ∧ ((eA g' 233 0).toInt = (eA g0 233 0).toInt ∧ (eA g' 233 4).toInt = (eA g0 233 4).toInt ∧ (eA g' 233 5).toInt = (eA g0 233 5).toInt ∧ (eA g' 233 6).toInt = (eA g0 233 6).toInt)) := by
  have hF0 : Fr F_X11_put_231 A_X11_put_231 g0 g0 := Fr.rf
  refine Ev.mk rfl rfl ⟨Nat.le_of_ble_eq_true rfl, Or.inr (q_rc hI0.1 kx_231 rfl)⟩ ?_
  show At _ none _ _ (0, [(0, .ref 231), (1, .int a1), (2, .int a2), (3, .int a3)], [], (_, _)) _
  refine At.enter rfl ?_
  refine r_aload_n rfl ?_
  refine r_iconst 0 rfl ?_
  refine q_putI (Sh.int hI0.1 kx_231 rfl) rfl ?_
  have hI293 := HI.wI0 hI0 kx_231 rfl (p := 231) (b := 0) (v := 0) rfl
  have hF294 := Fr.wI (p := 231) (b := 0) (v := 0) hF0 rfl
  refine r_iload_n rfl ?_
  refine r_iload_n rfl ?_
  refine q_inlS 10 rfl [.int a2, .int a3] [] (Nat.le_of_ble_eq_true rfl) rfl ?_
  refine Ev.mk rfl rfl ⟨Nat.le_of_ble_eq_true rfl, Or.inl rfl⟩ ?_
  show At _ none _ _ (0, [(0, .int a2), (1, .int a3)], [], (_, _)) _
  refine At.enter rfl ?_
  refine r_iload_n rfl ?_
  by_cases c295_0 : a2.toInt = 0
  · refine r_tsw 28 (by rw [c295_0]; rfl) ?_
    refine At.enter rfl ?_
    refine r_iload_n rfl ?_
    refine q_i2l (fun v296 hv296 => ?_)
    refine r_ldc2 (-1) rfl ?_
    refine r_ldc2 11 rfl ?_
    refine q_inlS 39 rfl [.long v296, .long (-1), .long 11] [] (Nat.le_of_ble_eq_true rfl) rfl ?_
    refine Ev.mk rfl rfl ⟨Nat.le_of_ble_eq_true rfl, Or.inl rfl⟩ ?_
    show At _ none _ _ (0, [(0, .long v296), (2, .long (-1)), (4, .long 11)], [], (_, _)) _
    refine At.enter rfl ?_
    refine r_lload_n rfl ?_
    refine r_lload_n rfl ?_
    refine r_lcmp _ rfl ?_
    refine r_ifs 6 rfl (fun c297 => ?_) (fun c297 => ?_)
    · have c297_ : v296.toInt < (-1) := en_j_lt_t c297
      refine At.enter rfl ?_
      refine r_iconst 0 rfl ?_
      refine Ar.fall 18 rfl ?_
      refine At.enter rfl ?_
      refine q_iretz (by decide) ?_
      refine At.enter rfl ?_
      refine q_iretz (by decide) ?_
      refine At.enter rfl ?_
      refine r_iff 13 rfl (by decide) ?_
      refine At.enter rfl ?_
      refine r_aload_n rfl ?_
      refine r_iconst (-1) rfl ?_
      refine r_callV 18 rfl [.ref 231, .int (-1)] [] (Nat.le_of_ble_eq_true rfl) rfl (T_X11_tell_231 _ hI293 (-1) (by decide)) ?_
      rintro _ _ ⟨g298, rfl, hI299, hF300, v301, rfl, hr302⟩
      refine At.sti ?_
      have hF303 := Fr.tr hF294 hF300 rfl rfl
      have zv304 : ((-1) : Int32).toInt = (-1) := rfl
      refine At.enter rfl ?_
      refine r_ireti ?_
      obtain ⟨v305, hv305⟩ : ∃ v, eA g0 233 0 = v := ⟨_, rfl⟩
      have tv305 := congrArg Int32.toInt hv305
      have wv305 := HI.t0 hI0
      rw [hv305] at wv305
      have tv305 := congrArg Int32.toInt hv305
      have x306 := HI.eqA hI299 (p := 233) (j := 0) ((((eA_c (hF300.2.1 233 (by decide))).trans (eA_c gA_sI)).trans hv305))
      obtain ⟨v307, hv307⟩ : ∃ v, eA g0 233 4 = v := ⟨_, rfl⟩
      have wv307 := HI.t4 hI0
      rw [hv307] at wv307
      have tv307 := congrArg Int32.toInt hv307
      have x308 := HI.eqA hI299 (p := 233) (j := 4) ((((eA_c (hF300.2.1 233 (by decide))).trans (eA_c gA_sI)).trans hv307))
      obtain ⟨v309, hv309⟩ : ∃ v, eA g0 233 5 = v := ⟨_, rfl⟩
      have wv309 := HI.t5 hI0
      rw [hv309] at wv309
      have tv309 := congrArg Int32.toInt hv309
      have x310 := HI.eqA hI299 (p := 233) (j := 5) ((((eA_c (hF300.2.1 233 (by decide))).trans (eA_c gA_sI)).trans hv309))
      obtain ⟨v311, hv311⟩ : ∃ v, eA g0 233 6 = v := ⟨_, rfl⟩
      have wv311 := HI.t6 hI0
      rw [hv311] at wv311
      have tv311 := congrArg Int32.toInt hv311
      have x312 := HI.eqA hI299 (p := 233) (j := 6) ((((eA_c (hF300.2.1 233 (by decide))).trans (eA_c gA_sI)).trans hv311))
      have x313 := HI.eqA hI0 (p := 233) (j := 0) (hv305)
      have x314 := HI.eqA hI0 (p := 233) (j := 4) (hv307)
      have x315 := HI.eqA hI0 (p := 233) (j := 5) (hv309)
      have x316 := HI.eqA hI0 (p := 233) (j := 6) (hv311)
      exact ⟨_, rfl, hI299, hF303, _, rfl, by omega, ⟨by omega, by omega, by omega, by omega⟩⟩
    · have c297_ : v296.toInt ≥ (-1) := en_j_lt_f c297
      refine At.enter rfl ?_
      refine r_lload_n rfl ?_
      refine r_lload rfl ?_
      refine r_lcmp _ rfl ?_
      refine r_ifs 13 rfl (fun c317 => ?_) (fun c317 => ?_)
      · have c317_ : v296.toInt > 11 := en_j_gt_t c317
        refine At.enter rfl ?_
        refine r_iconst 0 rfl ?_
        refine Ar.fall 18 rfl ?_
        refine At.enter rfl ?_
        refine q_iretz (by decide) ?_
        refine At.enter rfl ?_
        refine q_iretz (by decide) ?_
        refine At.enter rfl ?_
        refine r_iff 13 rfl (by decide) ?_
        refine At.enter rfl ?_
        refine r_aload_n rfl ?_
        refine r_iconst (-1) rfl ?_
        refine r_callV 18 rfl [.ref 231, .int (-1)] [] (Nat.le_of_ble_eq_true rfl) rfl (T_X11_tell_231 _ hI293 (-1) (by decide)) ?_
        rintro _ _ ⟨g318, rfl, hI319, hF320, v321, rfl, hr322⟩
        refine At.sti ?_
        have hF323 := Fr.tr hF294 hF320 rfl rfl
        have zv324 : ((-1) : Int32).toInt = (-1) := rfl
        refine At.enter rfl ?_
        refine r_ireti ?_
        obtain ⟨v325, hv325⟩ : ∃ v, eA g0 233 0 = v := ⟨_, rfl⟩
        have tv325 := congrArg Int32.toInt hv325
        have wv325 := HI.t0 hI0
        rw [hv325] at wv325
        have tv325 := congrArg Int32.toInt hv325
        have x326 := HI.eqA hI319 (p := 233) (j := 0) ((((eA_c (hF320.2.1 233 (by decide))).trans (eA_c gA_sI)).trans hv325))
        obtain ⟨v327, hv327⟩ : ∃ v, eA g0 233 4 = v := ⟨_, rfl⟩
        have wv327 := HI.t4 hI0
        rw [hv327] at wv327
        have tv327 := congrArg Int32.toInt hv327
        have x328 := HI.eqA hI319 (p := 233) (j := 4) ((((eA_c (hF320.2.1 233 (by decide))).trans (eA_c gA_sI)).trans hv327))
        obtain ⟨v329, hv329⟩ : ∃ v, eA g0 233 5 = v := ⟨_, rfl⟩
        have wv329 := HI.t5 hI0
        rw [hv329] at wv329
        have tv329 := congrArg Int32.toInt hv329
        have x330 := HI.eqA hI319 (p := 233) (j := 5) ((((eA_c (hF320.2.1 233 (by decide))).trans (eA_c gA_sI)).trans hv329))
        obtain ⟨v331, hv331⟩ : ∃ v, eA g0 233 6 = v := ⟨_, rfl⟩
        have wv331 := HI.t6 hI0
        rw [hv331] at wv331
        have tv331 := congrArg Int32.toInt hv331
        have x332 := HI.eqA hI319 (p := 233) (j := 6) ((((eA_c (hF320.2.1 233 (by decide))).trans (eA_c gA_sI)).trans hv331))
        have x333 := HI.eqA hI0 (p := 233) (j := 0) (hv325)
        have x334 := HI.eqA hI0 (p := 233) (j := 4) (hv327)
        have x335 := HI.eqA hI0 (p := 233) (j := 5) (hv329)
        have x336 := HI.eqA hI0 (p := 233) (j := 6) (hv331)
        exact ⟨_, rfl, hI319, hF323, _, rfl, by omega, ⟨by omega, by omega, by omega, by omega⟩⟩
      · have c317_ : v296.toInt ≤ 11 := en_j_gt_f c317
        refine At.enter rfl ?_
        refine r_iconst 1 rfl ?_
        refine r_goto ?_
        refine At.enter rfl ?_
        refine q_iretz (by decide) ?_
        refine At.enter rfl ?_
        refine q_iretz (by decide) ?_
        refine At.enter rfl ?_
        refine r_ift (by decide) ?_
        refine At.enter rfl ?_
        refine r_aload_n rfl ?_
        refine r_iload_n rfl ?_
        refine q_inlV 24 rfl [.ref 231, .int a1] [] (Nat.le_of_ble_eq_true rfl) rfl ?_
        refine Ev.mk rfl rfl ⟨Nat.le_of_ble_eq_true rfl, Or.inr (q_rc hI293.1 kx_231 rfl)⟩ ?_
        show At _ none _ _ (0, [(0, .ref 231), (1, .int a1)], [], (_, _)) _
        refine At.enter rfl ?_
        refine r_iload_n rfl ?_
        refine q_i2l (fun v337 hv337 => ?_)
        refine r_lconst 0 rfl ?_
        refine r_aload_n rfl ?_
        refine q_getR (Sh.ref hI293.1 kx_231 rfl) ?_
        refine r_iconst 0 rfl ?_
        obtain ⟨v338, hv338⟩ : ∃ v, eA g0 233 0 = v := ⟨_, rfl⟩
        have tv338 := congrArg Int32.toInt hv338
        have wv338 := HI.t0 hI0
        rw [hv338] at wv338
        refine q_iald (Sh.arr hI293.1 ka_233) 0 rfl (by decide) v338 ((eA_c (gA_sI)).trans hv338) ?_
        refine q_i2l (fun v339 hv339 => ?_)
        refine r_lconst 1 rfl ?_
        refine q_lsub (v339.toInt - 1) rfl (by omega) (fun v340 hv340 => ?_)
        refine q_inlS 15 rfl [.long v337, .long 0, .long v340] [] (Nat.le_of_ble_eq_true rfl) rfl ?_
        refine Ev.mk rfl rfl ⟨Nat.le_of_ble_eq_true rfl, Or.inl rfl⟩ ?_
        show At _ none _ _ (0, [(0, .long v337), (2, .long 0), (4, .long v340)], [], (_, _)) _
        refine At.enter rfl ?_
        refine r_lload_n rfl ?_
        refine r_lload_n rfl ?_
        refine r_lcmp _ rfl ?_
        refine r_ifs 6 rfl (fun c341 => ?_) (fun c341 => ?_)
        · have c341_ : v337.toInt < 0 := en_j_lt_t c341
          refine At.enter rfl ?_
          refine r_iconst 0 rfl ?_
          refine Ar.fall 18 rfl ?_
          refine At.enter rfl ?_
          refine q_iretz (by decide) ?_
          refine At.enter rfl ?_
          refine q_iretz (by decide) ?_
          refine At.enter rfl ?_
          refine r_ift (by decide) ?_
          refine At.enter rfl ?_
          refine r_aload_n rfl ?_
          refine r_bipush (-2) rfl ?_
          refine r_callV 49 rfl [.ref 231, .int (-2)] [] (Nat.le_of_ble_eq_true rfl) rfl (T_X11_tell_231 _ hI293 (-2) (by decide)) ?_
          rintro _ _ ⟨g342, rfl, hI343, hF344, v345, rfl, hr346⟩
          refine At.sti ?_
          have hF347 := Fr.tr hF294 hF344 rfl rfl
          have zv348 : ((-2) : Int32).toInt = (-2) := rfl
          refine At.enter rfl ?_
          refine r_ireti ?_
          have x349 := HI.eqA hI343 (p := 233) (j := 0) ((((eA_c (hF344.2.1 233 (by decide))).trans (eA_c gA_sI)).trans hv338))
          obtain ⟨v350, hv350⟩ : ∃ v, eA g0 233 4 = v := ⟨_, rfl⟩
          have wv350 := HI.t4 hI0
          rw [hv350] at wv350
          have tv350 := congrArg Int32.toInt hv350
          have x351 := HI.eqA hI343 (p := 233) (j := 4) ((((eA_c (hF344.2.1 233 (by decide))).trans (eA_c gA_sI)).trans hv350))
          obtain ⟨v352, hv352⟩ : ∃ v, eA g0 233 5 = v := ⟨_, rfl⟩
          have wv352 := HI.t5 hI0
          rw [hv352] at wv352
          have tv352 := congrArg Int32.toInt hv352
          have x353 := HI.eqA hI343 (p := 233) (j := 5) ((((eA_c (hF344.2.1 233 (by decide))).trans (eA_c gA_sI)).trans hv352))
          obtain ⟨v354, hv354⟩ : ∃ v, eA g0 233 6 = v := ⟨_, rfl⟩
          have wv354 := HI.t6 hI0
          rw [hv354] at wv354
          have tv354 := congrArg Int32.toInt hv354
          have x355 := HI.eqA hI343 (p := 233) (j := 6) ((((eA_c (hF344.2.1 233 (by decide))).trans (eA_c gA_sI)).trans hv354))
          have x356 := HI.eqA hI0 (p := 233) (j := 0) (hv338)
          have x357 := HI.eqA hI0 (p := 233) (j := 4) (hv350)
          have x358 := HI.eqA hI0 (p := 233) (j := 5) (hv352)
          have x359 := HI.eqA hI0 (p := 233) (j := 6) (hv354)
          exact ⟨_, rfl, hI343, hF347, _, rfl, by omega, ⟨by omega, by omega, by omega, by omega⟩⟩
        · have c341_ : v337.toInt ≥ 0 := en_j_lt_f c341
          refine At.enter rfl ?_
          refine r_lload_n rfl ?_
          refine r_lload rfl ?_
          refine r_lcmp _ rfl ?_
          refine r_ifs 13 rfl (fun c360 => ?_) (fun c360 => ?_)
          · have c360_ : v337.toInt > v340.toInt := en_j_gt_t c360
            refine At.enter rfl ?_
            refine r_iconst 0 rfl ?_
            refine Ar.fall 18 rfl ?_
            refine At.enter rfl ?_
            refine q_iretz (by decide) ?_
            refine At.enter rfl ?_
            refine q_iretz (by decide) ?_
            refine At.enter rfl ?_
            refine r_ift (by decide) ?_
            refine At.enter rfl ?_
            refine r_aload_n rfl ?_
            refine r_bipush (-2) rfl ?_
            refine r_callV 49 rfl [.ref 231, .int (-2)] [] (Nat.le_of_ble_eq_true rfl) rfl (T_X11_tell_231 _ hI293 (-2) (by decide)) ?_
            rintro _ _ ⟨g361, rfl, hI362, hF363, v364, rfl, hr365⟩
            refine At.sti ?_
            have hF366 := Fr.tr hF294 hF363 rfl rfl
            have zv367 : ((-2) : Int32).toInt = (-2) := rfl
            refine At.enter rfl ?_
            refine r_ireti ?_
            have x368 := HI.eqA hI362 (p := 233) (j := 0) ((((eA_c (hF363.2.1 233 (by decide))).trans (eA_c gA_sI)).trans hv338))
            obtain ⟨v369, hv369⟩ : ∃ v, eA g0 233 4 = v := ⟨_, rfl⟩
            have wv369 := HI.t4 hI0
            rw [hv369] at wv369
            have tv369 := congrArg Int32.toInt hv369
            have x370 := HI.eqA hI362 (p := 233) (j := 4) ((((eA_c (hF363.2.1 233 (by decide))).trans (eA_c gA_sI)).trans hv369))
            obtain ⟨v371, hv371⟩ : ∃ v, eA g0 233 5 = v := ⟨_, rfl⟩
            have wv371 := HI.t5 hI0
            rw [hv371] at wv371
            have tv371 := congrArg Int32.toInt hv371
            have x372 := HI.eqA hI362 (p := 233) (j := 5) ((((eA_c (hF363.2.1 233 (by decide))).trans (eA_c gA_sI)).trans hv371))
            obtain ⟨v373, hv373⟩ : ∃ v, eA g0 233 6 = v := ⟨_, rfl⟩
            have wv373 := HI.t6 hI0
            rw [hv373] at wv373
            have tv373 := congrArg Int32.toInt hv373
            have x374 := HI.eqA hI362 (p := 233) (j := 6) ((((eA_c (hF363.2.1 233 (by decide))).trans (eA_c gA_sI)).trans hv373))
            have x375 := HI.eqA hI0 (p := 233) (j := 0) (hv338)
            have x376 := HI.eqA hI0 (p := 233) (j := 4) (hv369)
            have x377 := HI.eqA hI0 (p := 233) (j := 5) (hv371)
            have x378 := HI.eqA hI0 (p := 233) (j := 6) (hv373)
            exact ⟨_, rfl, hI362, hF366, _, rfl, by omega, ⟨by omega, by omega, by omega, by omega⟩⟩
          · have c360_ : v337.toInt ≤ v340.toInt := en_j_gt_f c360
            refine At.enter rfl ?_
            refine r_iconst 1 rfl ?_
            refine r_goto ?_
            refine At.enter rfl ?_
            refine q_iretz (by decide) ?_
            refine At.enter rfl ?_
            refine q_iretz (by decide) ?_
            refine At.enter rfl ?_
            refine r_iff 27 rfl (by decide) ?_
            refine At.enter rfl ?_
            refine r_aload_n rfl ?_
            refine r_bipush 10 rfl ?_
            refine r_iconst 3 rfl ?_
            refine r_iload_n rfl ?_
            refine q_imul (3 * a1.toInt) rfl (by omega) (fun v379 hv379 => ?_)
            refine q_iadd (10 + v379.toInt) rfl (by omega) (fun v380 hv380 => ?_)
            refine r_iload_n rfl ?_
            refine q_iadd (v380.toInt + a2.toInt) rfl (by omega) (fun v381 hv381 => ?_)
            refine r_iload_n rfl ?_
            refine q_inlV 40 rfl [.ref 231, .int v381, .int a3] [] (Nat.le_of_ble_eq_true rfl) rfl ?_
            refine Ev.mk rfl rfl ⟨Nat.le_of_ble_eq_true rfl, Or.inr (q_rc hI293.1 kx_231 rfl)⟩ ?_
            show At _ none _ _ (0, [(0, .ref 231), (1, .int v381), (2, .int a3)], [], (_, _)) _
            refine At.enter rfl ?_
            refine r_aload_n rfl ?_
            refine q_getR (Sh.ref hI293.1 kx_231 rfl) ?_
            refine r_iload_n rfl ?_
            obtain ⟨v382, hv382⟩ : ∃ v, eA g0 233 (3 * a1.toInt + a2.toInt + 10) = v := ⟨_, rfl⟩
            have wv382 := HI.s0 hI0 (j := (3 * a1.toInt + a2.toInt + 10)) (a1.toInt) (by omega) (by omega)
            rw [hv382] at wv382
            refine q_iald (Sh.arr hI293.1 ka_233) (3 * a1.toInt + a2.toInt + 10) (by omega) (by omega) v382 ((eA_c (gA_sI)).trans hv382) ?_
            refine r_istore_n ([(3, .int v382), (0, .ref 231), (1, .int v381), (2, .int a3)]) rfl ?_
            refine r_aload_n rfl ?_
            refine q_getR (Sh.ref hI293.1 kx_231 rfl) ?_
            refine r_iload_n rfl ?_
            refine r_iload_n rfl ?_
            refine q_iast (Sh.arr hI293.1 ka_233) ((3 * a1.toInt + a2.toInt + 10)) (by omega) (by omega) ?_
            have hI383 := HI.ws hI293 (j := (3 * a1.toInt + a2.toInt + 10)) (v := a3) (a1.toInt) 0 (by omega) (by decide) (by omega) (by omega)
            have hF384 := Fr.wA (p := 233) (j := (3 * a1.toInt + a2.toInt + 10)) (v := a3) hF294 rfl
            refine r_aload_n rfl ?_
            refine r_iload_n rfl ?_
            refine q_inlV 19 rfl [.ref 231, .int v382] [] (Nat.le_of_ble_eq_true rfl) rfl ?_
            refine Ev.mk rfl rfl ⟨Nat.le_of_ble_eq_true rfl, Or.inr (q_rc hI383.1 kx_231 rfl)⟩ ?_
            show At _ none _ _ (0, [(0, .ref 231), (1, .int v382)], [], (_, _)) _
            refine At.enter rfl ?_
            refine r_aload_n rfl ?_
            refine r_iconst 0 rfl ?_
            refine q_putI (Sh.int hI383.1 kx_231 rfl) rfl ?_
            have hI385 := HI.wI0 hI383 kx_231 rfl (p := 231) (b := 1) (v := 0) rfl
            have hF386 := Fr.wI (p := 231) (b := 1) (v := 0) hF384 rfl
            refine r_iload_n rfl ?_
            refine q_ireti ?_
            refine At.enter rfl ?_
            refine q_ireti ?_
            refine At.enter rfl ?_
            refine r_goto ?_
            refine At.enter rfl ?_
            refine r_ireti ?_
            have x387 := HI.eqA hI385 (p := 233) (j := 0) ((((eA_c gA_sI).trans ((eA_sA_ne hI293.1 ka_233 (by first | decide | omega) (by first | decide | omega) (by first | decide | omega)).trans (eA_c gA_sI))).trans hv338))
            obtain ⟨v388, hv388⟩ : ∃ v, eA g0 233 4 = v := ⟨_, rfl⟩
            have wv388 := HI.t4 hI0
            rw [hv388] at wv388
            have tv388 := congrArg Int32.toInt hv388
            have x389 := HI.eqA hI385 (p := 233) (j := 4) ((((eA_c gA_sI).trans ((eA_sA_ne hI293.1 ka_233 (by first | decide | omega) (by first | decide | omega) (by first | decide | omega)).trans (eA_c gA_sI))).trans hv388))
            obtain ⟨v390, hv390⟩ : ∃ v, eA g0 233 5 = v := ⟨_, rfl⟩
            have wv390 := HI.t5 hI0
            rw [hv390] at wv390
            have tv390 := congrArg Int32.toInt hv390
            have x391 := HI.eqA hI385 (p := 233) (j := 5) ((((eA_c gA_sI).trans ((eA_sA_ne hI293.1 ka_233 (by first | decide | omega) (by first | decide | omega) (by first | decide | omega)).trans (eA_c gA_sI))).trans hv390))
            obtain ⟨v392, hv392⟩ : ∃ v, eA g0 233 6 = v := ⟨_, rfl⟩
            have wv392 := HI.t6 hI0
            rw [hv392] at wv392
            have tv392 := congrArg Int32.toInt hv392
            have x393 := HI.eqA hI385 (p := 233) (j := 6) ((((eA_c gA_sI).trans ((eA_sA_ne hI293.1 ka_233 (by first | decide | omega) (by first | decide | omega) (by first | decide | omega)).trans (eA_c gA_sI))).trans hv392))
            have x394 := HI.eqA hI0 (p := 233) (j := 0) (hv338)
            have x395 := HI.eqA hI0 (p := 233) (j := 4) (hv388)
            have x396 := HI.eqA hI0 (p := 233) (j := 5) (hv390)
            have x397 := HI.eqA hI0 (p := 233) (j := 6) (hv392)
            exact ⟨_, rfl, hI385, hF386, _, rfl, by omega, ⟨by omega, by omega, by omega, by omega⟩⟩
  by_cases c295_1 : a2.toInt = 1
  · refine r_tsw 40 (by rw [c295_1]; rfl) ?_
    refine At.enter rfl ?_
    refine r_iload_n rfl ?_
    refine q_i2l (fun v398 hv398 => ?_)
    refine r_lconst 1 rfl ?_
    refine r_ldc2 9 rfl ?_
    refine q_inlS 49 rfl [.long v398, .long 1, .long 9] [] (Nat.le_of_ble_eq_true rfl) rfl ?_
    refine Ev.mk rfl rfl ⟨Nat.le_of_ble_eq_true rfl, Or.inl rfl⟩ ?_
    show At _ none _ _ (0, [(0, .long v398), (2, .long 1), (4, .long 9)], [], (_, _)) _
    refine At.enter rfl ?_
    refine r_lload_n rfl ?_
    refine r_lload_n rfl ?_
    refine r_lcmp _ rfl ?_
    refine r_ifs 6 rfl (fun c399 => ?_) (fun c399 => ?_)
    · have c399_ : v398.toInt < 1 := en_j_lt_t c399
      refine At.enter rfl ?_
      refine r_iconst 0 rfl ?_
      refine Ar.fall 18 rfl ?_
      refine At.enter rfl ?_
      refine q_iretz (by decide) ?_
      refine At.enter rfl ?_
      refine q_iretz (by decide) ?_
      refine At.enter rfl ?_
      refine r_iff 13 rfl (by decide) ?_
      refine At.enter rfl ?_
      refine r_aload_n rfl ?_
      refine r_iconst (-1) rfl ?_
      refine r_callV 18 rfl [.ref 231, .int (-1)] [] (Nat.le_of_ble_eq_true rfl) rfl (T_X11_tell_231 _ hI293 (-1) (by decide)) ?_
      rintro _ _ ⟨g400, rfl, hI401, hF402, v403, rfl, hr404⟩
      refine At.sti ?_
      have hF405 := Fr.tr hF294 hF402 rfl rfl
      have zv406 : ((-1) : Int32).toInt = (-1) := rfl
      refine At.enter rfl ?_
      refine r_ireti ?_
      obtain ⟨v407, hv407⟩ : ∃ v, eA g0 233 0 = v := ⟨_, rfl⟩
      have tv407 := congrArg Int32.toInt hv407
      have wv407 := HI.t0 hI0
      rw [hv407] at wv407
      have tv407 := congrArg Int32.toInt hv407
      have x408 := HI.eqA hI401 (p := 233) (j := 0) ((((eA_c (hF402.2.1 233 (by decide))).trans (eA_c gA_sI)).trans hv407))
      obtain ⟨v409, hv409⟩ : ∃ v, eA g0 233 4 = v := ⟨_, rfl⟩
      have wv409 := HI.t4 hI0
      rw [hv409] at wv409
      have tv409 := congrArg Int32.toInt hv409
      have x410 := HI.eqA hI401 (p := 233) (j := 4) ((((eA_c (hF402.2.1 233 (by decide))).trans (eA_c gA_sI)).trans hv409))
      obtain ⟨v411, hv411⟩ : ∃ v, eA g0 233 5 = v := ⟨_, rfl⟩
      have wv411 := HI.t5 hI0
      rw [hv411] at wv411
      have tv411 := congrArg Int32.toInt hv411
      have x412 := HI.eqA hI401 (p := 233) (j := 5) ((((eA_c (hF402.2.1 233 (by decide))).trans (eA_c gA_sI)).trans hv411))
      obtain ⟨v413, hv413⟩ : ∃ v, eA g0 233 6 = v := ⟨_, rfl⟩
      have wv413 := HI.t6 hI0
      rw [hv413] at wv413
      have tv413 := congrArg Int32.toInt hv413
      have x414 := HI.eqA hI401 (p := 233) (j := 6) ((((eA_c (hF402.2.1 233 (by decide))).trans (eA_c gA_sI)).trans hv413))
      have x415 := HI.eqA hI0 (p := 233) (j := 0) (hv407)
      have x416 := HI.eqA hI0 (p := 233) (j := 4) (hv409)
      have x417 := HI.eqA hI0 (p := 233) (j := 5) (hv411)
      have x418 := HI.eqA hI0 (p := 233) (j := 6) (hv413)
      exact ⟨_, rfl, hI401, hF405, _, rfl, by omega, ⟨by omega, by omega, by omega, by omega⟩⟩
    · have c399_ : v398.toInt ≥ 1 := en_j_lt_f c399
      refine At.enter rfl ?_
      refine r_lload_n rfl ?_
      refine r_lload rfl ?_
      refine r_lcmp _ rfl ?_
      refine r_ifs 13 rfl (fun c419 => ?_) (fun c419 => ?_)
      · have c419_ : v398.toInt > 9 := en_j_gt_t c419
        refine At.enter rfl ?_
        refine r_iconst 0 rfl ?_
        refine Ar.fall 18 rfl ?_
        refine At.enter rfl ?_
        refine q_iretz (by decide) ?_
        refine At.enter rfl ?_
        refine q_iretz (by decide) ?_
        refine At.enter rfl ?_
        refine r_iff 13 rfl (by decide) ?_
        refine At.enter rfl ?_
        refine r_aload_n rfl ?_
        refine r_iconst (-1) rfl ?_
        refine r_callV 18 rfl [.ref 231, .int (-1)] [] (Nat.le_of_ble_eq_true rfl) rfl (T_X11_tell_231 _ hI293 (-1) (by decide)) ?_
        rintro _ _ ⟨g420, rfl, hI421, hF422, v423, rfl, hr424⟩
        refine At.sti ?_
        have hF425 := Fr.tr hF294 hF422 rfl rfl
        have zv426 : ((-1) : Int32).toInt = (-1) := rfl
        refine At.enter rfl ?_
        refine r_ireti ?_
        obtain ⟨v427, hv427⟩ : ∃ v, eA g0 233 0 = v := ⟨_, rfl⟩
        have tv427 := congrArg Int32.toInt hv427
        have wv427 := HI.t0 hI0
        rw [hv427] at wv427
        have tv427 := congrArg Int32.toInt hv427
        have x428 := HI.eqA hI421 (p := 233) (j := 0) ((((eA_c (hF422.2.1 233 (by decide))).trans (eA_c gA_sI)).trans hv427))
        obtain ⟨v429, hv429⟩ : ∃ v, eA g0 233 4 = v := ⟨_, rfl⟩
        have wv429 := HI.t4 hI0
        rw [hv429] at wv429
        have tv429 := congrArg Int32.toInt hv429
        have x430 := HI.eqA hI421 (p := 233) (j := 4) ((((eA_c (hF422.2.1 233 (by decide))).trans (eA_c gA_sI)).trans hv429))
        obtain ⟨v431, hv431⟩ : ∃ v, eA g0 233 5 = v := ⟨_, rfl⟩
        have wv431 := HI.t5 hI0
        rw [hv431] at wv431
        have tv431 := congrArg Int32.toInt hv431
        have x432 := HI.eqA hI421 (p := 233) (j := 5) ((((eA_c (hF422.2.1 233 (by decide))).trans (eA_c gA_sI)).trans hv431))
        obtain ⟨v433, hv433⟩ : ∃ v, eA g0 233 6 = v := ⟨_, rfl⟩
        have wv433 := HI.t6 hI0
        rw [hv433] at wv433
        have tv433 := congrArg Int32.toInt hv433
        have x434 := HI.eqA hI421 (p := 233) (j := 6) ((((eA_c (hF422.2.1 233 (by decide))).trans (eA_c gA_sI)).trans hv433))
        have x435 := HI.eqA hI0 (p := 233) (j := 0) (hv427)
        have x436 := HI.eqA hI0 (p := 233) (j := 4) (hv429)
        have x437 := HI.eqA hI0 (p := 233) (j := 5) (hv431)
        have x438 := HI.eqA hI0 (p := 233) (j := 6) (hv433)
        exact ⟨_, rfl, hI421, hF425, _, rfl, by omega, ⟨by omega, by omega, by omega, by omega⟩⟩
      · have c419_ : v398.toInt ≤ 9 := en_j_gt_f c419
        refine At.enter rfl ?_
        refine r_iconst 1 rfl ?_
        refine r_goto ?_
        refine At.enter rfl ?_
        refine q_iretz (by decide) ?_
        refine At.enter rfl ?_
        refine q_iretz (by decide) ?_
        refine At.enter rfl ?_
        refine r_ift (by decide) ?_
        refine At.enter rfl ?_
        refine r_aload_n rfl ?_
        refine r_iload_n rfl ?_
        refine q_inlV 24 rfl [.ref 231, .int a1] [] (Nat.le_of_ble_eq_true rfl) rfl ?_
        refine Ev.mk rfl rfl ⟨Nat.le_of_ble_eq_true rfl, Or.inr (q_rc hI293.1 kx_231 rfl)⟩ ?_
        show At _ none _ _ (0, [(0, .ref 231), (1, .int a1)], [], (_, _)) _
        refine At.enter rfl ?_
        refine r_iload_n rfl ?_
        refine q_i2l (fun v439 hv439 => ?_)
        refine r_lconst 0 rfl ?_
        refine r_aload_n rfl ?_
        refine q_getR (Sh.ref hI293.1 kx_231 rfl) ?_
        refine r_iconst 0 rfl ?_
        obtain ⟨v440, hv440⟩ : ∃ v, eA g0 233 0 = v := ⟨_, rfl⟩
        have tv440 := congrArg Int32.toInt hv440
        have wv440 := HI.t0 hI0
        rw [hv440] at wv440
        refine q_iald (Sh.arr hI293.1 ka_233) 0 rfl (by decide) v440 ((eA_c (gA_sI)).trans hv440) ?_
        refine q_i2l (fun v441 hv441 => ?_)
        refine r_lconst 1 rfl ?_
        refine q_lsub (v441.toInt - 1) rfl (by omega) (fun v442 hv442 => ?_)
        refine q_inlS 15 rfl [.long v439, .long 0, .long v442] [] (Nat.le_of_ble_eq_true rfl) rfl ?_
        refine Ev.mk rfl rfl ⟨Nat.le_of_ble_eq_true rfl, Or.inl rfl⟩ ?_
        show At _ none _ _ (0, [(0, .long v439), (2, .long 0), (4, .long v442)], [], (_, _)) _
        refine At.enter rfl ?_
        refine r_lload_n rfl ?_
        refine r_lload_n rfl ?_
        refine r_lcmp _ rfl ?_
        refine r_ifs 6 rfl (fun c443 => ?_) (fun c443 => ?_)
        · have c443_ : v439.toInt < 0 := en_j_lt_t c443
          refine At.enter rfl ?_
          refine r_iconst 0 rfl ?_
          refine Ar.fall 18 rfl ?_
          refine At.enter rfl ?_
          refine q_iretz (by decide) ?_
          refine At.enter rfl ?_
          refine q_iretz (by decide) ?_
          refine At.enter rfl ?_
          refine r_ift (by decide) ?_
          refine At.enter rfl ?_
          refine r_aload_n rfl ?_
          refine r_bipush (-2) rfl ?_
          refine r_callV 49 rfl [.ref 231, .int (-2)] [] (Nat.le_of_ble_eq_true rfl) rfl (T_X11_tell_231 _ hI293 (-2) (by decide)) ?_
          rintro _ _ ⟨g444, rfl, hI445, hF446, v447, rfl, hr448⟩
          refine At.sti ?_
          have hF449 := Fr.tr hF294 hF446 rfl rfl
          have zv450 : ((-2) : Int32).toInt = (-2) := rfl
          refine At.enter rfl ?_
          refine r_ireti ?_
          have x451 := HI.eqA hI445 (p := 233) (j := 0) ((((eA_c (hF446.2.1 233 (by decide))).trans (eA_c gA_sI)).trans hv440))
          obtain ⟨v452, hv452⟩ : ∃ v, eA g0 233 4 = v := ⟨_, rfl⟩
          have wv452 := HI.t4 hI0
          rw [hv452] at wv452
          have tv452 := congrArg Int32.toInt hv452
          have x453 := HI.eqA hI445 (p := 233) (j := 4) ((((eA_c (hF446.2.1 233 (by decide))).trans (eA_c gA_sI)).trans hv452))
          obtain ⟨v454, hv454⟩ : ∃ v, eA g0 233 5 = v := ⟨_, rfl⟩
          have wv454 := HI.t5 hI0
          rw [hv454] at wv454
          have tv454 := congrArg Int32.toInt hv454
          have x455 := HI.eqA hI445 (p := 233) (j := 5) ((((eA_c (hF446.2.1 233 (by decide))).trans (eA_c gA_sI)).trans hv454))
          obtain ⟨v456, hv456⟩ : ∃ v, eA g0 233 6 = v := ⟨_, rfl⟩
          have wv456 := HI.t6 hI0
          rw [hv456] at wv456
          have tv456 := congrArg Int32.toInt hv456
          have x457 := HI.eqA hI445 (p := 233) (j := 6) ((((eA_c (hF446.2.1 233 (by decide))).trans (eA_c gA_sI)).trans hv456))
          have x458 := HI.eqA hI0 (p := 233) (j := 0) (hv440)
          have x459 := HI.eqA hI0 (p := 233) (j := 4) (hv452)
          have x460 := HI.eqA hI0 (p := 233) (j := 5) (hv454)
          have x461 := HI.eqA hI0 (p := 233) (j := 6) (hv456)
          exact ⟨_, rfl, hI445, hF449, _, rfl, by omega, ⟨by omega, by omega, by omega, by omega⟩⟩
        · have c443_ : v439.toInt ≥ 0 := en_j_lt_f c443
          refine At.enter rfl ?_
          refine r_lload_n rfl ?_
          refine r_lload rfl ?_
          refine r_lcmp _ rfl ?_
          refine r_ifs 13 rfl (fun c462 => ?_) (fun c462 => ?_)
          · have c462_ : v439.toInt > v442.toInt := en_j_gt_t c462
            refine At.enter rfl ?_
            refine r_iconst 0 rfl ?_
            refine Ar.fall 18 rfl ?_
            refine At.enter rfl ?_
            refine q_iretz (by decide) ?_
            refine At.enter rfl ?_
            refine q_iretz (by decide) ?_
            refine At.enter rfl ?_
            refine r_ift (by decide) ?_
            refine At.enter rfl ?_
            refine r_aload_n rfl ?_
            refine r_bipush (-2) rfl ?_
            refine r_callV 49 rfl [.ref 231, .int (-2)] [] (Nat.le_of_ble_eq_true rfl) rfl (T_X11_tell_231 _ hI293 (-2) (by decide)) ?_
            rintro _ _ ⟨g463, rfl, hI464, hF465, v466, rfl, hr467⟩
            refine At.sti ?_
            have hF468 := Fr.tr hF294 hF465 rfl rfl
            have zv469 : ((-2) : Int32).toInt = (-2) := rfl
            refine At.enter rfl ?_
            refine r_ireti ?_
            have x470 := HI.eqA hI464 (p := 233) (j := 0) ((((eA_c (hF465.2.1 233 (by decide))).trans (eA_c gA_sI)).trans hv440))
            obtain ⟨v471, hv471⟩ : ∃ v, eA g0 233 4 = v := ⟨_, rfl⟩
            have wv471 := HI.t4 hI0
            rw [hv471] at wv471
            have tv471 := congrArg Int32.toInt hv471
            have x472 := HI.eqA hI464 (p := 233) (j := 4) ((((eA_c (hF465.2.1 233 (by decide))).trans (eA_c gA_sI)).trans hv471))
            obtain ⟨v473, hv473⟩ : ∃ v, eA g0 233 5 = v := ⟨_, rfl⟩
            have wv473 := HI.t5 hI0
            rw [hv473] at wv473
            have tv473 := congrArg Int32.toInt hv473
            have x474 := HI.eqA hI464 (p := 233) (j := 5) ((((eA_c (hF465.2.1 233 (by decide))).trans (eA_c gA_sI)).trans hv473))
            obtain ⟨v475, hv475⟩ : ∃ v, eA g0 233 6 = v := ⟨_, rfl⟩
            have wv475 := HI.t6 hI0
            rw [hv475] at wv475
            have tv475 := congrArg Int32.toInt hv475
            have x476 := HI.eqA hI464 (p := 233) (j := 6) ((((eA_c (hF465.2.1 233 (by decide))).trans (eA_c gA_sI)).trans hv475))
            have x477 := HI.eqA hI0 (p := 233) (j := 0) (hv440)
            have x478 := HI.eqA hI0 (p := 233) (j := 4) (hv471)
            have x479 := HI.eqA hI0 (p := 233) (j := 5) (hv473)
            have x480 := HI.eqA hI0 (p := 233) (j := 6) (hv475)
            exact ⟨_, rfl, hI464, hF468, _, rfl, by omega, ⟨by omega, by omega, by omega, by omega⟩⟩
          · have c462_ : v439.toInt ≤ v442.toInt := en_j_gt_f c462
            refine At.enter rfl ?_
            refine r_iconst 1 rfl ?_
            refine r_goto ?_
            refine At.enter rfl ?_
            refine q_iretz (by decide) ?_
            refine At.enter rfl ?_
            refine q_iretz (by decide) ?_
            refine At.enter rfl ?_
            refine r_iff 27 rfl (by decide) ?_
            refine At.enter rfl ?_
            refine r_aload_n rfl ?_
            refine r_bipush 10 rfl ?_
            refine r_iconst 3 rfl ?_
            refine r_iload_n rfl ?_
            refine q_imul (3 * a1.toInt) rfl (by omega) (fun v481 hv481 => ?_)
            refine q_iadd (10 + v481.toInt) rfl (by omega) (fun v482 hv482 => ?_)
            refine r_iload_n rfl ?_
            refine q_iadd (v482.toInt + a2.toInt) rfl (by omega) (fun v483 hv483 => ?_)
            refine r_iload_n rfl ?_
            refine q_inlV 40 rfl [.ref 231, .int v483, .int a3] [] (Nat.le_of_ble_eq_true rfl) rfl ?_
            refine Ev.mk rfl rfl ⟨Nat.le_of_ble_eq_true rfl, Or.inr (q_rc hI293.1 kx_231 rfl)⟩ ?_
            show At _ none _ _ (0, [(0, .ref 231), (1, .int v483), (2, .int a3)], [], (_, _)) _
            refine At.enter rfl ?_
            refine r_aload_n rfl ?_
            refine q_getR (Sh.ref hI293.1 kx_231 rfl) ?_
            refine r_iload_n rfl ?_
            obtain ⟨v484, hv484⟩ : ∃ v, eA g0 233 (3 * a1.toInt + a2.toInt + 10) = v := ⟨_, rfl⟩
            have wv484 := HI.s1 hI0 (j := (3 * a1.toInt + a2.toInt + 10)) (a1.toInt) (by omega) (by omega)
            rw [hv484] at wv484
            refine q_iald (Sh.arr hI293.1 ka_233) (3 * a1.toInt + a2.toInt + 10) (by omega) (by omega) v484 ((eA_c (gA_sI)).trans hv484) ?_
            refine r_istore_n ([(3, .int v484), (0, .ref 231), (1, .int v483), (2, .int a3)]) rfl ?_
            refine r_aload_n rfl ?_
            refine q_getR (Sh.ref hI293.1 kx_231 rfl) ?_
            refine r_iload_n rfl ?_
            refine r_iload_n rfl ?_
            refine q_iast (Sh.arr hI293.1 ka_233) ((3 * a1.toInt + a2.toInt + 10)) (by omega) (by omega) ?_
            have hI485 := HI.ws hI293 (j := (3 * a1.toInt + a2.toInt + 10)) (v := a3) (a1.toInt) 1 (by omega) (by decide) (by omega) (by omega)
            have hF486 := Fr.wA (p := 233) (j := (3 * a1.toInt + a2.toInt + 10)) (v := a3) hF294 rfl
            refine r_aload_n rfl ?_
            refine r_iload_n rfl ?_
            refine q_inlV 19 rfl [.ref 231, .int v484] [] (Nat.le_of_ble_eq_true rfl) rfl ?_
            refine Ev.mk rfl rfl ⟨Nat.le_of_ble_eq_true rfl, Or.inr (q_rc hI485.1 kx_231 rfl)⟩ ?_
            show At _ none _ _ (0, [(0, .ref 231), (1, .int v484)], [], (_, _)) _
            refine At.enter rfl ?_
            refine r_aload_n rfl ?_
            refine r_iconst 0 rfl ?_
            refine q_putI (Sh.int hI485.1 kx_231 rfl) rfl ?_
            have hI487 := HI.wI0 hI485 kx_231 rfl (p := 231) (b := 1) (v := 0) rfl
            have hF488 := Fr.wI (p := 231) (b := 1) (v := 0) hF486 rfl
            refine r_iload_n rfl ?_
            refine q_ireti ?_
            refine At.enter rfl ?_
            refine q_ireti ?_
            refine At.enter rfl ?_
            refine r_goto ?_
            refine At.enter rfl ?_
            refine r_ireti ?_
            have x489 := HI.eqA hI487 (p := 233) (j := 0) ((((eA_c gA_sI).trans ((eA_sA_ne hI293.1 ka_233 (by first | decide | omega) (by first | decide | omega) (by first | decide | omega)).trans (eA_c gA_sI))).trans hv440))
            obtain ⟨v490, hv490⟩ : ∃ v, eA g0 233 4 = v := ⟨_, rfl⟩
            have wv490 := HI.t4 hI0
            rw [hv490] at wv490
            have tv490 := congrArg Int32.toInt hv490
            have x491 := HI.eqA hI487 (p := 233) (j := 4) ((((eA_c gA_sI).trans ((eA_sA_ne hI293.1 ka_233 (by first | decide | omega) (by first | decide | omega) (by first | decide | omega)).trans (eA_c gA_sI))).trans hv490))
            obtain ⟨v492, hv492⟩ : ∃ v, eA g0 233 5 = v := ⟨_, rfl⟩
            have wv492 := HI.t5 hI0
            rw [hv492] at wv492
            have tv492 := congrArg Int32.toInt hv492
            have x493 := HI.eqA hI487 (p := 233) (j := 5) ((((eA_c gA_sI).trans ((eA_sA_ne hI293.1 ka_233 (by first | decide | omega) (by first | decide | omega) (by first | decide | omega)).trans (eA_c gA_sI))).trans hv492))
            obtain ⟨v494, hv494⟩ : ∃ v, eA g0 233 6 = v := ⟨_, rfl⟩
            have wv494 := HI.t6 hI0
            rw [hv494] at wv494
            have tv494 := congrArg Int32.toInt hv494
            have x495 := HI.eqA hI487 (p := 233) (j := 6) ((((eA_c gA_sI).trans ((eA_sA_ne hI293.1 ka_233 (by first | decide | omega) (by first | decide | omega) (by first | decide | omega)).trans (eA_c gA_sI))).trans hv494))
            have x496 := HI.eqA hI0 (p := 233) (j := 0) (hv440)
            have x497 := HI.eqA hI0 (p := 233) (j := 4) (hv490)
            have x498 := HI.eqA hI0 (p := 233) (j := 5) (hv492)
            have x499 := HI.eqA hI0 (p := 233) (j := 6) (hv494)
            exact ⟨_, rfl, hI487, hF488, _, rfl, by omega, ⟨by omega, by omega, by omega, by omega⟩⟩
  by_cases c295_2 : a2.toInt = 2
  · refine r_tsw 50 (by rw [c295_2]; rfl) ?_
    refine At.enter rfl ?_
    refine r_iload_n rfl ?_
    refine q_i2l (fun v500 hv500 => ?_)
    refine r_lconst 0 rfl ?_
    refine r_ldc2 99 rfl ?_
    refine q_inlS 59 rfl [.long v500, .long 0, .long 99] [] (Nat.le_of_ble_eq_true rfl) rfl ?_
    refine Ev.mk rfl rfl ⟨Nat.le_of_ble_eq_true rfl, Or.inl rfl⟩ ?_
    show At _ none _ _ (0, [(0, .long v500), (2, .long 0), (4, .long 99)], [], (_, _)) _
    refine At.enter rfl ?_
    refine r_lload_n rfl ?_
    refine r_lload_n rfl ?_
    refine r_lcmp _ rfl ?_
    refine r_ifs 6 rfl (fun c501 => ?_) (fun c501 => ?_)
    · have c501_ : v500.toInt < 0 := en_j_lt_t c501
      refine At.enter rfl ?_
      refine r_iconst 0 rfl ?_
      refine Ar.fall 18 rfl ?_
      refine At.enter rfl ?_
      refine q_iretz (by decide) ?_
      refine At.enter rfl ?_
      refine q_iretz (by decide) ?_
      refine At.enter rfl ?_
      refine r_iff 13 rfl (by decide) ?_
      refine At.enter rfl ?_
      refine r_aload_n rfl ?_
      refine r_iconst (-1) rfl ?_
      refine r_callV 18 rfl [.ref 231, .int (-1)] [] (Nat.le_of_ble_eq_true rfl) rfl (T_X11_tell_231 _ hI293 (-1) (by decide)) ?_
      rintro _ _ ⟨g502, rfl, hI503, hF504, v505, rfl, hr506⟩
      refine At.sti ?_
      have hF507 := Fr.tr hF294 hF504 rfl rfl
      have zv508 : ((-1) : Int32).toInt = (-1) := rfl
      refine At.enter rfl ?_
      refine r_ireti ?_
      obtain ⟨v509, hv509⟩ : ∃ v, eA g0 233 0 = v := ⟨_, rfl⟩
      have tv509 := congrArg Int32.toInt hv509
      have wv509 := HI.t0 hI0
      rw [hv509] at wv509
      have tv509 := congrArg Int32.toInt hv509
      have x510 := HI.eqA hI503 (p := 233) (j := 0) ((((eA_c (hF504.2.1 233 (by decide))).trans (eA_c gA_sI)).trans hv509))
      obtain ⟨v511, hv511⟩ : ∃ v, eA g0 233 4 = v := ⟨_, rfl⟩
      have wv511 := HI.t4 hI0
      rw [hv511] at wv511
      have tv511 := congrArg Int32.toInt hv511
      have x512 := HI.eqA hI503 (p := 233) (j := 4) ((((eA_c (hF504.2.1 233 (by decide))).trans (eA_c gA_sI)).trans hv511))
      obtain ⟨v513, hv513⟩ : ∃ v, eA g0 233 5 = v := ⟨_, rfl⟩
      have wv513 := HI.t5 hI0
      rw [hv513] at wv513
      have tv513 := congrArg Int32.toInt hv513
      have x514 := HI.eqA hI503 (p := 233) (j := 5) ((((eA_c (hF504.2.1 233 (by decide))).trans (eA_c gA_sI)).trans hv513))
      obtain ⟨v515, hv515⟩ : ∃ v, eA g0 233 6 = v := ⟨_, rfl⟩
      have wv515 := HI.t6 hI0
      rw [hv515] at wv515
      have tv515 := congrArg Int32.toInt hv515
      have x516 := HI.eqA hI503 (p := 233) (j := 6) ((((eA_c (hF504.2.1 233 (by decide))).trans (eA_c gA_sI)).trans hv515))
      have x517 := HI.eqA hI0 (p := 233) (j := 0) (hv509)
      have x518 := HI.eqA hI0 (p := 233) (j := 4) (hv511)
      have x519 := HI.eqA hI0 (p := 233) (j := 5) (hv513)
      have x520 := HI.eqA hI0 (p := 233) (j := 6) (hv515)
      exact ⟨_, rfl, hI503, hF507, _, rfl, by omega, ⟨by omega, by omega, by omega, by omega⟩⟩
    · have c501_ : v500.toInt ≥ 0 := en_j_lt_f c501
      refine At.enter rfl ?_
      refine r_lload_n rfl ?_
      refine r_lload rfl ?_
      refine r_lcmp _ rfl ?_
      refine r_ifs 13 rfl (fun c521 => ?_) (fun c521 => ?_)
      · have c521_ : v500.toInt > 99 := en_j_gt_t c521
        refine At.enter rfl ?_
        refine r_iconst 0 rfl ?_
        refine Ar.fall 18 rfl ?_
        refine At.enter rfl ?_
        refine q_iretz (by decide) ?_
        refine At.enter rfl ?_
        refine q_iretz (by decide) ?_
        refine At.enter rfl ?_
        refine r_iff 13 rfl (by decide) ?_
        refine At.enter rfl ?_
        refine r_aload_n rfl ?_
        refine r_iconst (-1) rfl ?_
        refine r_callV 18 rfl [.ref 231, .int (-1)] [] (Nat.le_of_ble_eq_true rfl) rfl (T_X11_tell_231 _ hI293 (-1) (by decide)) ?_
        rintro _ _ ⟨g522, rfl, hI523, hF524, v525, rfl, hr526⟩
        refine At.sti ?_
        have hF527 := Fr.tr hF294 hF524 rfl rfl
        have zv528 : ((-1) : Int32).toInt = (-1) := rfl
        refine At.enter rfl ?_
        refine r_ireti ?_
        obtain ⟨v529, hv529⟩ : ∃ v, eA g0 233 0 = v := ⟨_, rfl⟩
        have tv529 := congrArg Int32.toInt hv529
        have wv529 := HI.t0 hI0
        rw [hv529] at wv529
        have tv529 := congrArg Int32.toInt hv529
        have x530 := HI.eqA hI523 (p := 233) (j := 0) ((((eA_c (hF524.2.1 233 (by decide))).trans (eA_c gA_sI)).trans hv529))
        obtain ⟨v531, hv531⟩ : ∃ v, eA g0 233 4 = v := ⟨_, rfl⟩
        have wv531 := HI.t4 hI0
        rw [hv531] at wv531
        have tv531 := congrArg Int32.toInt hv531
        have x532 := HI.eqA hI523 (p := 233) (j := 4) ((((eA_c (hF524.2.1 233 (by decide))).trans (eA_c gA_sI)).trans hv531))
        obtain ⟨v533, hv533⟩ : ∃ v, eA g0 233 5 = v := ⟨_, rfl⟩
        have wv533 := HI.t5 hI0
        rw [hv533] at wv533
        have tv533 := congrArg Int32.toInt hv533
        have x534 := HI.eqA hI523 (p := 233) (j := 5) ((((eA_c (hF524.2.1 233 (by decide))).trans (eA_c gA_sI)).trans hv533))
        obtain ⟨v535, hv535⟩ : ∃ v, eA g0 233 6 = v := ⟨_, rfl⟩
        have wv535 := HI.t6 hI0
        rw [hv535] at wv535
        have tv535 := congrArg Int32.toInt hv535
        have x536 := HI.eqA hI523 (p := 233) (j := 6) ((((eA_c (hF524.2.1 233 (by decide))).trans (eA_c gA_sI)).trans hv535))
        have x537 := HI.eqA hI0 (p := 233) (j := 0) (hv529)
        have x538 := HI.eqA hI0 (p := 233) (j := 4) (hv531)
        have x539 := HI.eqA hI0 (p := 233) (j := 5) (hv533)
        have x540 := HI.eqA hI0 (p := 233) (j := 6) (hv535)
        exact ⟨_, rfl, hI523, hF527, _, rfl, by omega, ⟨by omega, by omega, by omega, by omega⟩⟩
      · have c521_ : v500.toInt ≤ 99 := en_j_gt_f c521
        refine At.enter rfl ?_
        refine r_iconst 1 rfl ?_
        refine r_goto ?_
        refine At.enter rfl ?_
        refine q_iretz (by decide) ?_
        refine At.enter rfl ?_
        refine q_iretz (by decide) ?_
        refine At.enter rfl ?_
        refine r_ift (by decide) ?_
        refine At.enter rfl ?_
        refine r_aload_n rfl ?_
        refine r_iload_n rfl ?_
        refine q_inlV 24 rfl [.ref 231, .int a1] [] (Nat.le_of_ble_eq_true rfl) rfl ?_
        refine Ev.mk rfl rfl ⟨Nat.le_of_ble_eq_true rfl, Or.inr (q_rc hI293.1 kx_231 rfl)⟩ ?_
        show At _ none _ _ (0, [(0, .ref 231), (1, .int a1)], [], (_, _)) _
        refine At.enter rfl ?_
        refine r_iload_n rfl ?_
        refine q_i2l (fun v541 hv541 => ?_)
        refine r_lconst 0 rfl ?_
        refine r_aload_n rfl ?_
        refine q_getR (Sh.ref hI293.1 kx_231 rfl) ?_
        refine r_iconst 0 rfl ?_
        obtain ⟨v542, hv542⟩ : ∃ v, eA g0 233 0 = v := ⟨_, rfl⟩
        have tv542 := congrArg Int32.toInt hv542
        have wv542 := HI.t0 hI0
        rw [hv542] at wv542
        refine q_iald (Sh.arr hI293.1 ka_233) 0 rfl (by decide) v542 ((eA_c (gA_sI)).trans hv542) ?_
        refine q_i2l (fun v543 hv543 => ?_)
        refine r_lconst 1 rfl ?_
        refine q_lsub (v543.toInt - 1) rfl (by omega) (fun v544 hv544 => ?_)
        refine q_inlS 15 rfl [.long v541, .long 0, .long v544] [] (Nat.le_of_ble_eq_true rfl) rfl ?_
        refine Ev.mk rfl rfl ⟨Nat.le_of_ble_eq_true rfl, Or.inl rfl⟩ ?_
        show At _ none _ _ (0, [(0, .long v541), (2, .long 0), (4, .long v544)], [], (_, _)) _
        refine At.enter rfl ?_
        refine r_lload_n rfl ?_
        refine r_lload_n rfl ?_
        refine r_lcmp _ rfl ?_
        refine r_ifs 6 rfl (fun c545 => ?_) (fun c545 => ?_)
        · have c545_ : v541.toInt < 0 := en_j_lt_t c545
          refine At.enter rfl ?_
          refine r_iconst 0 rfl ?_
          refine Ar.fall 18 rfl ?_
          refine At.enter rfl ?_
          refine q_iretz (by decide) ?_
          refine At.enter rfl ?_
          refine q_iretz (by decide) ?_
          refine At.enter rfl ?_
          refine r_ift (by decide) ?_
          refine At.enter rfl ?_
          refine r_aload_n rfl ?_
          refine r_bipush (-2) rfl ?_
          refine r_callV 49 rfl [.ref 231, .int (-2)] [] (Nat.le_of_ble_eq_true rfl) rfl (T_X11_tell_231 _ hI293 (-2) (by decide)) ?_
          rintro _ _ ⟨g546, rfl, hI547, hF548, v549, rfl, hr550⟩
          refine At.sti ?_
          have hF551 := Fr.tr hF294 hF548 rfl rfl
          have zv552 : ((-2) : Int32).toInt = (-2) := rfl
          refine At.enter rfl ?_
          refine r_ireti ?_
          have x553 := HI.eqA hI547 (p := 233) (j := 0) ((((eA_c (hF548.2.1 233 (by decide))).trans (eA_c gA_sI)).trans hv542))
          obtain ⟨v554, hv554⟩ : ∃ v, eA g0 233 4 = v := ⟨_, rfl⟩
          have wv554 := HI.t4 hI0
          rw [hv554] at wv554
          have tv554 := congrArg Int32.toInt hv554
          have x555 := HI.eqA hI547 (p := 233) (j := 4) ((((eA_c (hF548.2.1 233 (by decide))).trans (eA_c gA_sI)).trans hv554))
          obtain ⟨v556, hv556⟩ : ∃ v, eA g0 233 5 = v := ⟨_, rfl⟩
          have wv556 := HI.t5 hI0
          rw [hv556] at wv556
          have tv556 := congrArg Int32.toInt hv556
          have x557 := HI.eqA hI547 (p := 233) (j := 5) ((((eA_c (hF548.2.1 233 (by decide))).trans (eA_c gA_sI)).trans hv556))
          obtain ⟨v558, hv558⟩ : ∃ v, eA g0 233 6 = v := ⟨_, rfl⟩
          have wv558 := HI.t6 hI0
          rw [hv558] at wv558
          have tv558 := congrArg Int32.toInt hv558
          have x559 := HI.eqA hI547 (p := 233) (j := 6) ((((eA_c (hF548.2.1 233 (by decide))).trans (eA_c gA_sI)).trans hv558))
          have x560 := HI.eqA hI0 (p := 233) (j := 0) (hv542)
          have x561 := HI.eqA hI0 (p := 233) (j := 4) (hv554)
          have x562 := HI.eqA hI0 (p := 233) (j := 5) (hv556)
          have x563 := HI.eqA hI0 (p := 233) (j := 6) (hv558)
          exact ⟨_, rfl, hI547, hF551, _, rfl, by omega, ⟨by omega, by omega, by omega, by omega⟩⟩
        · have c545_ : v541.toInt ≥ 0 := en_j_lt_f c545
          refine At.enter rfl ?_
          refine r_lload_n rfl ?_
          refine r_lload rfl ?_
          refine r_lcmp _ rfl ?_
          refine r_ifs 13 rfl (fun c564 => ?_) (fun c564 => ?_)
          · have c564_ : v541.toInt > v544.toInt := en_j_gt_t c564
            refine At.enter rfl ?_
            refine r_iconst 0 rfl ?_
            refine Ar.fall 18 rfl ?_
            refine At.enter rfl ?_
            refine q_iretz (by decide) ?_
            refine At.enter rfl ?_
            refine q_iretz (by decide) ?_
            refine At.enter rfl ?_
            refine r_ift (by decide) ?_
            refine At.enter rfl ?_
            refine r_aload_n rfl ?_
            refine r_bipush (-2) rfl ?_
            refine r_callV 49 rfl [.ref 231, .int (-2)] [] (Nat.le_of_ble_eq_true rfl) rfl (T_X11_tell_231 _ hI293 (-2) (by decide)) ?_
            rintro _ _ ⟨g565, rfl, hI566, hF567, v568, rfl, hr569⟩
            refine At.sti ?_
            have hF570 := Fr.tr hF294 hF567 rfl rfl
            have zv571 : ((-2) : Int32).toInt = (-2) := rfl
            refine At.enter rfl ?_
            refine r_ireti ?_
            have x572 := HI.eqA hI566 (p := 233) (j := 0) ((((eA_c (hF567.2.1 233 (by decide))).trans (eA_c gA_sI)).trans hv542))
            obtain ⟨v573, hv573⟩ : ∃ v, eA g0 233 4 = v := ⟨_, rfl⟩
            have wv573 := HI.t4 hI0
            rw [hv573] at wv573
            have tv573 := congrArg Int32.toInt hv573
            have x574 := HI.eqA hI566 (p := 233) (j := 4) ((((eA_c (hF567.2.1 233 (by decide))).trans (eA_c gA_sI)).trans hv573))
            obtain ⟨v575, hv575⟩ : ∃ v, eA g0 233 5 = v := ⟨_, rfl⟩
            have wv575 := HI.t5 hI0
            rw [hv575] at wv575
            have tv575 := congrArg Int32.toInt hv575
            have x576 := HI.eqA hI566 (p := 233) (j := 5) ((((eA_c (hF567.2.1 233 (by decide))).trans (eA_c gA_sI)).trans hv575))
            obtain ⟨v577, hv577⟩ : ∃ v, eA g0 233 6 = v := ⟨_, rfl⟩
            have wv577 := HI.t6 hI0
            rw [hv577] at wv577
            have tv577 := congrArg Int32.toInt hv577
            have x578 := HI.eqA hI566 (p := 233) (j := 6) ((((eA_c (hF567.2.1 233 (by decide))).trans (eA_c gA_sI)).trans hv577))
            have x579 := HI.eqA hI0 (p := 233) (j := 0) (hv542)
            have x580 := HI.eqA hI0 (p := 233) (j := 4) (hv573)
            have x581 := HI.eqA hI0 (p := 233) (j := 5) (hv575)
            have x582 := HI.eqA hI0 (p := 233) (j := 6) (hv577)
            exact ⟨_, rfl, hI566, hF570, _, rfl, by omega, ⟨by omega, by omega, by omega, by omega⟩⟩
          · have c564_ : v541.toInt ≤ v544.toInt := en_j_gt_f c564
            refine At.enter rfl ?_
            refine r_iconst 1 rfl ?_
            refine r_goto ?_
            refine At.enter rfl ?_
            refine q_iretz (by decide) ?_
            refine At.enter rfl ?_
            refine q_iretz (by decide) ?_
            refine At.enter rfl ?_
            refine r_iff 27 rfl (by decide) ?_
            refine At.enter rfl ?_
            refine r_aload_n rfl ?_
            refine r_bipush 10 rfl ?_
            refine r_iconst 3 rfl ?_
            refine r_iload_n rfl ?_
            refine q_imul (3 * a1.toInt) rfl (by omega) (fun v583 hv583 => ?_)
            refine q_iadd (10 + v583.toInt) rfl (by omega) (fun v584 hv584 => ?_)
            refine r_iload_n rfl ?_
            refine q_iadd (v584.toInt + a2.toInt) rfl (by omega) (fun v585 hv585 => ?_)
            refine r_iload_n rfl ?_
            refine q_inlV 40 rfl [.ref 231, .int v585, .int a3] [] (Nat.le_of_ble_eq_true rfl) rfl ?_
            refine Ev.mk rfl rfl ⟨Nat.le_of_ble_eq_true rfl, Or.inr (q_rc hI293.1 kx_231 rfl)⟩ ?_
            show At _ none _ _ (0, [(0, .ref 231), (1, .int v585), (2, .int a3)], [], (_, _)) _
            refine At.enter rfl ?_
            refine r_aload_n rfl ?_
            refine q_getR (Sh.ref hI293.1 kx_231 rfl) ?_
            refine r_iload_n rfl ?_
            obtain ⟨v586, hv586⟩ : ∃ v, eA g0 233 (3 * a1.toInt + a2.toInt + 10) = v := ⟨_, rfl⟩
            have wv586 := HI.s2 hI0 (j := (3 * a1.toInt + a2.toInt + 10)) (a1.toInt) (by omega) (by omega)
            rw [hv586] at wv586
            refine q_iald (Sh.arr hI293.1 ka_233) (3 * a1.toInt + a2.toInt + 10) (by omega) (by omega) v586 ((eA_c (gA_sI)).trans hv586) ?_
            refine r_istore_n ([(3, .int v586), (0, .ref 231), (1, .int v585), (2, .int a3)]) rfl ?_
            refine r_aload_n rfl ?_
            refine q_getR (Sh.ref hI293.1 kx_231 rfl) ?_
            refine r_iload_n rfl ?_
            refine r_iload_n rfl ?_
            refine q_iast (Sh.arr hI293.1 ka_233) ((3 * a1.toInt + a2.toInt + 10)) (by omega) (by omega) ?_
            have hI587 := HI.ws hI293 (j := (3 * a1.toInt + a2.toInt + 10)) (v := a3) (a1.toInt) 2 (by omega) (by decide) (by omega) (by omega)
            have hF588 := Fr.wA (p := 233) (j := (3 * a1.toInt + a2.toInt + 10)) (v := a3) hF294 rfl
            refine r_aload_n rfl ?_
            refine r_iload_n rfl ?_
            refine q_inlV 19 rfl [.ref 231, .int v586] [] (Nat.le_of_ble_eq_true rfl) rfl ?_
            refine Ev.mk rfl rfl ⟨Nat.le_of_ble_eq_true rfl, Or.inr (q_rc hI587.1 kx_231 rfl)⟩ ?_
            show At _ none _ _ (0, [(0, .ref 231), (1, .int v586)], [], (_, _)) _
            refine At.enter rfl ?_
            refine r_aload_n rfl ?_
            refine r_iconst 0 rfl ?_
            refine q_putI (Sh.int hI587.1 kx_231 rfl) rfl ?_
            have hI589 := HI.wI0 hI587 kx_231 rfl (p := 231) (b := 1) (v := 0) rfl
            have hF590 := Fr.wI (p := 231) (b := 1) (v := 0) hF588 rfl
            refine r_iload_n rfl ?_
            refine q_ireti ?_
            refine At.enter rfl ?_
            refine q_ireti ?_
            refine At.enter rfl ?_
            refine r_goto ?_
            refine At.enter rfl ?_
            refine r_ireti ?_
            have x591 := HI.eqA hI589 (p := 233) (j := 0) ((((eA_c gA_sI).trans ((eA_sA_ne hI293.1 ka_233 (by first | decide | omega) (by first | decide | omega) (by first | decide | omega)).trans (eA_c gA_sI))).trans hv542))
            obtain ⟨v592, hv592⟩ : ∃ v, eA g0 233 4 = v := ⟨_, rfl⟩
            have wv592 := HI.t4 hI0
            rw [hv592] at wv592
            have tv592 := congrArg Int32.toInt hv592
            have x593 := HI.eqA hI589 (p := 233) (j := 4) ((((eA_c gA_sI).trans ((eA_sA_ne hI293.1 ka_233 (by first | decide | omega) (by first | decide | omega) (by first | decide | omega)).trans (eA_c gA_sI))).trans hv592))
            obtain ⟨v594, hv594⟩ : ∃ v, eA g0 233 5 = v := ⟨_, rfl⟩
            have wv594 := HI.t5 hI0
            rw [hv594] at wv594
            have tv594 := congrArg Int32.toInt hv594
            have x595 := HI.eqA hI589 (p := 233) (j := 5) ((((eA_c gA_sI).trans ((eA_sA_ne hI293.1 ka_233 (by first | decide | omega) (by first | decide | omega) (by first | decide | omega)).trans (eA_c gA_sI))).trans hv594))
            obtain ⟨v596, hv596⟩ : ∃ v, eA g0 233 6 = v := ⟨_, rfl⟩
            have wv596 := HI.t6 hI0
            rw [hv596] at wv596
            have tv596 := congrArg Int32.toInt hv596
            have x597 := HI.eqA hI589 (p := 233) (j := 6) ((((eA_c gA_sI).trans ((eA_sA_ne hI293.1 ka_233 (by first | decide | omega) (by first | decide | omega) (by first | decide | omega)).trans (eA_c gA_sI))).trans hv596))
            have x598 := HI.eqA hI0 (p := 233) (j := 0) (hv542)
            have x599 := HI.eqA hI0 (p := 233) (j := 4) (hv592)
            have x600 := HI.eqA hI0 (p := 233) (j := 5) (hv594)
            have x601 := HI.eqA hI0 (p := 233) (j := 6) (hv596)
            exact ⟨_, rfl, hI589, hF590, _, rfl, by omega, ⟨by omega, by omega, by omega, by omega⟩⟩
  have c602 : a2.toInt < 0 ∨ 2 < a2.toInt := by omega
  refine r_tsw 60 (by unfold en_sw; rw [if_pos c602]; rfl) ?_
  refine At.enter rfl ?_
  refine r_iconst 0 rfl ?_
  refine q_iretz (by decide) ?_
  refine At.enter rfl ?_
  refine r_iff 13 rfl (by decide) ?_
  refine At.enter rfl ?_
  refine r_aload_n rfl ?_
  refine r_iconst (-1) rfl ?_
  refine r_callV 18 rfl [.ref 231, .int (-1)] [] (Nat.le_of_ble_eq_true rfl) rfl (T_X11_tell_231 _ hI293 (-1) (by decide)) ?_
  rintro _ _ ⟨g603, rfl, hI604, hF605, v606, rfl, hr607⟩
  refine At.sti ?_
  have hF608 := Fr.tr hF294 hF605 rfl rfl
  have zv609 : ((-1) : Int32).toInt = (-1) := rfl
  refine At.enter rfl ?_
  refine r_ireti ?_
  obtain ⟨v610, hv610⟩ : ∃ v, eA g0 233 0 = v := ⟨_, rfl⟩
  have tv610 := congrArg Int32.toInt hv610
  have wv610 := HI.t0 hI0
  rw [hv610] at wv610
  have tv610 := congrArg Int32.toInt hv610
  have x611 := HI.eqA hI604 (p := 233) (j := 0) ((((eA_c (hF605.2.1 233 (by decide))).trans (eA_c gA_sI)).trans hv610))
  obtain ⟨v612, hv612⟩ : ∃ v, eA g0 233 4 = v := ⟨_, rfl⟩
  have wv612 := HI.t4 hI0
  rw [hv612] at wv612
  have tv612 := congrArg Int32.toInt hv612
  have x613 := HI.eqA hI604 (p := 233) (j := 4) ((((eA_c (hF605.2.1 233 (by decide))).trans (eA_c gA_sI)).trans hv612))
  obtain ⟨v614, hv614⟩ : ∃ v, eA g0 233 5 = v := ⟨_, rfl⟩
  have wv614 := HI.t5 hI0
  rw [hv614] at wv614
  have tv614 := congrArg Int32.toInt hv614
  have x615 := HI.eqA hI604 (p := 233) (j := 5) ((((eA_c (hF605.2.1 233 (by decide))).trans (eA_c gA_sI)).trans hv614))
  obtain ⟨v616, hv616⟩ : ∃ v, eA g0 233 6 = v := ⟨_, rfl⟩
  have wv616 := HI.t6 hI0
  rw [hv616] at wv616
  have tv616 := congrArg Int32.toInt hv616
  have x617 := HI.eqA hI604 (p := 233) (j := 6) ((((eA_c (hF605.2.1 233 (by decide))).trans (eA_c gA_sI)).trans hv616))
  have x618 := HI.eqA hI0 (p := 233) (j := 0) (hv610)
  have x619 := HI.eqA hI0 (p := 233) (j := 4) (hv612)
  have x620 := HI.eqA hI0 (p := 233) (j := 5) (hv614)
  have x621 := HI.eqA hI0 (p := 233) (j := 6) (hv616)
  exact ⟨_, rfl, hI604, hF608, _, rfl, by omega, ⟨by omega, by omega, by omega, by omega⟩⟩

def F_X11_load_231 : List (Nat × Nat) := [(231, 0), (231, 1)]
def A_X11_load_231 : List Nat := [232, 233]
set_option maxRecDepth 100000 in
set_option maxHeartbeats 4000000 in
theorem T_X11_load_231 (d : Nat) {N : Nat} {g0 : List en_E} (hI0 : HI g0) (a1 : Int32) (a2 : Int32) (a3 : Int32) (a4 : Int32) (a5 : Int32) (a6 : Int32) : Ev (d + 3) 178 [.ref 231, .int a1, .int a2, .int a3, .int a4, .int a5, .int a6] (g0, N) (fun w h' => ∃ g', h' = (g', N) ∧ HI g' ∧ Fr F_X11_load_231 A_X11_load_231 g0 g' ∧ ∃ r : Int32, w = some (.int r) ∧ ((-5) ≤ r.toInt ∧ r.toInt ≤ 7) ∧ ((eA g' 233 0).toInt = (eA g0 233 0).toInt ∧ (eA g' 233 4).toInt = (eA g0 233 4).toInt ∧ (eA g' 233 5).toInt = (eA g0 233 5).toInt ∧ (eA g' 233 6).toInt = (eA g0 233 6).toInt)) := by
  have hF0 : Fr F_X11_load_231 A_X11_load_231 g0 g0 := Fr.rf
  refine Ev.mk rfl rfl ⟨Nat.le_of_ble_eq_true rfl, Or.inr (q_rc hI0.1 kx_231 rfl)⟩ ?_
  show At _ none _ _ (0, [(0, .ref 231), (1, .int a1), (2, .int a2), (3, .int a3), (4, .int a4), (5, .int a5), (6, .int a6)], [], (_, _)) _
  refine At.enter rfl ?_
  refine r_aload_n rfl ?_
  refine r_iconst 0 rfl ?_
  refine q_putI (Sh.int hI0.1 kx_231 rfl) rfl ?_
  have hI305 := HI.wI0 hI0 kx_231 rfl (p := 231) (b := 0) (v := 0) rfl
  have hF306 := Fr.wI (p := 231) (b := 0) (v := 0) hF0 rfl
  refine r_iload_n rfl ?_
  refine r_iload rfl ?_
  refine r_iload rfl ?_
  refine r_iload rfl ?_
  refine q_inlS 15 rfl [.int a1, .int a4, .int a5, .int a6] [] (Nat.le_of_ble_eq_true rfl) rfl ?_
  refine Ev.mk rfl rfl ⟨Nat.le_of_ble_eq_true rfl, Or.inl rfl⟩ ?_
  show At _ none _ _ (0, [(0, .int a1), (1, .int a4), (2, .int a5), (3, .int a6)], [], (_, _)) _
  refine At.enter rfl ?_
  refine r_iload_n rfl ?_
  refine q_i2l (fun v307 hv307 => ?_)
  refine r_lconst 1 rfl ?_
  refine r_ldc2 9 rfl ?_
  refine q_inlS 9 rfl [.long v307, .long 1, .long 9] [] (Nat.le_of_ble_eq_true rfl) rfl ?_
  refine Ev.mk rfl rfl ⟨Nat.le_of_ble_eq_true rfl, Or.inl rfl⟩ ?_
  show At _ none _ _ (0, [(0, .long v307), (2, .long 1), (4, .long 9)], [], (_, _)) _
  refine At.enter rfl ?_
  refine r_lload_n rfl ?_
  refine r_lload_n rfl ?_
  refine r_lcmp _ rfl ?_
  refine r_ifs 6 rfl (fun c308 => ?_) (fun c308 => ?_)
  · have c308_ : v307.toInt < 1 := en_j_lt_t c308
    refine At.enter rfl ?_
    refine r_iconst 0 rfl ?_
    refine Ar.fall 18 rfl ?_
    refine At.enter rfl ?_
    refine q_iretz (by decide) ?_
    refine At.enter rfl ?_
    refine r_ift (by decide) ?_
    refine At.enter rfl ?_
    refine r_iconst 0 rfl ?_
    refine Ar.fall 53 rfl ?_
    refine At.enter rfl ?_
    refine q_iretz (by decide) ?_
    refine At.enter rfl ?_
    refine r_iff 18 rfl (by decide) ?_
    refine At.enter rfl ?_
    refine r_aload_n rfl ?_
    refine r_iconst (-1) rfl ?_
    refine r_callV 23 rfl [.ref 231, .int (-1)] [] (Nat.le_of_ble_eq_true rfl) rfl (T_X11_tell_231 _ hI305 (-1) (by decide)) ?_
    rintro _ _ ⟨g309, rfl, hI310, hF311, v312, rfl, hr313⟩
    refine At.sti ?_
    have hF314 := Fr.tr hF306 hF311 rfl rfl
    have zv315 : ((-1) : Int32).toInt = (-1) := rfl
    refine At.enter rfl ?_
    refine r_ireti ?_
    obtain ⟨v316, hv316⟩ : ∃ v, eA g0 233 0 = v := ⟨_, rfl⟩
    have tv316 := congrArg Int32.toInt hv316
    have wv316 := HI.t0 hI0
    rw [hv316] at wv316
    have tv316 := congrArg Int32.toInt hv316
    have x317 := HI.eqA hI310 (p := 233) (j := 0) ((((eA_c (hF311.2.1 233 (by decide))).trans (eA_c gA_sI)).trans hv316))
    obtain ⟨v318, hv318⟩ : ∃ v, eA g0 233 4 = v := ⟨_, rfl⟩
    have wv318 := HI.t4 hI0
    rw [hv318] at wv318
    have tv318 := congrArg Int32.toInt hv318
    have x319 := HI.eqA hI310 (p := 233) (j := 4) ((((eA_c (hF311.2.1 233 (by decide))).trans (eA_c gA_sI)).trans hv318))
    obtain ⟨v320, hv320⟩ : ∃ v, eA g0 233 5 = v := ⟨_, rfl⟩
    have wv320 := HI.t5 hI0
    rw [hv320] at wv320
    have tv320 := congrArg Int32.toInt hv320
    have x321 := HI.eqA hI310 (p := 233) (j := 5) ((((eA_c (hF311.2.1 233 (by decide))).trans (eA_c gA_sI)).trans hv320))
    obtain ⟨v322, hv322⟩ : ∃ v, eA g0 233 6 = v := ⟨_, rfl⟩
    have wv322 := HI.t6 hI0
    rw [hv322] at wv322
    have tv322 := congrArg Int32.toInt hv322
    have x323 := HI.eqA hI310 (p := 233) (j := 6) ((((eA_c (hF311.2.1 233 (by decide))).trans (eA_c gA_sI)).trans hv322))
    have x324 := HI.eqA hI0 (p := 233) (j := 0) (hv316)
    have x325 := HI.eqA hI0 (p := 233) (j := 4) (hv318)
    have x326 := HI.eqA hI0 (p := 233) (j := 5) (hv320)
    have x327 := HI.eqA hI0 (p := 233) (j := 6) (hv322)
    exact ⟨_, rfl, hI310, hF314, _, rfl, by omega, ⟨by omega, by omega, by omega, by omega⟩⟩
  · have c308_ : v307.toInt ≥ 1 := en_j_lt_f c308
    refine At.enter rfl ?_
    refine r_lload_n rfl ?_
    refine r_lload rfl ?_
    refine r_lcmp _ rfl ?_
    refine r_ifs 13 rfl (fun c328 => ?_) (fun c328 => ?_)
    · have c328_ : v307.toInt > 9 := en_j_gt_t c328
      refine At.enter rfl ?_
      refine r_iconst 0 rfl ?_
      refine Ar.fall 18 rfl ?_
      refine At.enter rfl ?_
      refine q_iretz (by decide) ?_
      refine At.enter rfl ?_
      refine r_ift (by decide) ?_
      refine At.enter rfl ?_
      refine r_iconst 0 rfl ?_
      refine Ar.fall 53 rfl ?_
      refine At.enter rfl ?_
      refine q_iretz (by decide) ?_
      refine At.enter rfl ?_
      refine r_iff 18 rfl (by decide) ?_
      refine At.enter rfl ?_
      refine r_aload_n rfl ?_
      refine r_iconst (-1) rfl ?_
      refine r_callV 23 rfl [.ref 231, .int (-1)] [] (Nat.le_of_ble_eq_true rfl) rfl (T_X11_tell_231 _ hI305 (-1) (by decide)) ?_
      rintro _ _ ⟨g329, rfl, hI330, hF331, v332, rfl, hr333⟩
      refine At.sti ?_
      have hF334 := Fr.tr hF306 hF331 rfl rfl
      have zv335 : ((-1) : Int32).toInt = (-1) := rfl
      refine At.enter rfl ?_
      refine r_ireti ?_
      obtain ⟨v336, hv336⟩ : ∃ v, eA g0 233 0 = v := ⟨_, rfl⟩
      have tv336 := congrArg Int32.toInt hv336
      have wv336 := HI.t0 hI0
      rw [hv336] at wv336
      have tv336 := congrArg Int32.toInt hv336
      have x337 := HI.eqA hI330 (p := 233) (j := 0) ((((eA_c (hF331.2.1 233 (by decide))).trans (eA_c gA_sI)).trans hv336))
      obtain ⟨v338, hv338⟩ : ∃ v, eA g0 233 4 = v := ⟨_, rfl⟩
      have wv338 := HI.t4 hI0
      rw [hv338] at wv338
      have tv338 := congrArg Int32.toInt hv338
      have x339 := HI.eqA hI330 (p := 233) (j := 4) ((((eA_c (hF331.2.1 233 (by decide))).trans (eA_c gA_sI)).trans hv338))
      obtain ⟨v340, hv340⟩ : ∃ v, eA g0 233 5 = v := ⟨_, rfl⟩
      have wv340 := HI.t5 hI0
      rw [hv340] at wv340
      have tv340 := congrArg Int32.toInt hv340
      have x341 := HI.eqA hI330 (p := 233) (j := 5) ((((eA_c (hF331.2.1 233 (by decide))).trans (eA_c gA_sI)).trans hv340))
      obtain ⟨v342, hv342⟩ : ∃ v, eA g0 233 6 = v := ⟨_, rfl⟩
      have wv342 := HI.t6 hI0
      rw [hv342] at wv342
      have tv342 := congrArg Int32.toInt hv342
      have x343 := HI.eqA hI330 (p := 233) (j := 6) ((((eA_c (hF331.2.1 233 (by decide))).trans (eA_c gA_sI)).trans hv342))
      have x344 := HI.eqA hI0 (p := 233) (j := 0) (hv336)
      have x345 := HI.eqA hI0 (p := 233) (j := 4) (hv338)
      have x346 := HI.eqA hI0 (p := 233) (j := 5) (hv340)
      have x347 := HI.eqA hI0 (p := 233) (j := 6) (hv342)
      exact ⟨_, rfl, hI330, hF334, _, rfl, by omega, ⟨by omega, by omega, by omega, by omega⟩⟩
    · have c328_ : v307.toInt ≤ 9 := en_j_gt_f c328
      refine At.enter rfl ?_
      refine r_iconst 1 rfl ?_
      refine r_goto ?_
      refine At.enter rfl ?_
      refine q_iretz (by decide) ?_
      refine At.enter rfl ?_
      refine r_iff 12 rfl (by decide) ?_
      refine At.enter rfl ?_
      refine r_iload_n rfl ?_
      refine q_i2l (fun v348 hv348 => ?_)
      refine r_lconst 0 rfl ?_
      refine r_ldc2 99 rfl ?_
      refine q_inlS 21 rfl [.long v348, .long 0, .long 99] [] (Nat.le_of_ble_eq_true rfl) rfl ?_
      refine Ev.mk rfl rfl ⟨Nat.le_of_ble_eq_true rfl, Or.inl rfl⟩ ?_
      show At _ none _ _ (0, [(0, .long v348), (2, .long 0), (4, .long 99)], [], (_, _)) _
      refine At.enter rfl ?_
      refine r_lload_n rfl ?_
      refine r_lload_n rfl ?_
      refine r_lcmp _ rfl ?_
      refine r_ifs 6 rfl (fun c349 => ?_) (fun c349 => ?_)
      · have c349_ : v348.toInt < 0 := en_j_lt_t c349
        refine At.enter rfl ?_
        refine r_iconst 0 rfl ?_
        refine Ar.fall 18 rfl ?_
        refine At.enter rfl ?_
        refine q_iretz (by decide) ?_
        refine At.enter rfl ?_
        refine r_ift (by decide) ?_
        refine At.enter rfl ?_
        refine r_iconst 0 rfl ?_
        refine Ar.fall 53 rfl ?_
        refine At.enter rfl ?_
        refine q_iretz (by decide) ?_
        refine At.enter rfl ?_
        refine r_iff 18 rfl (by decide) ?_
        refine At.enter rfl ?_
        refine r_aload_n rfl ?_
        refine r_iconst (-1) rfl ?_
        refine r_callV 23 rfl [.ref 231, .int (-1)] [] (Nat.le_of_ble_eq_true rfl) rfl (T_X11_tell_231 _ hI305 (-1) (by decide)) ?_
        rintro _ _ ⟨g350, rfl, hI351, hF352, v353, rfl, hr354⟩
        refine At.sti ?_
        have hF355 := Fr.tr hF306 hF352 rfl rfl
        have zv356 : ((-1) : Int32).toInt = (-1) := rfl
        refine At.enter rfl ?_
        refine r_ireti ?_
        obtain ⟨v357, hv357⟩ : ∃ v, eA g0 233 0 = v := ⟨_, rfl⟩
        have tv357 := congrArg Int32.toInt hv357
        have wv357 := HI.t0 hI0
        rw [hv357] at wv357
        have tv357 := congrArg Int32.toInt hv357
        have x358 := HI.eqA hI351 (p := 233) (j := 0) ((((eA_c (hF352.2.1 233 (by decide))).trans (eA_c gA_sI)).trans hv357))
        obtain ⟨v359, hv359⟩ : ∃ v, eA g0 233 4 = v := ⟨_, rfl⟩
        have wv359 := HI.t4 hI0
        rw [hv359] at wv359
        have tv359 := congrArg Int32.toInt hv359
        have x360 := HI.eqA hI351 (p := 233) (j := 4) ((((eA_c (hF352.2.1 233 (by decide))).trans (eA_c gA_sI)).trans hv359))
        obtain ⟨v361, hv361⟩ : ∃ v, eA g0 233 5 = v := ⟨_, rfl⟩
        have wv361 := HI.t5 hI0
        rw [hv361] at wv361
        have tv361 := congrArg Int32.toInt hv361
        have x362 := HI.eqA hI351 (p := 233) (j := 5) ((((eA_c (hF352.2.1 233 (by decide))).trans (eA_c gA_sI)).trans hv361))
        obtain ⟨v363, hv363⟩ : ∃ v, eA g0 233 6 = v := ⟨_, rfl⟩
        have wv363 := HI.t6 hI0
        rw [hv363] at wv363
        have tv363 := congrArg Int32.toInt hv363
        have x364 := HI.eqA hI351 (p := 233) (j := 6) ((((eA_c (hF352.2.1 233 (by decide))).trans (eA_c gA_sI)).trans hv363))
        have x365 := HI.eqA hI0 (p := 233) (j := 0) (hv357)
        have x366 := HI.eqA hI0 (p := 233) (j := 4) (hv359)
        have x367 := HI.eqA hI0 (p := 233) (j := 5) (hv361)
        have x368 := HI.eqA hI0 (p := 233) (j := 6) (hv363)
        exact ⟨_, rfl, hI351, hF355, _, rfl, by omega, ⟨by omega, by omega, by omega, by omega⟩⟩
      · have c349_ : v348.toInt ≥ 0 := en_j_lt_f c349
        refine At.enter rfl ?_
        refine r_lload_n rfl ?_
        refine r_lload rfl ?_
        refine r_lcmp _ rfl ?_
        refine r_ifs 13 rfl (fun c369 => ?_) (fun c369 => ?_)
        · have c369_ : v348.toInt > 99 := en_j_gt_t c369
          refine At.enter rfl ?_
          refine r_iconst 0 rfl ?_
          refine Ar.fall 18 rfl ?_
          refine At.enter rfl ?_
          refine q_iretz (by decide) ?_
          refine At.enter rfl ?_
          refine r_ift (by decide) ?_
          refine At.enter rfl ?_
          refine r_iconst 0 rfl ?_
          refine Ar.fall 53 rfl ?_
          refine At.enter rfl ?_
          refine q_iretz (by decide) ?_
          refine At.enter rfl ?_
          refine r_iff 18 rfl (by decide) ?_
          refine At.enter rfl ?_
          refine r_aload_n rfl ?_
          refine r_iconst (-1) rfl ?_
          refine r_callV 23 rfl [.ref 231, .int (-1)] [] (Nat.le_of_ble_eq_true rfl) rfl (T_X11_tell_231 _ hI305 (-1) (by decide)) ?_
          rintro _ _ ⟨g370, rfl, hI371, hF372, v373, rfl, hr374⟩
          refine At.sti ?_
          have hF375 := Fr.tr hF306 hF372 rfl rfl
          have zv376 : ((-1) : Int32).toInt = (-1) := rfl
          refine At.enter rfl ?_
          refine r_ireti ?_
          obtain ⟨v377, hv377⟩ : ∃ v, eA g0 233 0 = v := ⟨_, rfl⟩
          have tv377 := congrArg Int32.toInt hv377
          have wv377 := HI.t0 hI0
          rw [hv377] at wv377
          have tv377 := congrArg Int32.toInt hv377
          have x378 := HI.eqA hI371 (p := 233) (j := 0) ((((eA_c (hF372.2.1 233 (by decide))).trans (eA_c gA_sI)).trans hv377))
          obtain ⟨v379, hv379⟩ : ∃ v, eA g0 233 4 = v := ⟨_, rfl⟩
          have wv379 := HI.t4 hI0
          rw [hv379] at wv379
          have tv379 := congrArg Int32.toInt hv379
          have x380 := HI.eqA hI371 (p := 233) (j := 4) ((((eA_c (hF372.2.1 233 (by decide))).trans (eA_c gA_sI)).trans hv379))
          obtain ⟨v381, hv381⟩ : ∃ v, eA g0 233 5 = v := ⟨_, rfl⟩
          have wv381 := HI.t5 hI0
          rw [hv381] at wv381
          have tv381 := congrArg Int32.toInt hv381
          have x382 := HI.eqA hI371 (p := 233) (j := 5) ((((eA_c (hF372.2.1 233 (by decide))).trans (eA_c gA_sI)).trans hv381))
          obtain ⟨v383, hv383⟩ : ∃ v, eA g0 233 6 = v := ⟨_, rfl⟩
          have wv383 := HI.t6 hI0
          rw [hv383] at wv383
          have tv383 := congrArg Int32.toInt hv383
          have x384 := HI.eqA hI371 (p := 233) (j := 6) ((((eA_c (hF372.2.1 233 (by decide))).trans (eA_c gA_sI)).trans hv383))
          have x385 := HI.eqA hI0 (p := 233) (j := 0) (hv377)
          have x386 := HI.eqA hI0 (p := 233) (j := 4) (hv379)
          have x387 := HI.eqA hI0 (p := 233) (j := 5) (hv381)
          have x388 := HI.eqA hI0 (p := 233) (j := 6) (hv383)
          exact ⟨_, rfl, hI371, hF375, _, rfl, by omega, ⟨by omega, by omega, by omega, by omega⟩⟩
        · have c369_ : v348.toInt ≤ 99 := en_j_gt_f c369
          refine At.enter rfl ?_
          refine r_iconst 1 rfl ?_
          refine r_goto ?_
          refine At.enter rfl ?_
          refine q_iretz (by decide) ?_
          refine At.enter rfl ?_
          refine r_iff 24 rfl (by decide) ?_
          refine At.enter rfl ?_
          refine r_iload_n rfl ?_
          refine q_i2l (fun v389 hv389 => ?_)
          refine r_lconst 0 rfl ?_
          refine r_ldc2 9 rfl ?_
          refine q_inlS 33 rfl [.long v389, .long 0, .long 9] [] (Nat.le_of_ble_eq_true rfl) rfl ?_
          refine Ev.mk rfl rfl ⟨Nat.le_of_ble_eq_true rfl, Or.inl rfl⟩ ?_
          show At _ none _ _ (0, [(0, .long v389), (2, .long 0), (4, .long 9)], [], (_, _)) _
          refine At.enter rfl ?_
          refine r_lload_n rfl ?_
          refine r_lload_n rfl ?_
          refine r_lcmp _ rfl ?_
          refine r_ifs 6 rfl (fun c390 => ?_) (fun c390 => ?_)
          · have c390_ : v389.toInt < 0 := en_j_lt_t c390
            refine At.enter rfl ?_
            refine r_iconst 0 rfl ?_
            refine Ar.fall 18 rfl ?_
            refine At.enter rfl ?_
            refine q_iretz (by decide) ?_
            refine At.enter rfl ?_
            refine r_ift (by decide) ?_
            refine At.enter rfl ?_
            refine r_iconst 0 rfl ?_
            refine Ar.fall 53 rfl ?_
            refine At.enter rfl ?_
            refine q_iretz (by decide) ?_
            refine At.enter rfl ?_
            refine r_iff 18 rfl (by decide) ?_
            refine At.enter rfl ?_
            refine r_aload_n rfl ?_
            refine r_iconst (-1) rfl ?_
            refine r_callV 23 rfl [.ref 231, .int (-1)] [] (Nat.le_of_ble_eq_true rfl) rfl (T_X11_tell_231 _ hI305 (-1) (by decide)) ?_
            rintro _ _ ⟨g391, rfl, hI392, hF393, v394, rfl, hr395⟩
            refine At.sti ?_
            have hF396 := Fr.tr hF306 hF393 rfl rfl
            have zv397 : ((-1) : Int32).toInt = (-1) := rfl
            refine At.enter rfl ?_
            refine r_ireti ?_
            obtain ⟨v398, hv398⟩ : ∃ v, eA g0 233 0 = v := ⟨_, rfl⟩
            have tv398 := congrArg Int32.toInt hv398
            have wv398 := HI.t0 hI0
            rw [hv398] at wv398
            have tv398 := congrArg Int32.toInt hv398
            have x399 := HI.eqA hI392 (p := 233) (j := 0) ((((eA_c (hF393.2.1 233 (by decide))).trans (eA_c gA_sI)).trans hv398))
            obtain ⟨v400, hv400⟩ : ∃ v, eA g0 233 4 = v := ⟨_, rfl⟩
            have wv400 := HI.t4 hI0
            rw [hv400] at wv400
            have tv400 := congrArg Int32.toInt hv400
            have x401 := HI.eqA hI392 (p := 233) (j := 4) ((((eA_c (hF393.2.1 233 (by decide))).trans (eA_c gA_sI)).trans hv400))
            obtain ⟨v402, hv402⟩ : ∃ v, eA g0 233 5 = v := ⟨_, rfl⟩
            have wv402 := HI.t5 hI0
            rw [hv402] at wv402
            have tv402 := congrArg Int32.toInt hv402
            have x403 := HI.eqA hI392 (p := 233) (j := 5) ((((eA_c (hF393.2.1 233 (by decide))).trans (eA_c gA_sI)).trans hv402))
            obtain ⟨v404, hv404⟩ : ∃ v, eA g0 233 6 = v := ⟨_, rfl⟩
            have wv404 := HI.t6 hI0
            rw [hv404] at wv404
            have tv404 := congrArg Int32.toInt hv404
            have x405 := HI.eqA hI392 (p := 233) (j := 6) ((((eA_c (hF393.2.1 233 (by decide))).trans (eA_c gA_sI)).trans hv404))
            have x406 := HI.eqA hI0 (p := 233) (j := 0) (hv398)
            have x407 := HI.eqA hI0 (p := 233) (j := 4) (hv400)
            have x408 := HI.eqA hI0 (p := 233) (j := 5) (hv402)
            have x409 := HI.eqA hI0 (p := 233) (j := 6) (hv404)
            exact ⟨_, rfl, hI392, hF396, _, rfl, by omega, ⟨by omega, by omega, by omega, by omega⟩⟩
          · have c390_ : v389.toInt ≥ 0 := en_j_lt_f c390
            refine At.enter rfl ?_
            refine r_lload_n rfl ?_
            refine r_lload rfl ?_
            refine r_lcmp _ rfl ?_
            refine r_ifs 13 rfl (fun c410 => ?_) (fun c410 => ?_)
            · have c410_ : v389.toInt > 9 := en_j_gt_t c410
              refine At.enter rfl ?_
              refine r_iconst 0 rfl ?_
              refine Ar.fall 18 rfl ?_
              refine At.enter rfl ?_
              refine q_iretz (by decide) ?_
              refine At.enter rfl ?_
              refine r_ift (by decide) ?_
              refine At.enter rfl ?_
              refine r_iconst 0 rfl ?_
              refine Ar.fall 53 rfl ?_
              refine At.enter rfl ?_
              refine q_iretz (by decide) ?_
              refine At.enter rfl ?_
              refine r_iff 18 rfl (by decide) ?_
              refine At.enter rfl ?_
              refine r_aload_n rfl ?_
              refine r_iconst (-1) rfl ?_
              refine r_callV 23 rfl [.ref 231, .int (-1)] [] (Nat.le_of_ble_eq_true rfl) rfl (T_X11_tell_231 _ hI305 (-1) (by decide)) ?_
              rintro _ _ ⟨g411, rfl, hI412, hF413, v414, rfl, hr415⟩
              refine At.sti ?_
              have hF416 := Fr.tr hF306 hF413 rfl rfl
              have zv417 : ((-1) : Int32).toInt = (-1) := rfl
              refine At.enter rfl ?_
              refine r_ireti ?_
              obtain ⟨v418, hv418⟩ : ∃ v, eA g0 233 0 = v := ⟨_, rfl⟩
              have tv418 := congrArg Int32.toInt hv418
              have wv418 := HI.t0 hI0
              rw [hv418] at wv418
              have tv418 := congrArg Int32.toInt hv418
              have x419 := HI.eqA hI412 (p := 233) (j := 0) ((((eA_c (hF413.2.1 233 (by decide))).trans (eA_c gA_sI)).trans hv418))
              obtain ⟨v420, hv420⟩ : ∃ v, eA g0 233 4 = v := ⟨_, rfl⟩
              have wv420 := HI.t4 hI0
              rw [hv420] at wv420
              have tv420 := congrArg Int32.toInt hv420
              have x421 := HI.eqA hI412 (p := 233) (j := 4) ((((eA_c (hF413.2.1 233 (by decide))).trans (eA_c gA_sI)).trans hv420))
              obtain ⟨v422, hv422⟩ : ∃ v, eA g0 233 5 = v := ⟨_, rfl⟩
              have wv422 := HI.t5 hI0
              rw [hv422] at wv422
              have tv422 := congrArg Int32.toInt hv422
              have x423 := HI.eqA hI412 (p := 233) (j := 5) ((((eA_c (hF413.2.1 233 (by decide))).trans (eA_c gA_sI)).trans hv422))
              obtain ⟨v424, hv424⟩ : ∃ v, eA g0 233 6 = v := ⟨_, rfl⟩
              have wv424 := HI.t6 hI0
              rw [hv424] at wv424
              have tv424 := congrArg Int32.toInt hv424
              have x425 := HI.eqA hI412 (p := 233) (j := 6) ((((eA_c (hF413.2.1 233 (by decide))).trans (eA_c gA_sI)).trans hv424))
              have x426 := HI.eqA hI0 (p := 233) (j := 0) (hv418)
              have x427 := HI.eqA hI0 (p := 233) (j := 4) (hv420)
              have x428 := HI.eqA hI0 (p := 233) (j := 5) (hv422)
              have x429 := HI.eqA hI0 (p := 233) (j := 6) (hv424)
              exact ⟨_, rfl, hI412, hF416, _, rfl, by omega, ⟨by omega, by omega, by omega, by omega⟩⟩
            · have c410_ : v389.toInt ≤ 9 := en_j_gt_f c410
              refine At.enter rfl ?_
              refine r_iconst 1 rfl ?_
              refine r_goto ?_
              refine At.enter rfl ?_
              refine q_iretz (by decide) ?_
              refine At.enter rfl ?_
              refine r_iff 36 rfl (by decide) ?_
              refine At.enter rfl ?_
              refine r_iload_n rfl ?_
              refine q_i2l (fun v430 hv430 => ?_)
              refine r_lconst 0 rfl ?_
              refine r_ldc2 9999 rfl ?_
              refine q_inlS 45 rfl [.long v430, .long 0, .long 9999] [] (Nat.le_of_ble_eq_true rfl) rfl ?_
              refine Ev.mk rfl rfl ⟨Nat.le_of_ble_eq_true rfl, Or.inl rfl⟩ ?_
              show At _ none _ _ (0, [(0, .long v430), (2, .long 0), (4, .long 9999)], [], (_, _)) _
              refine At.enter rfl ?_
              refine r_lload_n rfl ?_
              refine r_lload_n rfl ?_
              refine r_lcmp _ rfl ?_
              refine r_ifs 6 rfl (fun c431 => ?_) (fun c431 => ?_)
              · have c431_ : v430.toInt < 0 := en_j_lt_t c431
                refine At.enter rfl ?_
                refine r_iconst 0 rfl ?_
                refine Ar.fall 18 rfl ?_
                refine At.enter rfl ?_
                refine q_iretz (by decide) ?_
                refine At.enter rfl ?_
                refine r_ift (by decide) ?_
                refine At.enter rfl ?_
                refine r_iconst 0 rfl ?_
                refine Ar.fall 53 rfl ?_
                refine At.enter rfl ?_
                refine q_iretz (by decide) ?_
                refine At.enter rfl ?_
                refine r_iff 18 rfl (by decide) ?_
                refine At.enter rfl ?_
                refine r_aload_n rfl ?_
                refine r_iconst (-1) rfl ?_
                refine r_callV 23 rfl [.ref 231, .int (-1)] [] (Nat.le_of_ble_eq_true rfl) rfl (T_X11_tell_231 _ hI305 (-1) (by decide)) ?_
                rintro _ _ ⟨g432, rfl, hI433, hF434, v435, rfl, hr436⟩
                refine At.sti ?_
                have hF437 := Fr.tr hF306 hF434 rfl rfl
                have zv438 : ((-1) : Int32).toInt = (-1) := rfl
                refine At.enter rfl ?_
                refine r_ireti ?_
                obtain ⟨v439, hv439⟩ : ∃ v, eA g0 233 0 = v := ⟨_, rfl⟩
                have tv439 := congrArg Int32.toInt hv439
                have wv439 := HI.t0 hI0
                rw [hv439] at wv439
                have tv439 := congrArg Int32.toInt hv439
                have x440 := HI.eqA hI433 (p := 233) (j := 0) ((((eA_c (hF434.2.1 233 (by decide))).trans (eA_c gA_sI)).trans hv439))
                obtain ⟨v441, hv441⟩ : ∃ v, eA g0 233 4 = v := ⟨_, rfl⟩
                have wv441 := HI.t4 hI0
                rw [hv441] at wv441
                have tv441 := congrArg Int32.toInt hv441
                have x442 := HI.eqA hI433 (p := 233) (j := 4) ((((eA_c (hF434.2.1 233 (by decide))).trans (eA_c gA_sI)).trans hv441))
                obtain ⟨v443, hv443⟩ : ∃ v, eA g0 233 5 = v := ⟨_, rfl⟩
                have wv443 := HI.t5 hI0
                rw [hv443] at wv443
                have tv443 := congrArg Int32.toInt hv443
                have x444 := HI.eqA hI433 (p := 233) (j := 5) ((((eA_c (hF434.2.1 233 (by decide))).trans (eA_c gA_sI)).trans hv443))
                obtain ⟨v445, hv445⟩ : ∃ v, eA g0 233 6 = v := ⟨_, rfl⟩
                have wv445 := HI.t6 hI0
                rw [hv445] at wv445
                have tv445 := congrArg Int32.toInt hv445
                have x446 := HI.eqA hI433 (p := 233) (j := 6) ((((eA_c (hF434.2.1 233 (by decide))).trans (eA_c gA_sI)).trans hv445))
                have x447 := HI.eqA hI0 (p := 233) (j := 0) (hv439)
                have x448 := HI.eqA hI0 (p := 233) (j := 4) (hv441)
                have x449 := HI.eqA hI0 (p := 233) (j := 5) (hv443)
                have x450 := HI.eqA hI0 (p := 233) (j := 6) (hv445)
                exact ⟨_, rfl, hI433, hF437, _, rfl, by omega, ⟨by omega, by omega, by omega, by omega⟩⟩
              · have c431_ : v430.toInt ≥ 0 := en_j_lt_f c431
                refine At.enter rfl ?_
                refine r_lload_n rfl ?_
                refine r_lload rfl ?_
                refine r_lcmp _ rfl ?_
                refine r_ifs 13 rfl (fun c451 => ?_) (fun c451 => ?_)
                · have c451_ : v430.toInt > 9999 := en_j_gt_t c451
                  refine At.enter rfl ?_
                  refine r_iconst 0 rfl ?_
                  refine Ar.fall 18 rfl ?_
                  refine At.enter rfl ?_
                  refine q_iretz (by decide) ?_
                  refine At.enter rfl ?_
                  refine r_ift (by decide) ?_
                  refine At.enter rfl ?_
                  refine r_iconst 0 rfl ?_
                  refine Ar.fall 53 rfl ?_
                  refine At.enter rfl ?_
                  refine q_iretz (by decide) ?_
                  refine At.enter rfl ?_
                  refine r_iff 18 rfl (by decide) ?_
                  refine At.enter rfl ?_
                  refine r_aload_n rfl ?_
                  refine r_iconst (-1) rfl ?_
                  refine r_callV 23 rfl [.ref 231, .int (-1)] [] (Nat.le_of_ble_eq_true rfl) rfl (T_X11_tell_231 _ hI305 (-1) (by decide)) ?_
                  rintro _ _ ⟨g452, rfl, hI453, hF454, v455, rfl, hr456⟩
                  refine At.sti ?_
                  have hF457 := Fr.tr hF306 hF454 rfl rfl
                  have zv458 : ((-1) : Int32).toInt = (-1) := rfl
                  refine At.enter rfl ?_
                  refine r_ireti ?_
                  obtain ⟨v459, hv459⟩ : ∃ v, eA g0 233 0 = v := ⟨_, rfl⟩
                  have tv459 := congrArg Int32.toInt hv459
                  have wv459 := HI.t0 hI0
                  rw [hv459] at wv459
                  have tv459 := congrArg Int32.toInt hv459
                  have x460 := HI.eqA hI453 (p := 233) (j := 0) ((((eA_c (hF454.2.1 233 (by decide))).trans (eA_c gA_sI)).trans hv459))
                  obtain ⟨v461, hv461⟩ : ∃ v, eA g0 233 4 = v := ⟨_, rfl⟩
                  have wv461 := HI.t4 hI0
                  rw [hv461] at wv461
                  have tv461 := congrArg Int32.toInt hv461
                  have x462 := HI.eqA hI453 (p := 233) (j := 4) ((((eA_c (hF454.2.1 233 (by decide))).trans (eA_c gA_sI)).trans hv461))
                  obtain ⟨v463, hv463⟩ : ∃ v, eA g0 233 5 = v := ⟨_, rfl⟩
                  have wv463 := HI.t5 hI0
                  rw [hv463] at wv463
                  have tv463 := congrArg Int32.toInt hv463
                  have x464 := HI.eqA hI453 (p := 233) (j := 5) ((((eA_c (hF454.2.1 233 (by decide))).trans (eA_c gA_sI)).trans hv463))
                  obtain ⟨v465, hv465⟩ : ∃ v, eA g0 233 6 = v := ⟨_, rfl⟩
                  have wv465 := HI.t6 hI0
                  rw [hv465] at wv465
                  have tv465 := congrArg Int32.toInt hv465
                  have x466 := HI.eqA hI453 (p := 233) (j := 6) ((((eA_c (hF454.2.1 233 (by decide))).trans (eA_c gA_sI)).trans hv465))
                  have x467 := HI.eqA hI0 (p := 233) (j := 0) (hv459)
                  have x468 := HI.eqA hI0 (p := 233) (j := 4) (hv461)
                  have x469 := HI.eqA hI0 (p := 233) (j := 5) (hv463)
                  have x470 := HI.eqA hI0 (p := 233) (j := 6) (hv465)
                  exact ⟨_, rfl, hI453, hF457, _, rfl, by omega, ⟨by omega, by omega, by omega, by omega⟩⟩
                · have c451_ : v430.toInt ≤ 9999 := en_j_gt_f c451
                  refine At.enter rfl ?_
                  refine r_iconst 1 rfl ?_
                  refine r_goto ?_
                  refine At.enter rfl ?_
                  refine q_iretz (by decide) ?_
                  refine At.enter rfl ?_
                  refine r_iff 48 rfl (by decide) ?_
                  refine At.enter rfl ?_
                  refine r_iconst 1 rfl ?_
                  refine r_goto ?_
                  refine At.enter rfl ?_
                  refine q_iretz (by decide) ?_
                  refine At.enter rfl ?_
                  refine r_ift (by decide) ?_
                  refine At.enter rfl ?_
                  refine r_aload_n rfl ?_
                  refine r_iload_n rfl ?_
                  refine q_inlV 29 rfl [.ref 231, .int a2] [] (Nat.le_of_ble_eq_true rfl) rfl ?_
                  refine Ev.mk rfl rfl ⟨Nat.le_of_ble_eq_true rfl, Or.inr (q_rc hI305.1 kx_231 rfl)⟩ ?_
                  show At _ none _ _ (0, [(0, .ref 231), (1, .int a2)], [], (_, _)) _
                  refine At.enter rfl ?_
                  refine r_iload_n rfl ?_
                  refine q_i2l (fun v471 hv471 => ?_)
                  refine r_lconst 0 rfl ?_
                  refine r_aload_n rfl ?_
                  refine q_getR (Sh.ref hI305.1 kx_231 rfl) ?_
                  refine r_iconst 0 rfl ?_
                  obtain ⟨v472, hv472⟩ : ∃ v, eA g0 233 0 = v := ⟨_, rfl⟩
                  have tv472 := congrArg Int32.toInt hv472
                  have wv472 := HI.t0 hI0
                  rw [hv472] at wv472
                  refine q_iald (Sh.arr hI305.1 ka_233) 0 rfl (by decide) v472 ((eA_c (gA_sI)).trans hv472) ?_
                  refine q_i2l (fun v473 hv473 => ?_)
                  refine r_lconst 1 rfl ?_
                  refine q_lsub (v473.toInt - 1) rfl (by omega) (fun v474 hv474 => ?_)
                  refine q_inlS 15 rfl [.long v471, .long 0, .long v474] [] (Nat.le_of_ble_eq_true rfl) rfl ?_
                  refine Ev.mk rfl rfl ⟨Nat.le_of_ble_eq_true rfl, Or.inl rfl⟩ ?_
                  show At _ none _ _ (0, [(0, .long v471), (2, .long 0), (4, .long v474)], [], (_, _)) _
                  refine At.enter rfl ?_
                  refine r_lload_n rfl ?_
                  refine r_lload_n rfl ?_
                  refine r_lcmp _ rfl ?_
                  refine r_ifs 6 rfl (fun c475 => ?_) (fun c475 => ?_)
                  · have c475_ : v471.toInt < 0 := en_j_lt_t c475
                    refine At.enter rfl ?_
                    refine r_iconst 0 rfl ?_
                    refine Ar.fall 18 rfl ?_
                    refine At.enter rfl ?_
                    refine q_iretz (by decide) ?_
                    refine At.enter rfl ?_
                    refine q_iretz (by decide) ?_
                    refine At.enter rfl ?_
                    refine r_ift (by decide) ?_
                    refine At.enter rfl ?_
                    refine r_aload_n rfl ?_
                    refine r_bipush (-2) rfl ?_
                    refine r_callV 46 rfl [.ref 231, .int (-2)] [] (Nat.le_of_ble_eq_true rfl) rfl (T_X11_tell_231 _ hI305 (-2) (by decide)) ?_
                    rintro _ _ ⟨g476, rfl, hI477, hF478, v479, rfl, hr480⟩
                    refine At.sti ?_
                    have hF481 := Fr.tr hF306 hF478 rfl rfl
                    have zv482 : ((-2) : Int32).toInt = (-2) := rfl
                    refine At.enter rfl ?_
                    refine r_ireti ?_
                    have x483 := HI.eqA hI477 (p := 233) (j := 0) ((((eA_c (hF478.2.1 233 (by decide))).trans (eA_c gA_sI)).trans hv472))
                    obtain ⟨v484, hv484⟩ : ∃ v, eA g0 233 4 = v := ⟨_, rfl⟩
                    have wv484 := HI.t4 hI0
                    rw [hv484] at wv484
                    have tv484 := congrArg Int32.toInt hv484
                    have x485 := HI.eqA hI477 (p := 233) (j := 4) ((((eA_c (hF478.2.1 233 (by decide))).trans (eA_c gA_sI)).trans hv484))
                    obtain ⟨v486, hv486⟩ : ∃ v, eA g0 233 5 = v := ⟨_, rfl⟩
                    have wv486 := HI.t5 hI0
                    rw [hv486] at wv486
                    have tv486 := congrArg Int32.toInt hv486
                    have x487 := HI.eqA hI477 (p := 233) (j := 5) ((((eA_c (hF478.2.1 233 (by decide))).trans (eA_c gA_sI)).trans hv486))
                    obtain ⟨v488, hv488⟩ : ∃ v, eA g0 233 6 = v := ⟨_, rfl⟩
                    have wv488 := HI.t6 hI0
                    rw [hv488] at wv488
                    have tv488 := congrArg Int32.toInt hv488
                    have x489 := HI.eqA hI477 (p := 233) (j := 6) ((((eA_c (hF478.2.1 233 (by decide))).trans (eA_c gA_sI)).trans hv488))
                    have x490 := HI.eqA hI0 (p := 233) (j := 0) (hv472)
                    have x491 := HI.eqA hI0 (p := 233) (j := 4) (hv484)
                    have x492 := HI.eqA hI0 (p := 233) (j := 5) (hv486)
                    have x493 := HI.eqA hI0 (p := 233) (j := 6) (hv488)
                    exact ⟨_, rfl, hI477, hF481, _, rfl, by omega, ⟨by omega, by omega, by omega, by omega⟩⟩
                  · have c475_ : v471.toInt ≥ 0 := en_j_lt_f c475
                    refine At.enter rfl ?_
                    refine r_lload_n rfl ?_
                    refine r_lload rfl ?_
                    refine r_lcmp _ rfl ?_
                    refine r_ifs 13 rfl (fun c494 => ?_) (fun c494 => ?_)
                    · have c494_ : v471.toInt > v474.toInt := en_j_gt_t c494
                      refine At.enter rfl ?_
                      refine r_iconst 0 rfl ?_
                      refine Ar.fall 18 rfl ?_
                      refine At.enter rfl ?_
                      refine q_iretz (by decide) ?_
                      refine At.enter rfl ?_
                      refine q_iretz (by decide) ?_
                      refine At.enter rfl ?_
                      refine r_ift (by decide) ?_
                      refine At.enter rfl ?_
                      refine r_aload_n rfl ?_
                      refine r_bipush (-2) rfl ?_
                      refine r_callV 46 rfl [.ref 231, .int (-2)] [] (Nat.le_of_ble_eq_true rfl) rfl (T_X11_tell_231 _ hI305 (-2) (by decide)) ?_
                      rintro _ _ ⟨g495, rfl, hI496, hF497, v498, rfl, hr499⟩
                      refine At.sti ?_
                      have hF500 := Fr.tr hF306 hF497 rfl rfl
                      have zv501 : ((-2) : Int32).toInt = (-2) := rfl
                      refine At.enter rfl ?_
                      refine r_ireti ?_
                      have x502 := HI.eqA hI496 (p := 233) (j := 0) ((((eA_c (hF497.2.1 233 (by decide))).trans (eA_c gA_sI)).trans hv472))
                      obtain ⟨v503, hv503⟩ : ∃ v, eA g0 233 4 = v := ⟨_, rfl⟩
                      have wv503 := HI.t4 hI0
                      rw [hv503] at wv503
                      have tv503 := congrArg Int32.toInt hv503
                      have x504 := HI.eqA hI496 (p := 233) (j := 4) ((((eA_c (hF497.2.1 233 (by decide))).trans (eA_c gA_sI)).trans hv503))
                      obtain ⟨v505, hv505⟩ : ∃ v, eA g0 233 5 = v := ⟨_, rfl⟩
                      have wv505 := HI.t5 hI0
                      rw [hv505] at wv505
                      have tv505 := congrArg Int32.toInt hv505
                      have x506 := HI.eqA hI496 (p := 233) (j := 5) ((((eA_c (hF497.2.1 233 (by decide))).trans (eA_c gA_sI)).trans hv505))
                      obtain ⟨v507, hv507⟩ : ∃ v, eA g0 233 6 = v := ⟨_, rfl⟩
                      have wv507 := HI.t6 hI0
                      rw [hv507] at wv507
                      have tv507 := congrArg Int32.toInt hv507
                      have x508 := HI.eqA hI496 (p := 233) (j := 6) ((((eA_c (hF497.2.1 233 (by decide))).trans (eA_c gA_sI)).trans hv507))
                      have x509 := HI.eqA hI0 (p := 233) (j := 0) (hv472)
                      have x510 := HI.eqA hI0 (p := 233) (j := 4) (hv503)
                      have x511 := HI.eqA hI0 (p := 233) (j := 5) (hv505)
                      have x512 := HI.eqA hI0 (p := 233) (j := 6) (hv507)
                      exact ⟨_, rfl, hI496, hF500, _, rfl, by omega, ⟨by omega, by omega, by omega, by omega⟩⟩
                    · have c494_ : v471.toInt ≤ v474.toInt := en_j_gt_f c494
                      refine At.enter rfl ?_
                      refine r_iconst 1 rfl ?_
                      refine r_goto ?_
                      refine At.enter rfl ?_
                      refine q_iretz (by decide) ?_
                      refine At.enter rfl ?_
                      refine q_iretz (by decide) ?_
                      refine At.enter rfl ?_
                      refine r_iff 32 rfl (by decide) ?_
                      refine At.enter rfl ?_
                      refine r_aload_n rfl ?_
                      refine r_iload_n rfl ?_
                      refine q_inlV 37 rfl [.ref 231, .int a3] [] (Nat.le_of_ble_eq_true rfl) rfl ?_
                      refine Ev.mk rfl rfl ⟨Nat.le_of_ble_eq_true rfl, Or.inr (q_rc hI305.1 kx_231 rfl)⟩ ?_
                      show At _ none _ _ (0, [(0, .ref 231), (1, .int a3)], [], (_, _)) _
                      refine At.enter rfl ?_
                      refine r_iload_n rfl ?_
                      refine q_i2l (fun v513 hv513 => ?_)
                      refine r_lconst 0 rfl ?_
                      refine r_aload_n rfl ?_
                      refine q_getR (Sh.ref hI305.1 kx_231 rfl) ?_
                      refine r_iconst 0 rfl ?_
                      refine q_iald (Sh.arr hI305.1 ka_233) 0 rfl (by decide) v472 ((eA_c (gA_sI)).trans hv472) ?_
                      refine q_i2l (fun v514 hv514 => ?_)
                      refine r_lconst 1 rfl ?_
                      refine q_lsub (v514.toInt - 1) rfl (by omega) (fun v515 hv515 => ?_)
                      refine q_inlS 15 rfl [.long v513, .long 0, .long v515] [] (Nat.le_of_ble_eq_true rfl) rfl ?_
                      refine Ev.mk rfl rfl ⟨Nat.le_of_ble_eq_true rfl, Or.inl rfl⟩ ?_
                      show At _ none _ _ (0, [(0, .long v513), (2, .long 0), (4, .long v515)], [], (_, _)) _
                      refine At.enter rfl ?_
                      refine r_lload_n rfl ?_
                      refine r_lload_n rfl ?_
                      refine r_lcmp _ rfl ?_
                      refine r_ifs 6 rfl (fun c516 => ?_) (fun c516 => ?_)
                      · have c516_ : v513.toInt < 0 := en_j_lt_t c516
                        refine At.enter rfl ?_
                        refine r_iconst 0 rfl ?_
                        refine Ar.fall 18 rfl ?_
                        refine At.enter rfl ?_
                        refine q_iretz (by decide) ?_
                        refine At.enter rfl ?_
                        refine q_iretz (by decide) ?_
                        refine At.enter rfl ?_
                        refine r_iff 40 rfl (by decide) ?_
                        refine At.enter rfl ?_
                        refine r_aload_n rfl ?_
                        refine r_bipush (-2) rfl ?_
                        refine r_callV 46 rfl [.ref 231, .int (-2)] [] (Nat.le_of_ble_eq_true rfl) rfl (T_X11_tell_231 _ hI305 (-2) (by decide)) ?_
                        rintro _ _ ⟨g517, rfl, hI518, hF519, v520, rfl, hr521⟩
                        refine At.sti ?_
                        have hF522 := Fr.tr hF306 hF519 rfl rfl
                        have zv523 : ((-2) : Int32).toInt = (-2) := rfl
                        refine At.enter rfl ?_
                        refine r_ireti ?_
                        have x524 := HI.eqA hI518 (p := 233) (j := 0) ((((eA_c (hF519.2.1 233 (by decide))).trans (eA_c gA_sI)).trans hv472))
                        obtain ⟨v525, hv525⟩ : ∃ v, eA g0 233 4 = v := ⟨_, rfl⟩
                        have wv525 := HI.t4 hI0
                        rw [hv525] at wv525
                        have tv525 := congrArg Int32.toInt hv525
                        have x526 := HI.eqA hI518 (p := 233) (j := 4) ((((eA_c (hF519.2.1 233 (by decide))).trans (eA_c gA_sI)).trans hv525))
                        obtain ⟨v527, hv527⟩ : ∃ v, eA g0 233 5 = v := ⟨_, rfl⟩
                        have wv527 := HI.t5 hI0
                        rw [hv527] at wv527
                        have tv527 := congrArg Int32.toInt hv527
                        have x528 := HI.eqA hI518 (p := 233) (j := 5) ((((eA_c (hF519.2.1 233 (by decide))).trans (eA_c gA_sI)).trans hv527))
                        obtain ⟨v529, hv529⟩ : ∃ v, eA g0 233 6 = v := ⟨_, rfl⟩
                        have wv529 := HI.t6 hI0
                        rw [hv529] at wv529
                        have tv529 := congrArg Int32.toInt hv529
                        have x530 := HI.eqA hI518 (p := 233) (j := 6) ((((eA_c (hF519.2.1 233 (by decide))).trans (eA_c gA_sI)).trans hv529))
                        have x531 := HI.eqA hI0 (p := 233) (j := 0) (hv472)
                        have x532 := HI.eqA hI0 (p := 233) (j := 4) (hv525)
                        have x533 := HI.eqA hI0 (p := 233) (j := 5) (hv527)
                        have x534 := HI.eqA hI0 (p := 233) (j := 6) (hv529)
                        exact ⟨_, rfl, hI518, hF522, _, rfl, by omega, ⟨by omega, by omega, by omega, by omega⟩⟩
                      · have c516_ : v513.toInt ≥ 0 := en_j_lt_f c516
                        refine At.enter rfl ?_
                        refine r_lload_n rfl ?_
                        refine r_lload rfl ?_
                        refine r_lcmp _ rfl ?_
                        refine r_ifs 13 rfl (fun c535 => ?_) (fun c535 => ?_)
                        · have c535_ : v513.toInt > v515.toInt := en_j_gt_t c535
                          refine At.enter rfl ?_
                          refine r_iconst 0 rfl ?_
                          refine Ar.fall 18 rfl ?_
                          refine At.enter rfl ?_
                          refine q_iretz (by decide) ?_
                          refine At.enter rfl ?_
                          refine q_iretz (by decide) ?_
                          refine At.enter rfl ?_
                          refine r_iff 40 rfl (by decide) ?_
                          refine At.enter rfl ?_
                          refine r_aload_n rfl ?_
                          refine r_bipush (-2) rfl ?_
                          refine r_callV 46 rfl [.ref 231, .int (-2)] [] (Nat.le_of_ble_eq_true rfl) rfl (T_X11_tell_231 _ hI305 (-2) (by decide)) ?_
                          rintro _ _ ⟨g536, rfl, hI537, hF538, v539, rfl, hr540⟩
                          refine At.sti ?_
                          have hF541 := Fr.tr hF306 hF538 rfl rfl
                          have zv542 : ((-2) : Int32).toInt = (-2) := rfl
                          refine At.enter rfl ?_
                          refine r_ireti ?_
                          have x543 := HI.eqA hI537 (p := 233) (j := 0) ((((eA_c (hF538.2.1 233 (by decide))).trans (eA_c gA_sI)).trans hv472))
                          obtain ⟨v544, hv544⟩ : ∃ v, eA g0 233 4 = v := ⟨_, rfl⟩
                          have wv544 := HI.t4 hI0
                          rw [hv544] at wv544
                          have tv544 := congrArg Int32.toInt hv544
                          have x545 := HI.eqA hI537 (p := 233) (j := 4) ((((eA_c (hF538.2.1 233 (by decide))).trans (eA_c gA_sI)).trans hv544))
                          obtain ⟨v546, hv546⟩ : ∃ v, eA g0 233 5 = v := ⟨_, rfl⟩
                          have wv546 := HI.t5 hI0
                          rw [hv546] at wv546
                          have tv546 := congrArg Int32.toInt hv546
                          have x547 := HI.eqA hI537 (p := 233) (j := 5) ((((eA_c (hF538.2.1 233 (by decide))).trans (eA_c gA_sI)).trans hv546))
                          obtain ⟨v548, hv548⟩ : ∃ v, eA g0 233 6 = v := ⟨_, rfl⟩
                          have wv548 := HI.t6 hI0
                          rw [hv548] at wv548
                          have tv548 := congrArg Int32.toInt hv548
                          have x549 := HI.eqA hI537 (p := 233) (j := 6) ((((eA_c (hF538.2.1 233 (by decide))).trans (eA_c gA_sI)).trans hv548))
                          have x550 := HI.eqA hI0 (p := 233) (j := 0) (hv472)
                          have x551 := HI.eqA hI0 (p := 233) (j := 4) (hv544)
                          have x552 := HI.eqA hI0 (p := 233) (j := 5) (hv546)
                          have x553 := HI.eqA hI0 (p := 233) (j := 6) (hv548)
                          exact ⟨_, rfl, hI537, hF541, _, rfl, by omega, ⟨by omega, by omega, by omega, by omega⟩⟩
                        · have c535_ : v513.toInt ≤ v515.toInt := en_j_gt_f c535
                          refine At.enter rfl ?_
                          refine r_iconst 1 rfl ?_
                          refine r_goto ?_
                          refine At.enter rfl ?_
                          refine q_iretz (by decide) ?_
                          refine At.enter rfl ?_
                          refine q_iretz (by decide) ?_
                          refine At.enter rfl ?_
                          refine r_ift (by decide) ?_
                          refine At.enter rfl ?_
                          refine r_aload_n rfl ?_
                          refine q_getR (Sh.ref hI305.1 kx_231 rfl) ?_
                          refine r_iconst 1 rfl ?_
                          obtain ⟨v554, hv554⟩ : ∃ v, eA g0 233 1 = v := ⟨_, rfl⟩
                          have tv554 := congrArg Int32.toInt hv554
                          have wv554 := HI.t1 hI0
                          rw [hv554] at wv554
                          refine q_iald (Sh.arr hI305.1 ka_233) 1 rfl (by decide) v554 ((eA_c (gA_sI)).trans hv554) ?_
                          refine r_bipush 8 rfl ?_
                          refine r_ics 58 rfl (fun c555 => ?_) (fun c555 => ?_)
                          · have c555_ : v554.toInt ≠ 8 := en_i_ne_t c555
                            refine At.enter rfl ?_
                            refine r_aload_n rfl ?_
                            refine r_iload_n rfl ?_
                            refine r_iload_n rfl ?_
                            refine r_iload_n rfl ?_
                            refine r_iload rfl ?_
                            refine r_iload rfl ?_
                            refine r_iload rfl ?_
                            refine q_inlV 78 rfl [.ref 231, .int a1, .int a2, .int a3, .int a4, .int a5, .int a6] [] (Nat.le_of_ble_eq_true rfl) rfl ?_
                            refine Ev.mk rfl rfl ⟨Nat.le_of_ble_eq_true rfl, Or.inr (q_rc hI305.1 kx_231 rfl)⟩ ?_
                            show At _ none _ _ (0, [(0, .ref 231), (1, .int a1), (2, .int a2), (3, .int a3), (4, .int a4), (5, .int a5), (6, .int a6)], [], (_, _)) _
                            refine At.enter rfl ?_
                            refine r_bipush 46 rfl ?_
                            refine r_bipush 6 rfl ?_
                            refine r_aload_n rfl ?_
                            refine q_getR (Sh.ref hI305.1 kx_231 rfl) ?_
                            refine r_iconst 1 rfl ?_
                            refine q_iald (Sh.arr hI305.1 ka_233) 1 rfl (by decide) v554 ((eA_c (gA_sI)).trans hv554) ?_
                            refine q_imul (6 * v554.toInt) rfl (by omega) (fun v556 hv556 => ?_)
                            refine q_iadd (46 + v556.toInt) rfl (by omega) (fun v557 hv557 => ?_)
                            refine r_istore ([(7, .int v557), (0, .ref 231), (1, .int a1), (2, .int a2), (3, .int a3), (4, .int a4), (5, .int a5), (6, .int a6)]) rfl ?_
                            refine r_aload_n rfl ?_
                            refine q_getR (Sh.ref hI305.1 kx_231 rfl) ?_
                            refine r_iload rfl ?_
                            refine r_iload_n rfl ?_
                            refine q_iast (Sh.arr hI305.1 ka_233) ((6 * v554.toInt + 46)) (by omega) (by omega) ?_
                            have hI558 := HI.wl hI305 (j := (6 * v554.toInt + 46)) (v := a1) (v554.toInt) 0 (by omega) (by decide) (by omega) (by omega)
                            have hF559 := Fr.wA (p := 233) (j := (6 * v554.toInt + 46)) (v := a1) hF306 rfl
                            refine r_aload_n rfl ?_
                            refine q_getR (Sh.ref hI558.1 kx_231 rfl) ?_
                            refine r_iload rfl ?_
                            refine r_iconst 1 rfl ?_
                            refine q_iadd (v557.toInt + 1) rfl (by omega) (fun v560 hv560 => ?_)
                            refine r_iload_n rfl ?_
                            refine q_iast (Sh.arr hI558.1 ka_233) ((6 * v554.toInt + 47)) (by omega) (by omega) ?_
                            have x563 := HI.eqA hI558 (p := 233) (j := 0) ((((eA_sA_ne hI305.1 ka_233 (by first | decide | omega) (by first | decide | omega) (by first | decide | omega)).trans (eA_c gA_sI)).trans hv472))
                            have hI561 := HI.wl hI558 (j := (6 * v554.toInt + 47)) (v := a2) (v554.toInt) 1 (by omega) (by decide) (by omega) (by omega)
                            have hF562 := Fr.wA (p := 233) (j := (6 * v554.toInt + 47)) (v := a2) hF559 rfl
                            refine r_aload_n rfl ?_
                            refine q_getR (Sh.ref hI561.1 kx_231 rfl) ?_
                            refine r_iload rfl ?_
                            refine r_iconst 2 rfl ?_
                            refine q_iadd (v557.toInt + 2) rfl (by omega) (fun v564 hv564 => ?_)
                            refine r_iload_n rfl ?_
                            refine q_iast (Sh.arr hI561.1 ka_233) ((6 * v554.toInt + 48)) (by omega) (by omega) ?_
                            have x567 := HI.eqA hI561 (p := 233) (j := 0) ((((eA_sA_ne hI558.1 ka_233 (by first | decide | omega) (by first | decide | omega) (by first | decide | omega)).trans ((eA_sA_ne hI305.1 ka_233 (by first | decide | omega) (by first | decide | omega) (by first | decide | omega)).trans (eA_c gA_sI))).trans hv472))
                            have hI565 := HI.wl hI561 (j := (6 * v554.toInt + 48)) (v := a3) (v554.toInt) 2 (by omega) (by decide) (by omega) (by omega)
                            have hF566 := Fr.wA (p := 233) (j := (6 * v554.toInt + 48)) (v := a3) hF562 rfl
                            refine r_aload_n rfl ?_
                            refine q_getR (Sh.ref hI565.1 kx_231 rfl) ?_
                            refine r_iload rfl ?_
                            refine r_iconst 3 rfl ?_
                            refine q_iadd (v557.toInt + 3) rfl (by omega) (fun v568 hv568 => ?_)
                            refine r_iload rfl ?_
                            refine q_iast (Sh.arr hI565.1 ka_233) ((6 * v554.toInt + 49)) (by omega) (by omega) ?_
                            have hI569 := HI.wl hI565 (j := (6 * v554.toInt + 49)) (v := a4) (v554.toInt) 3 (by omega) (by decide) (by omega) (by omega)
                            have hF570 := Fr.wA (p := 233) (j := (6 * v554.toInt + 49)) (v := a4) hF566 rfl
                            refine r_aload_n rfl ?_
                            refine q_getR (Sh.ref hI569.1 kx_231 rfl) ?_
                            refine r_iload rfl ?_
                            refine r_iconst 4 rfl ?_
                            refine q_iadd (v557.toInt + 4) rfl (by omega) (fun v571 hv571 => ?_)
                            refine r_iload rfl ?_
                            refine q_iast (Sh.arr hI569.1 ka_233) ((6 * v554.toInt + 50)) (by omega) (by omega) ?_
                            have hI572 := HI.wl hI569 (j := (6 * v554.toInt + 50)) (v := a5) (v554.toInt) 4 (by omega) (by decide) (by omega) (by omega)
                            have hF573 := Fr.wA (p := 233) (j := (6 * v554.toInt + 50)) (v := a5) hF570 rfl
                            refine r_aload_n rfl ?_
                            refine q_getR (Sh.ref hI572.1 kx_231 rfl) ?_
                            refine r_iload rfl ?_
                            refine r_iconst 5 rfl ?_
                            refine q_iadd (v557.toInt + 5) rfl (by omega) (fun v574 hv574 => ?_)
                            refine r_iload rfl ?_
                            refine q_iast (Sh.arr hI572.1 ka_233) ((6 * v554.toInt + 51)) (by omega) (by omega) ?_
                            have hI575 := HI.wl hI572 (j := (6 * v554.toInt + 51)) (v := a6) (v554.toInt) 5 (by omega) (by decide) (by omega) (by omega)
                            have hF576 := Fr.wA (p := 233) (j := (6 * v554.toInt + 51)) (v := a6) hF573 rfl
                            refine r_aload_n rfl ?_
                            refine q_getR (Sh.ref hI575.1 kx_231 rfl) ?_
                            refine r_iconst 1 rfl ?_
                            refine r_dup2 ⟨rfl, rfl⟩ ?_
                            refine q_iald (Sh.arr hI575.1 ka_233) 1 rfl (by decide) v554 (((eA_sA_ne hI572.1 ka_233 (by first | decide | omega) (by first | decide | omega) (by first | decide | omega)).trans ((eA_sA_ne hI569.1 ka_233 (by first | decide | omega) (by first | decide | omega) (by first | decide | omega)).trans ((eA_sA_ne hI565.1 ka_233 (by first | decide | omega) (by first | decide | omega) (by first | decide | omega)).trans ((eA_sA_ne hI561.1 ka_233 (by first | decide | omega) (by first | decide | omega) (by first | decide | omega)).trans ((eA_sA_ne hI558.1 ka_233 (by first | decide | omega) (by first | decide | omega) (by first | decide | omega)).trans ((eA_sA_ne hI305.1 ka_233 (by first | decide | omega) (by first | decide | omega) (by first | decide | omega)).trans (eA_c gA_sI))))))).trans hv554) ?_
                            refine r_iconst 1 rfl ?_
                            refine q_iadd (v554.toInt + 1) rfl (by omega) (fun v577 hv577 => ?_)
                            refine q_iast (Sh.arr hI575.1 ka_233) (1) rfl (by decide) ?_
                            have x580 := HI.eqA hI575 (p := 233) (j := 0) ((((eA_sA_ne hI572.1 ka_233 (by first | decide | omega) (by first | decide | omega) (by first | decide | omega)).trans ((eA_sA_ne hI569.1 ka_233 (by first | decide | omega) (by first | decide | omega) (by first | decide | omega)).trans ((eA_sA_ne hI565.1 ka_233 (by first | decide | omega) (by first | decide | omega) (by first | decide | omega)).trans ((eA_sA_ne hI561.1 ka_233 (by first | decide | omega) (by first | decide | omega) (by first | decide | omega)).trans ((eA_sA_ne hI558.1 ka_233 (by first | decide | omega) (by first | decide | omega) (by first | decide | omega)).trans ((eA_sA_ne hI305.1 ka_233 (by first | decide | omega) (by first | decide | omega) (by first | decide | omega)).trans (eA_c gA_sI))))))).trans hv472))
                            have x581 := HI.eqA hI575 (p := 233) (j := 1) ((((eA_sA_ne hI572.1 ka_233 (by first | decide | omega) (by first | decide | omega) (by first | decide | omega)).trans ((eA_sA_ne hI569.1 ka_233 (by first | decide | omega) (by first | decide | omega) (by first | decide | omega)).trans ((eA_sA_ne hI565.1 ka_233 (by first | decide | omega) (by first | decide | omega) (by first | decide | omega)).trans ((eA_sA_ne hI561.1 ka_233 (by first | decide | omega) (by first | decide | omega) (by first | decide | omega)).trans ((eA_sA_ne hI558.1 ka_233 (by first | decide | omega) (by first | decide | omega) (by first | decide | omega)).trans ((eA_sA_ne hI305.1 ka_233 (by first | decide | omega) (by first | decide | omega) (by first | decide | omega)).trans (eA_c gA_sI))))))).trans hv554))
                            have yv582 := HI.lt hI575
                            have hI578 := HI.wt hI575 (j := 1) (v := v577) (by omega) (by omega)
                            have hF579 := Fr.wA (p := 233) (j := 1) (v := v577) hF576 rfl
                            refine q_vret ?_
                            refine At.enter rfl ?_
                            refine r_aload_n rfl ?_
                            refine r_aload_n rfl ?_
                            refine q_getR (Sh.ref hI578.1 kx_231 rfl) ?_
                            refine r_iconst 1 rfl ?_
                            refine q_iald (Sh.arr hI578.1 ka_233) 1 rfl (by decide) v577 (eA_sA_eq hI575.1 ka_233 (by first | rfl | omega) (by first | decide | omega) (by first | decide | omega)) ?_
                            refine r_iconst 1 rfl ?_
                            refine q_isub (v577.toInt - 1) rfl (by omega) (fun v583 hv583 => ?_)
                            refine r_callV 90 rfl [.ref 231, .int v583] [] (Nat.le_of_ble_eq_true rfl) rfl (T_X11_tell_231 _ hI578 v583 (by omega)) ?_
                            rintro _ _ ⟨g584, rfl, hI585, hF586, v587, rfl, hr588⟩
                            refine At.sti ?_
                            have hF589 := Fr.tr hF579 hF586 rfl rfl
                            refine At.enter rfl ?_
                            refine r_ireti ?_
                            have x590 := HI.eqA hI585 (p := 233) (j := 0) ((((eA_c (hF586.2.1 233 (by decide))).trans ((eA_sA_ne hI575.1 ka_233 (by first | decide | omega) (by first | decide | omega) (by first | decide | omega)).trans ((eA_sA_ne hI572.1 ka_233 (by first | decide | omega) (by first | decide | omega) (by first | decide | omega)).trans ((eA_sA_ne hI569.1 ka_233 (by first | decide | omega) (by first | decide | omega) (by first | decide | omega)).trans ((eA_sA_ne hI565.1 ka_233 (by first | decide | omega) (by first | decide | omega) (by first | decide | omega)).trans ((eA_sA_ne hI561.1 ka_233 (by first | decide | omega) (by first | decide | omega) (by first | decide | omega)).trans ((eA_sA_ne hI558.1 ka_233 (by first | decide | omega) (by first | decide | omega) (by first | decide | omega)).trans ((eA_sA_ne hI305.1 ka_233 (by first | decide | omega) (by first | decide | omega) (by first | decide | omega)).trans (eA_c gA_sI))))))))).trans hv472))
                            obtain ⟨v591, hv591⟩ : ∃ v, eA g0 233 4 = v := ⟨_, rfl⟩
                            have wv591 := HI.t4 hI0
                            rw [hv591] at wv591
                            have tv591 := congrArg Int32.toInt hv591
                            have x592 := HI.eqA hI585 (p := 233) (j := 4) ((((eA_c (hF586.2.1 233 (by decide))).trans ((eA_sA_ne hI575.1 ka_233 (by first | decide | omega) (by first | decide | omega) (by first | decide | omega)).trans ((eA_sA_ne hI572.1 ka_233 (by first | decide | omega) (by first | decide | omega) (by first | decide | omega)).trans ((eA_sA_ne hI569.1 ka_233 (by first | decide | omega) (by first | decide | omega) (by first | decide | omega)).trans ((eA_sA_ne hI565.1 ka_233 (by first | decide | omega) (by first | decide | omega) (by first | decide | omega)).trans ((eA_sA_ne hI561.1 ka_233 (by first | decide | omega) (by first | decide | omega) (by first | decide | omega)).trans ((eA_sA_ne hI558.1 ka_233 (by first | decide | omega) (by first | decide | omega) (by first | decide | omega)).trans ((eA_sA_ne hI305.1 ka_233 (by first | decide | omega) (by first | decide | omega) (by first | decide | omega)).trans (eA_c gA_sI))))))))).trans hv591))
                            obtain ⟨v593, hv593⟩ : ∃ v, eA g0 233 5 = v := ⟨_, rfl⟩
                            have wv593 := HI.t5 hI0
                            rw [hv593] at wv593
                            have tv593 := congrArg Int32.toInt hv593
                            have x594 := HI.eqA hI585 (p := 233) (j := 5) ((((eA_c (hF586.2.1 233 (by decide))).trans ((eA_sA_ne hI575.1 ka_233 (by first | decide | omega) (by first | decide | omega) (by first | decide | omega)).trans ((eA_sA_ne hI572.1 ka_233 (by first | decide | omega) (by first | decide | omega) (by first | decide | omega)).trans ((eA_sA_ne hI569.1 ka_233 (by first | decide | omega) (by first | decide | omega) (by first | decide | omega)).trans ((eA_sA_ne hI565.1 ka_233 (by first | decide | omega) (by first | decide | omega) (by first | decide | omega)).trans ((eA_sA_ne hI561.1 ka_233 (by first | decide | omega) (by first | decide | omega) (by first | decide | omega)).trans ((eA_sA_ne hI558.1 ka_233 (by first | decide | omega) (by first | decide | omega) (by first | decide | omega)).trans ((eA_sA_ne hI305.1 ka_233 (by first | decide | omega) (by first | decide | omega) (by first | decide | omega)).trans (eA_c gA_sI))))))))).trans hv593))
                            obtain ⟨v595, hv595⟩ : ∃ v, eA g0 233 6 = v := ⟨_, rfl⟩
                            have wv595 := HI.t6 hI0
                            rw [hv595] at wv595
                            have tv595 := congrArg Int32.toInt hv595
                            have x596 := HI.eqA hI585 (p := 233) (j := 6) ((((eA_c (hF586.2.1 233 (by decide))).trans ((eA_sA_ne hI575.1 ka_233 (by first | decide | omega) (by first | decide | omega) (by first | decide | omega)).trans ((eA_sA_ne hI572.1 ka_233 (by first | decide | omega) (by first | decide | omega) (by first | decide | omega)).trans ((eA_sA_ne hI569.1 ka_233 (by first | decide | omega) (by first | decide | omega) (by first | decide | omega)).trans ((eA_sA_ne hI565.1 ka_233 (by first | decide | omega) (by first | decide | omega) (by first | decide | omega)).trans ((eA_sA_ne hI561.1 ka_233 (by first | decide | omega) (by first | decide | omega) (by first | decide | omega)).trans ((eA_sA_ne hI558.1 ka_233 (by first | decide | omega) (by first | decide | omega) (by first | decide | omega)).trans ((eA_sA_ne hI305.1 ka_233 (by first | decide | omega) (by first | decide | omega) (by first | decide | omega)).trans (eA_c gA_sI))))))))).trans hv595))
                            have x597 := HI.eqA hI0 (p := 233) (j := 0) (hv472)
                            have x598 := HI.eqA hI0 (p := 233) (j := 4) (hv591)
                            have x599 := HI.eqA hI0 (p := 233) (j := 5) (hv593)
                            have x600 := HI.eqA hI0 (p := 233) (j := 6) (hv595)
                            exact ⟨_, rfl, hI585, hF589, _, rfl, by omega, ⟨by omega, by omega, by omega, by omega⟩⟩
                          · have c555_ : v554.toInt = 8 := en_i_ne_f c555
                            refine At.enter rfl ?_
                            refine r_aload_n rfl ?_
                            refine r_bipush (-5) rfl ?_
                            refine r_callV 64 rfl [.ref 231, .int (-5)] [] (Nat.le_of_ble_eq_true rfl) rfl (T_X11_tell_231 _ hI305 (-5) (by decide)) ?_
                            rintro _ _ ⟨g601, rfl, hI602, hF603, v604, rfl, hr605⟩
                            refine At.sti ?_
                            have hF606 := Fr.tr hF306 hF603 rfl rfl
                            have zv607 : ((-5) : Int32).toInt = (-5) := rfl
                            refine At.enter rfl ?_
                            refine r_ireti ?_
                            have x608 := HI.eqA hI602 (p := 233) (j := 0) ((((eA_c (hF603.2.1 233 (by decide))).trans (eA_c gA_sI)).trans hv472))
                            obtain ⟨v609, hv609⟩ : ∃ v, eA g0 233 4 = v := ⟨_, rfl⟩
                            have wv609 := HI.t4 hI0
                            rw [hv609] at wv609
                            have tv609 := congrArg Int32.toInt hv609
                            have x610 := HI.eqA hI602 (p := 233) (j := 4) ((((eA_c (hF603.2.1 233 (by decide))).trans (eA_c gA_sI)).trans hv609))
                            obtain ⟨v611, hv611⟩ : ∃ v, eA g0 233 5 = v := ⟨_, rfl⟩
                            have wv611 := HI.t5 hI0
                            rw [hv611] at wv611
                            have tv611 := congrArg Int32.toInt hv611
                            have x612 := HI.eqA hI602 (p := 233) (j := 5) ((((eA_c (hF603.2.1 233 (by decide))).trans (eA_c gA_sI)).trans hv611))
                            obtain ⟨v613, hv613⟩ : ∃ v, eA g0 233 6 = v := ⟨_, rfl⟩
                            have wv613 := HI.t6 hI0
                            rw [hv613] at wv613
                            have tv613 := congrArg Int32.toInt hv613
                            have x614 := HI.eqA hI602 (p := 233) (j := 6) ((((eA_c (hF603.2.1 233 (by decide))).trans (eA_c gA_sI)).trans hv613))
                            have x615 := HI.eqA hI0 (p := 233) (j := 0) (hv472)
                            have x616 := HI.eqA hI0 (p := 233) (j := 4) (hv609)
                            have x617 := HI.eqA hI0 (p := 233) (j := 5) (hv611)
                            have x618 := HI.eqA hI0 (p := 233) (j := 6) (hv613)
                            exact ⟨_, rfl, hI602, hF606, _, rfl, by omega, ⟨by omega, by omega, by omega, by omega⟩⟩
