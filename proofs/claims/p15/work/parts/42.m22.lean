def F_X11_status_231 : List (Nat × Nat) := [(231, 0)]
def A_X11_status_231 : List Nat := []
set_option maxRecDepth 100000 in
set_option maxHeartbeats 4000000 in
theorem T_X11_status_231 (d : Nat) {N : Nat} {g0 : List en_E} (hI0 : HI g0) : Ev (d + 1) 264 [.ref 231] (g0, N) (fun w h' => ∃ g', h' = (g', N) ∧ HI g' ∧ Fr F_X11_status_231 A_X11_status_231 g0 g' ∧ ∃ r : Int32, w = some (.int r) ∧ True) := by
  have hF0 : Fr F_X11_status_231 A_X11_status_231 g0 g0 := Fr.rf
  refine Ev.mk rfl rfl ⟨Nat.le_of_ble_eq_true rfl, Or.inr (q_rc hI0.1 kx_231 rfl)⟩ ?_
  show At _ none _ _ (0, [(0, .ref 231)], [], (_, _)) _
  refine At.enter rfl ?_
  refine r_aload_n rfl ?_
  refine r_iconst 0 rfl ?_
  refine q_putI (Sh.int hI0.1 kx_231 rfl) rfl ?_
  have hI7 := HI.wI0 hI0 kx_231 rfl (p := 231) (b := 0) (v := 0) rfl
  have hF8 := Fr.wI (p := 231) (b := 0) (v := 0) hF0 rfl
  refine r_aload_n rfl ?_
  obtain ⟨v9, hv9⟩ : ∃ v, gI g0 231 1 = v := ⟨_, rfl⟩
  refine q_getI (Sh.int hI7.1 kx_231 rfl) v9 ((gI_sI_ne (by decide)).trans hv9) ?_
  refine r_ireti ?_
  exact ⟨_, rfl, hI7, hF8, _, rfl, trivial⟩

def F_X11_stand_231 : List (Nat × Nat) := [(231, 0), (231, 1)]
def A_X11_stand_231 : List Nat := [232, 233]
theorem ma_X11_tell_231_233 : memA A_X11_tell_231 233 = false := by decide
set_option maxRecDepth 100000 in
set_option maxHeartbeats 4000000 in
theorem T_X11_stand_231 (d : Nat) {N : Nat} {g0 : List en_E} (hI0 : HI g0) (a1 : Int32) (a2 : Int32) (a3 : Int32) : Ev (d + 3) 172 [.ref 231, .int a1, .int a2, .int a3] (g0, N) (fun w h' => ∃ g', h' = (g', N) ∧ HI g' ∧ Fr F_X11_stand_231 A_X11_stand_231 g0 g' ∧ ∃ r : Int32, w = some (.int r) ∧ ((-5) ≤ r.toInt ∧ r.toInt ≤ 11) ∧ (((¬ (-1 ≤ a1.toInt ∧ a1.toInt ≤ 11 ∧ 1 ≤ a2.toInt ∧ a2.toInt ≤ 9 ∧ 0 ≤ a3.toInt ∧ a3.toInt ≤ 99) → r.toInt = -1 ∧ (eA g' 233 0).toInt = (eA g0 233 0).toInt) ∧ ((-1 ≤ a1.toInt ∧ a1.toInt ≤ 11 ∧ 1 ≤ a2.toInt ∧ a2.toInt ≤ 9 ∧ 0 ≤ a3.toInt ∧ a3.toInt ≤ 99) ∧ 12 ≤ (eA g0 233 0).toInt → r.toInt = -5 ∧ (eA g' 233 0).toInt = (eA g0 233 0).toInt) ∧ ((-1 ≤ a1.toInt ∧ a1.toInt ≤ 11 ∧ 1 ≤ a2.toInt ∧ a2.toInt ≤ 9 ∧ 0 ≤ a3.toInt ∧ a3.toInt ≤ 99) ∧ (eA g0 233 0).toInt < 12 → r.toInt = (eA g0 233 0).toInt ∧ (eA g' 233 0).toInt = (eA g0 233 0).toInt + 1)) ∧ (eA g' 233 4).toInt = (eA g0 233 4).toInt ∧ (eA g' 233 5).toInt = (eA g0 233 5).toInt ∧ (eA g' 233 6).toInt = (eA g0 233 6).toInt ∧ (eA g' 233 2).toInt = (eA g0 233 2).toInt ∧ (eA g' 233 3).toInt = (eA g0 233 3).toInt)) := by
  have hF0 : Fr F_X11_stand_231 A_X11_stand_231 g0 g0 := Fr.rf
  refine Ev.mk rfl rfl ⟨Nat.le_of_ble_eq_true rfl, Or.inr (q_rc hI0.1 kx_231 rfl)⟩ ?_
  show At _ none _ _ (0, [(0, .ref 231), (1, .int a1), (2, .int a2), (3, .int a3)], [], (_, _)) _
  refine At.enter rfl ?_
  refine r_aload_n rfl ?_
  refine r_iconst 0 rfl ?_
  refine q_putI (Sh.int hI0.1 kx_231 rfl) rfl ?_
  have hI173 := HI.wI0 hI0 kx_231 rfl (p := 231) (b := 0) (v := 0) rfl
  have hF174 := Fr.wI (p := 231) (b := 0) (v := 0) hF0 rfl
  refine r_iconst 0 rfl ?_
  refine r_iload_n rfl ?_
  refine q_inlS 10 rfl [.int 0, .int a1] [] (Nat.le_of_ble_eq_true rfl) rfl ?_
  refine Ev.mk rfl rfl ⟨Nat.le_of_ble_eq_true rfl, Or.inl rfl⟩ ?_
  show At _ none _ _ (0, [(0, .int 0), (1, .int a1)], [], (_, _)) _
  refine At.enter rfl ?_
  refine r_iload_n rfl ?_
  refine r_tsw 28 rfl ?_
  refine At.enter rfl ?_
  refine r_iload_n rfl ?_
  refine q_i2l (fun v175 hv175 => ?_)
  refine r_ldc2 (-1) rfl ?_
  refine r_ldc2 11 rfl ?_
  refine q_inlS 39 rfl [.long v175, .long (-1), .long 11] [] (Nat.le_of_ble_eq_true rfl) rfl ?_
  refine Ev.mk rfl rfl ⟨Nat.le_of_ble_eq_true rfl, Or.inl rfl⟩ ?_
  show At _ none _ _ (0, [(0, .long v175), (2, .long (-1)), (4, .long 11)], [], (_, _)) _
  refine At.enter rfl ?_
  refine r_lload_n rfl ?_
  refine r_lload_n rfl ?_
  refine r_lcmp _ rfl ?_
  refine r_ifs 6 rfl (fun c176 => ?_) (fun c176 => ?_)
  · have c176_ : v175.toInt < (-1) := en_j_lt_t c176
    refine At.enter rfl ?_
    refine r_iconst 0 rfl ?_
    refine Ar.fall 18 rfl ?_
    refine At.enter rfl ?_
    refine q_iretz (by decide) ?_
    refine At.enter rfl ?_
    refine q_iretz (by decide) ?_
    refine At.enter rfl ?_
    refine r_ift (by decide) ?_
    refine At.enter rfl ?_
    refine r_aload_n rfl ?_
    refine r_iconst (-1) rfl ?_
    refine r_callV 34 rfl [.ref 231, .int (-1)] [] (Nat.le_of_ble_eq_true rfl) rfl (T_X11_tell_231 _ hI173 (-1) (by decide)) ?_
    rintro _ _ ⟨g177, rfl, hI178, hF179, v180, rfl, hr181⟩
    refine At.sti ?_
    have hF182 := Fr.tr hF174 hF179 rfl rfl
    have zv183 : ((-1) : Int32).toInt = (-1) := rfl
    refine At.enter rfl ?_
    refine r_ireti ?_
    obtain ⟨v184, hv184⟩ : ∃ v, eA g0 233 0 = v := ⟨_, rfl⟩
    have tv184 := congrArg Int32.toInt hv184
    have wv184 := HI.t0 hI0
    rw [hv184] at wv184
    have tv184 := congrArg Int32.toInt hv184
    have x185 := HI.eqA hI178 (p := 233) (j := 0) ((((eA_c (hF179.2.1 233 ma_X11_tell_231_233)).trans (eA_c gA_sI)).trans hv184))
    obtain ⟨v186, hv186⟩ : ∃ v, eA g0 233 4 = v := ⟨_, rfl⟩
    have wv186 := HI.t4 hI0
    rw [hv186] at wv186
    have tv186 := congrArg Int32.toInt hv186
    have x187 := HI.eqA hI178 (p := 233) (j := 4) ((((eA_c (hF179.2.1 233 ma_X11_tell_231_233)).trans (eA_c gA_sI)).trans hv186))
    obtain ⟨v188, hv188⟩ : ∃ v, eA g0 233 5 = v := ⟨_, rfl⟩
    have wv188 := HI.t5 hI0
    rw [hv188] at wv188
    have tv188 := congrArg Int32.toInt hv188
    have x189 := HI.eqA hI178 (p := 233) (j := 5) ((((eA_c (hF179.2.1 233 ma_X11_tell_231_233)).trans (eA_c gA_sI)).trans hv188))
    obtain ⟨v190, hv190⟩ : ∃ v, eA g0 233 6 = v := ⟨_, rfl⟩
    have wv190 := HI.t6 hI0
    rw [hv190] at wv190
    have tv190 := congrArg Int32.toInt hv190
    have x191 := HI.eqA hI178 (p := 233) (j := 6) ((((eA_c (hF179.2.1 233 ma_X11_tell_231_233)).trans (eA_c gA_sI)).trans hv190))
    obtain ⟨v192, hv192⟩ : ∃ v, eA g0 233 2 = v := ⟨_, rfl⟩
    have tv192 := congrArg Int32.toInt hv192
    have wv192 := HI.t2 hI0
    rw [hv192] at wv192
    have tv192 := congrArg Int32.toInt hv192
    have x193 := HI.eqA hI178 (p := 233) (j := 2) ((((eA_c (hF179.2.1 233 ma_X11_tell_231_233)).trans (eA_c gA_sI)).trans hv192))
    obtain ⟨v194, hv194⟩ : ∃ v, eA g0 233 3 = v := ⟨_, rfl⟩
    have wv194 := HI.t3 hI0
    rw [hv194] at wv194
    have tv194 := congrArg Int32.toInt hv194
    have x195 := HI.eqA hI178 (p := 233) (j := 3) ((((eA_c (hF179.2.1 233 ma_X11_tell_231_233)).trans (eA_c gA_sI)).trans hv194))
    have x196 := HI.eqA hI0 (p := 233) (j := 0) (hv184)
    have x197 := HI.eqA hI0 (p := 233) (j := 4) (hv186)
    have x198 := HI.eqA hI0 (p := 233) (j := 5) (hv188)
    have x199 := HI.eqA hI0 (p := 233) (j := 6) (hv190)
    have x200 := HI.eqA hI0 (p := 233) (j := 2) (hv192)
    have x201 := HI.eqA hI0 (p := 233) (j := 3) (hv194)
    exact ⟨_, rfl, hI178, hF182, _, rfl, by omega, ⟨by omega, by omega, by omega, by omega, by omega, by omega⟩⟩
  · have c176_ : v175.toInt ≥ (-1) := en_j_lt_f c176
    refine At.enter rfl ?_
    refine r_lload_n rfl ?_
    refine r_lload rfl ?_
    refine r_lcmp _ rfl ?_
    refine r_ifs 13 rfl (fun c202 => ?_) (fun c202 => ?_)
    · have c202_ : v175.toInt > 11 := en_j_gt_t c202
      refine At.enter rfl ?_
      refine r_iconst 0 rfl ?_
      refine Ar.fall 18 rfl ?_
      refine At.enter rfl ?_
      refine q_iretz (by decide) ?_
      refine At.enter rfl ?_
      refine q_iretz (by decide) ?_
      refine At.enter rfl ?_
      refine r_ift (by decide) ?_
      refine At.enter rfl ?_
      refine r_aload_n rfl ?_
      refine r_iconst (-1) rfl ?_
      refine r_callV 34 rfl [.ref 231, .int (-1)] [] (Nat.le_of_ble_eq_true rfl) rfl (T_X11_tell_231 _ hI173 (-1) (by decide)) ?_
      rintro _ _ ⟨g203, rfl, hI204, hF205, v206, rfl, hr207⟩
      refine At.sti ?_
      have hF208 := Fr.tr hF174 hF205 rfl rfl
      have zv209 : ((-1) : Int32).toInt = (-1) := rfl
      refine At.enter rfl ?_
      refine r_ireti ?_
      obtain ⟨v210, hv210⟩ : ∃ v, eA g0 233 0 = v := ⟨_, rfl⟩
      have tv210 := congrArg Int32.toInt hv210
      have wv210 := HI.t0 hI0
      rw [hv210] at wv210
      have tv210 := congrArg Int32.toInt hv210
      have x211 := HI.eqA hI204 (p := 233) (j := 0) ((((eA_c (hF205.2.1 233 ma_X11_tell_231_233)).trans (eA_c gA_sI)).trans hv210))
      obtain ⟨v212, hv212⟩ : ∃ v, eA g0 233 4 = v := ⟨_, rfl⟩
      have wv212 := HI.t4 hI0
      rw [hv212] at wv212
      have tv212 := congrArg Int32.toInt hv212
      have x213 := HI.eqA hI204 (p := 233) (j := 4) ((((eA_c (hF205.2.1 233 ma_X11_tell_231_233)).trans (eA_c gA_sI)).trans hv212))
      obtain ⟨v214, hv214⟩ : ∃ v, eA g0 233 5 = v := ⟨_, rfl⟩
      have wv214 := HI.t5 hI0
      rw [hv214] at wv214
      have tv214 := congrArg Int32.toInt hv214
      have x215 := HI.eqA hI204 (p := 233) (j := 5) ((((eA_c (hF205.2.1 233 ma_X11_tell_231_233)).trans (eA_c gA_sI)).trans hv214))
      obtain ⟨v216, hv216⟩ : ∃ v, eA g0 233 6 = v := ⟨_, rfl⟩
      have wv216 := HI.t6 hI0
      rw [hv216] at wv216
      have tv216 := congrArg Int32.toInt hv216
      have x217 := HI.eqA hI204 (p := 233) (j := 6) ((((eA_c (hF205.2.1 233 ma_X11_tell_231_233)).trans (eA_c gA_sI)).trans hv216))
      obtain ⟨v218, hv218⟩ : ∃ v, eA g0 233 2 = v := ⟨_, rfl⟩
      have tv218 := congrArg Int32.toInt hv218
      have wv218 := HI.t2 hI0
      rw [hv218] at wv218
      have tv218 := congrArg Int32.toInt hv218
      have x219 := HI.eqA hI204 (p := 233) (j := 2) ((((eA_c (hF205.2.1 233 ma_X11_tell_231_233)).trans (eA_c gA_sI)).trans hv218))
      obtain ⟨v220, hv220⟩ : ∃ v, eA g0 233 3 = v := ⟨_, rfl⟩
      have wv220 := HI.t3 hI0
      rw [hv220] at wv220
      have tv220 := congrArg Int32.toInt hv220
      have x221 := HI.eqA hI204 (p := 233) (j := 3) ((((eA_c (hF205.2.1 233 ma_X11_tell_231_233)).trans (eA_c gA_sI)).trans hv220))
      have x222 := HI.eqA hI0 (p := 233) (j := 0) (hv210)
      have x223 := HI.eqA hI0 (p := 233) (j := 4) (hv212)
      have x224 := HI.eqA hI0 (p := 233) (j := 5) (hv214)
      have x225 := HI.eqA hI0 (p := 233) (j := 6) (hv216)
      have x226 := HI.eqA hI0 (p := 233) (j := 2) (hv218)
      have x227 := HI.eqA hI0 (p := 233) (j := 3) (hv220)
      exact ⟨_, rfl, hI204, hF208, _, rfl, by omega, ⟨by omega, by omega, by omega, by omega, by omega, by omega⟩⟩
    · have c202_ : v175.toInt ≤ 11 := en_j_gt_f c202
      refine At.enter rfl ?_
      refine r_iconst 1 rfl ?_
      refine r_goto ?_
      refine At.enter rfl ?_
      refine q_iretz (by decide) ?_
      refine At.enter rfl ?_
      refine q_iretz (by decide) ?_
      refine At.enter rfl ?_
      refine r_iff 13 rfl (by decide) ?_
      refine At.enter rfl ?_
      refine r_iconst 1 rfl ?_
      refine r_iload_n rfl ?_
      refine q_inlS 18 rfl [.int 1, .int a2] [] (Nat.le_of_ble_eq_true rfl) rfl ?_
      refine Ev.mk rfl rfl ⟨Nat.le_of_ble_eq_true rfl, Or.inl rfl⟩ ?_
      show At _ none _ _ (0, [(0, .int 1), (1, .int a2)], [], (_, _)) _
      refine At.enter rfl ?_
      refine r_iload_n rfl ?_
      refine r_tsw 40 rfl ?_
      refine At.enter rfl ?_
      refine r_iload_n rfl ?_
      refine q_i2l (fun v228 hv228 => ?_)
      refine r_lconst 1 rfl ?_
      refine r_ldc2 9 rfl ?_
      refine q_inlS 49 rfl [.long v228, .long 1, .long 9] [] (Nat.le_of_ble_eq_true rfl) rfl ?_
      refine Ev.mk rfl rfl ⟨Nat.le_of_ble_eq_true rfl, Or.inl rfl⟩ ?_
      show At _ none _ _ (0, [(0, .long v228), (2, .long 1), (4, .long 9)], [], (_, _)) _
      refine At.enter rfl ?_
      refine r_lload_n rfl ?_
      refine r_lload_n rfl ?_
      refine r_lcmp _ rfl ?_
      refine r_ifs 6 rfl (fun c229 => ?_) (fun c229 => ?_)
      · have c229_ : v228.toInt < 1 := en_j_lt_t c229
        refine At.enter rfl ?_
        refine r_iconst 0 rfl ?_
        refine Ar.fall 18 rfl ?_
        refine At.enter rfl ?_
        refine q_iretz (by decide) ?_
        refine At.enter rfl ?_
        refine q_iretz (by decide) ?_
        refine At.enter rfl ?_
        refine r_ift (by decide) ?_
        refine At.enter rfl ?_
        refine r_aload_n rfl ?_
        refine r_iconst (-1) rfl ?_
        refine r_callV 34 rfl [.ref 231, .int (-1)] [] (Nat.le_of_ble_eq_true rfl) rfl (T_X11_tell_231 _ hI173 (-1) (by decide)) ?_
        rintro _ _ ⟨g230, rfl, hI231, hF232, v233, rfl, hr234⟩
        refine At.sti ?_
        have hF235 := Fr.tr hF174 hF232 rfl rfl
        have zv236 : ((-1) : Int32).toInt = (-1) := rfl
        refine At.enter rfl ?_
        refine r_ireti ?_
        obtain ⟨v237, hv237⟩ : ∃ v, eA g0 233 0 = v := ⟨_, rfl⟩
        have tv237 := congrArg Int32.toInt hv237
        have wv237 := HI.t0 hI0
        rw [hv237] at wv237
        have tv237 := congrArg Int32.toInt hv237
        have x238 := HI.eqA hI231 (p := 233) (j := 0) ((((eA_c (hF232.2.1 233 ma_X11_tell_231_233)).trans (eA_c gA_sI)).trans hv237))
        obtain ⟨v239, hv239⟩ : ∃ v, eA g0 233 4 = v := ⟨_, rfl⟩
        have wv239 := HI.t4 hI0
        rw [hv239] at wv239
        have tv239 := congrArg Int32.toInt hv239
        have x240 := HI.eqA hI231 (p := 233) (j := 4) ((((eA_c (hF232.2.1 233 ma_X11_tell_231_233)).trans (eA_c gA_sI)).trans hv239))
        obtain ⟨v241, hv241⟩ : ∃ v, eA g0 233 5 = v := ⟨_, rfl⟩
        have wv241 := HI.t5 hI0
        rw [hv241] at wv241
        have tv241 := congrArg Int32.toInt hv241
        have x242 := HI.eqA hI231 (p := 233) (j := 5) ((((eA_c (hF232.2.1 233 ma_X11_tell_231_233)).trans (eA_c gA_sI)).trans hv241))
        obtain ⟨v243, hv243⟩ : ∃ v, eA g0 233 6 = v := ⟨_, rfl⟩
        have wv243 := HI.t6 hI0
        rw [hv243] at wv243
        have tv243 := congrArg Int32.toInt hv243
        have x244 := HI.eqA hI231 (p := 233) (j := 6) ((((eA_c (hF232.2.1 233 ma_X11_tell_231_233)).trans (eA_c gA_sI)).trans hv243))
        obtain ⟨v245, hv245⟩ : ∃ v, eA g0 233 2 = v := ⟨_, rfl⟩
        have tv245 := congrArg Int32.toInt hv245
        have wv245 := HI.t2 hI0
        rw [hv245] at wv245
        have tv245 := congrArg Int32.toInt hv245
        have x246 := HI.eqA hI231 (p := 233) (j := 2) ((((eA_c (hF232.2.1 233 ma_X11_tell_231_233)).trans (eA_c gA_sI)).trans hv245))
        obtain ⟨v247, hv247⟩ : ∃ v, eA g0 233 3 = v := ⟨_, rfl⟩
        have wv247 := HI.t3 hI0
        rw [hv247] at wv247
        have tv247 := congrArg Int32.toInt hv247
        have x248 := HI.eqA hI231 (p := 233) (j := 3) ((((eA_c (hF232.2.1 233 ma_X11_tell_231_233)).trans (eA_c gA_sI)).trans hv247))
        have x249 := HI.eqA hI0 (p := 233) (j := 0) (hv237)
        have x250 := HI.eqA hI0 (p := 233) (j := 4) (hv239)
        have x251 := HI.eqA hI0 (p := 233) (j := 5) (hv241)
        have x252 := HI.eqA hI0 (p := 233) (j := 6) (hv243)
        have x253 := HI.eqA hI0 (p := 233) (j := 2) (hv245)
        have x254 := HI.eqA hI0 (p := 233) (j := 3) (hv247)
        exact ⟨_, rfl, hI231, hF235, _, rfl, by omega, ⟨by omega, by omega, by omega, by omega, by omega, by omega⟩⟩
      · have c229_ : v228.toInt ≥ 1 := en_j_lt_f c229
        refine At.enter rfl ?_
        refine r_lload_n rfl ?_
        refine r_lload rfl ?_
        refine r_lcmp _ rfl ?_
        refine r_ifs 13 rfl (fun c255 => ?_) (fun c255 => ?_)
        · have c255_ : v228.toInt > 9 := en_j_gt_t c255
          refine At.enter rfl ?_
          refine r_iconst 0 rfl ?_
          refine Ar.fall 18 rfl ?_
          refine At.enter rfl ?_
          refine q_iretz (by decide) ?_
          refine At.enter rfl ?_
          refine q_iretz (by decide) ?_
          refine At.enter rfl ?_
          refine r_ift (by decide) ?_
          refine At.enter rfl ?_
          refine r_aload_n rfl ?_
          refine r_iconst (-1) rfl ?_
          refine r_callV 34 rfl [.ref 231, .int (-1)] [] (Nat.le_of_ble_eq_true rfl) rfl (T_X11_tell_231 _ hI173 (-1) (by decide)) ?_
          rintro _ _ ⟨g256, rfl, hI257, hF258, v259, rfl, hr260⟩
          refine At.sti ?_
          have hF261 := Fr.tr hF174 hF258 rfl rfl
          have zv262 : ((-1) : Int32).toInt = (-1) := rfl
          refine At.enter rfl ?_
          refine r_ireti ?_
          obtain ⟨v263, hv263⟩ : ∃ v, eA g0 233 0 = v := ⟨_, rfl⟩
          have tv263 := congrArg Int32.toInt hv263
          have wv263 := HI.t0 hI0
          rw [hv263] at wv263
          have tv263 := congrArg Int32.toInt hv263
          have x264 := HI.eqA hI257 (p := 233) (j := 0) ((((eA_c (hF258.2.1 233 ma_X11_tell_231_233)).trans (eA_c gA_sI)).trans hv263))
          obtain ⟨v265, hv265⟩ : ∃ v, eA g0 233 4 = v := ⟨_, rfl⟩
          have wv265 := HI.t4 hI0
          rw [hv265] at wv265
          have tv265 := congrArg Int32.toInt hv265
          have x266 := HI.eqA hI257 (p := 233) (j := 4) ((((eA_c (hF258.2.1 233 ma_X11_tell_231_233)).trans (eA_c gA_sI)).trans hv265))
          obtain ⟨v267, hv267⟩ : ∃ v, eA g0 233 5 = v := ⟨_, rfl⟩
          have wv267 := HI.t5 hI0
          rw [hv267] at wv267
          have tv267 := congrArg Int32.toInt hv267
          have x268 := HI.eqA hI257 (p := 233) (j := 5) ((((eA_c (hF258.2.1 233 ma_X11_tell_231_233)).trans (eA_c gA_sI)).trans hv267))
          obtain ⟨v269, hv269⟩ : ∃ v, eA g0 233 6 = v := ⟨_, rfl⟩
          have wv269 := HI.t6 hI0
          rw [hv269] at wv269
          have tv269 := congrArg Int32.toInt hv269
          have x270 := HI.eqA hI257 (p := 233) (j := 6) ((((eA_c (hF258.2.1 233 ma_X11_tell_231_233)).trans (eA_c gA_sI)).trans hv269))
          obtain ⟨v271, hv271⟩ : ∃ v, eA g0 233 2 = v := ⟨_, rfl⟩
          have tv271 := congrArg Int32.toInt hv271
          have wv271 := HI.t2 hI0
          rw [hv271] at wv271
          have tv271 := congrArg Int32.toInt hv271
          have x272 := HI.eqA hI257 (p := 233) (j := 2) ((((eA_c (hF258.2.1 233 ma_X11_tell_231_233)).trans (eA_c gA_sI)).trans hv271))
          obtain ⟨v273, hv273⟩ : ∃ v, eA g0 233 3 = v := ⟨_, rfl⟩
          have wv273 := HI.t3 hI0
          rw [hv273] at wv273
          have tv273 := congrArg Int32.toInt hv273
          have x274 := HI.eqA hI257 (p := 233) (j := 3) ((((eA_c (hF258.2.1 233 ma_X11_tell_231_233)).trans (eA_c gA_sI)).trans hv273))
          have x275 := HI.eqA hI0 (p := 233) (j := 0) (hv263)
          have x276 := HI.eqA hI0 (p := 233) (j := 4) (hv265)
          have x277 := HI.eqA hI0 (p := 233) (j := 5) (hv267)
          have x278 := HI.eqA hI0 (p := 233) (j := 6) (hv269)
          have x279 := HI.eqA hI0 (p := 233) (j := 2) (hv271)
          have x280 := HI.eqA hI0 (p := 233) (j := 3) (hv273)
          exact ⟨_, rfl, hI257, hF261, _, rfl, by omega, ⟨by omega, by omega, by omega, by omega, by omega, by omega⟩⟩
        · have c255_ : v228.toInt ≤ 9 := en_j_gt_f c255
          refine At.enter rfl ?_
          refine r_iconst 1 rfl ?_
          refine r_goto ?_
          refine At.enter rfl ?_
          refine q_iretz (by decide) ?_
          refine At.enter rfl ?_
          refine q_iretz (by decide) ?_
          refine At.enter rfl ?_
          refine r_iff 21 rfl (by decide) ?_
          refine At.enter rfl ?_
          refine r_iconst 2 rfl ?_
          refine r_iload_n rfl ?_
          refine q_inlS 26 rfl [.int 2, .int a3] [] (Nat.le_of_ble_eq_true rfl) rfl ?_
          refine Ev.mk rfl rfl ⟨Nat.le_of_ble_eq_true rfl, Or.inl rfl⟩ ?_
          show At _ none _ _ (0, [(0, .int 2), (1, .int a3)], [], (_, _)) _
          refine At.enter rfl ?_
          refine r_iload_n rfl ?_
          refine r_tsw 50 rfl ?_
          refine At.enter rfl ?_
          refine r_iload_n rfl ?_
          refine q_i2l (fun v281 hv281 => ?_)
          refine r_lconst 0 rfl ?_
          refine r_ldc2 99 rfl ?_
          refine q_inlS 59 rfl [.long v281, .long 0, .long 99] [] (Nat.le_of_ble_eq_true rfl) rfl ?_
          refine Ev.mk rfl rfl ⟨Nat.le_of_ble_eq_true rfl, Or.inl rfl⟩ ?_
          show At _ none _ _ (0, [(0, .long v281), (2, .long 0), (4, .long 99)], [], (_, _)) _
          refine At.enter rfl ?_
          refine r_lload_n rfl ?_
          refine r_lload_n rfl ?_
          refine r_lcmp _ rfl ?_
          refine r_ifs 6 rfl (fun c282 => ?_) (fun c282 => ?_)
          · have c282_ : v281.toInt < 0 := en_j_lt_t c282
            refine At.enter rfl ?_
            refine r_iconst 0 rfl ?_
            refine Ar.fall 18 rfl ?_
            refine At.enter rfl ?_
            refine q_iretz (by decide) ?_
            refine At.enter rfl ?_
            refine q_iretz (by decide) ?_
            refine At.enter rfl ?_
            refine r_iff 29 rfl (by decide) ?_
            refine At.enter rfl ?_
            refine r_aload_n rfl ?_
            refine r_iconst (-1) rfl ?_
            refine r_callV 34 rfl [.ref 231, .int (-1)] [] (Nat.le_of_ble_eq_true rfl) rfl (T_X11_tell_231 _ hI173 (-1) (by decide)) ?_
            rintro _ _ ⟨g283, rfl, hI284, hF285, v286, rfl, hr287⟩
            refine At.sti ?_
            have hF288 := Fr.tr hF174 hF285 rfl rfl
            have zv289 : ((-1) : Int32).toInt = (-1) := rfl
            refine At.enter rfl ?_
            refine r_ireti ?_
            obtain ⟨v290, hv290⟩ : ∃ v, eA g0 233 0 = v := ⟨_, rfl⟩
            have tv290 := congrArg Int32.toInt hv290
            have wv290 := HI.t0 hI0
            rw [hv290] at wv290
            have tv290 := congrArg Int32.toInt hv290
            have x291 := HI.eqA hI284 (p := 233) (j := 0) ((((eA_c (hF285.2.1 233 ma_X11_tell_231_233)).trans (eA_c gA_sI)).trans hv290))
            obtain ⟨v292, hv292⟩ : ∃ v, eA g0 233 4 = v := ⟨_, rfl⟩
            have wv292 := HI.t4 hI0
            rw [hv292] at wv292
            have tv292 := congrArg Int32.toInt hv292
            have x293 := HI.eqA hI284 (p := 233) (j := 4) ((((eA_c (hF285.2.1 233 ma_X11_tell_231_233)).trans (eA_c gA_sI)).trans hv292))
            obtain ⟨v294, hv294⟩ : ∃ v, eA g0 233 5 = v := ⟨_, rfl⟩
            have wv294 := HI.t5 hI0
            rw [hv294] at wv294
            have tv294 := congrArg Int32.toInt hv294
            have x295 := HI.eqA hI284 (p := 233) (j := 5) ((((eA_c (hF285.2.1 233 ma_X11_tell_231_233)).trans (eA_c gA_sI)).trans hv294))
            obtain ⟨v296, hv296⟩ : ∃ v, eA g0 233 6 = v := ⟨_, rfl⟩
            have wv296 := HI.t6 hI0
            rw [hv296] at wv296
            have tv296 := congrArg Int32.toInt hv296
            have x297 := HI.eqA hI284 (p := 233) (j := 6) ((((eA_c (hF285.2.1 233 ma_X11_tell_231_233)).trans (eA_c gA_sI)).trans hv296))
            obtain ⟨v298, hv298⟩ : ∃ v, eA g0 233 2 = v := ⟨_, rfl⟩
            have tv298 := congrArg Int32.toInt hv298
            have wv298 := HI.t2 hI0
            rw [hv298] at wv298
            have tv298 := congrArg Int32.toInt hv298
            have x299 := HI.eqA hI284 (p := 233) (j := 2) ((((eA_c (hF285.2.1 233 ma_X11_tell_231_233)).trans (eA_c gA_sI)).trans hv298))
            obtain ⟨v300, hv300⟩ : ∃ v, eA g0 233 3 = v := ⟨_, rfl⟩
            have wv300 := HI.t3 hI0
            rw [hv300] at wv300
            have tv300 := congrArg Int32.toInt hv300
            have x301 := HI.eqA hI284 (p := 233) (j := 3) ((((eA_c (hF285.2.1 233 ma_X11_tell_231_233)).trans (eA_c gA_sI)).trans hv300))
            have x302 := HI.eqA hI0 (p := 233) (j := 0) (hv290)
            have x303 := HI.eqA hI0 (p := 233) (j := 4) (hv292)
            have x304 := HI.eqA hI0 (p := 233) (j := 5) (hv294)
            have x305 := HI.eqA hI0 (p := 233) (j := 6) (hv296)
            have x306 := HI.eqA hI0 (p := 233) (j := 2) (hv298)
            have x307 := HI.eqA hI0 (p := 233) (j := 3) (hv300)
            exact ⟨_, rfl, hI284, hF288, _, rfl, by omega, ⟨by omega, by omega, by omega, by omega, by omega, by omega⟩⟩
          · have c282_ : v281.toInt ≥ 0 := en_j_lt_f c282
            refine At.enter rfl ?_
            refine r_lload_n rfl ?_
            refine r_lload rfl ?_
            refine r_lcmp _ rfl ?_
            refine r_ifs 13 rfl (fun c308 => ?_) (fun c308 => ?_)
            · have c308_ : v281.toInt > 99 := en_j_gt_t c308
              refine At.enter rfl ?_
              refine r_iconst 0 rfl ?_
              refine Ar.fall 18 rfl ?_
              refine At.enter rfl ?_
              refine q_iretz (by decide) ?_
              refine At.enter rfl ?_
              refine q_iretz (by decide) ?_
              refine At.enter rfl ?_
              refine r_iff 29 rfl (by decide) ?_
              refine At.enter rfl ?_
              refine r_aload_n rfl ?_
              refine r_iconst (-1) rfl ?_
              refine r_callV 34 rfl [.ref 231, .int (-1)] [] (Nat.le_of_ble_eq_true rfl) rfl (T_X11_tell_231 _ hI173 (-1) (by decide)) ?_
              rintro _ _ ⟨g309, rfl, hI310, hF311, v312, rfl, hr313⟩
              refine At.sti ?_
              have hF314 := Fr.tr hF174 hF311 rfl rfl
              have zv315 : ((-1) : Int32).toInt = (-1) := rfl
              refine At.enter rfl ?_
              refine r_ireti ?_
              obtain ⟨v316, hv316⟩ : ∃ v, eA g0 233 0 = v := ⟨_, rfl⟩
              have tv316 := congrArg Int32.toInt hv316
              have wv316 := HI.t0 hI0
              rw [hv316] at wv316
              have tv316 := congrArg Int32.toInt hv316
              have x317 := HI.eqA hI310 (p := 233) (j := 0) ((((eA_c (hF311.2.1 233 ma_X11_tell_231_233)).trans (eA_c gA_sI)).trans hv316))
              obtain ⟨v318, hv318⟩ : ∃ v, eA g0 233 4 = v := ⟨_, rfl⟩
              have wv318 := HI.t4 hI0
              rw [hv318] at wv318
              have tv318 := congrArg Int32.toInt hv318
              have x319 := HI.eqA hI310 (p := 233) (j := 4) ((((eA_c (hF311.2.1 233 ma_X11_tell_231_233)).trans (eA_c gA_sI)).trans hv318))
              obtain ⟨v320, hv320⟩ : ∃ v, eA g0 233 5 = v := ⟨_, rfl⟩
              have wv320 := HI.t5 hI0
              rw [hv320] at wv320
              have tv320 := congrArg Int32.toInt hv320
              have x321 := HI.eqA hI310 (p := 233) (j := 5) ((((eA_c (hF311.2.1 233 ma_X11_tell_231_233)).trans (eA_c gA_sI)).trans hv320))
              obtain ⟨v322, hv322⟩ : ∃ v, eA g0 233 6 = v := ⟨_, rfl⟩
              have wv322 := HI.t6 hI0
              rw [hv322] at wv322
              have tv322 := congrArg Int32.toInt hv322
              have x323 := HI.eqA hI310 (p := 233) (j := 6) ((((eA_c (hF311.2.1 233 ma_X11_tell_231_233)).trans (eA_c gA_sI)).trans hv322))
              obtain ⟨v324, hv324⟩ : ∃ v, eA g0 233 2 = v := ⟨_, rfl⟩
              have tv324 := congrArg Int32.toInt hv324
              have wv324 := HI.t2 hI0
              rw [hv324] at wv324
              have tv324 := congrArg Int32.toInt hv324
              have x325 := HI.eqA hI310 (p := 233) (j := 2) ((((eA_c (hF311.2.1 233 ma_X11_tell_231_233)).trans (eA_c gA_sI)).trans hv324))
              obtain ⟨v326, hv326⟩ : ∃ v, eA g0 233 3 = v := ⟨_, rfl⟩
              have wv326 := HI.t3 hI0
              rw [hv326] at wv326
              have tv326 := congrArg Int32.toInt hv326
              have x327 := HI.eqA hI310 (p := 233) (j := 3) ((((eA_c (hF311.2.1 233 ma_X11_tell_231_233)).trans (eA_c gA_sI)).trans hv326))
              have x328 := HI.eqA hI0 (p := 233) (j := 0) (hv316)
              have x329 := HI.eqA hI0 (p := 233) (j := 4) (hv318)
              have x330 := HI.eqA hI0 (p := 233) (j := 5) (hv320)
              have x331 := HI.eqA hI0 (p := 233) (j := 6) (hv322)
              have x332 := HI.eqA hI0 (p := 233) (j := 2) (hv324)
              have x333 := HI.eqA hI0 (p := 233) (j := 3) (hv326)
              exact ⟨_, rfl, hI310, hF314, _, rfl, by omega, ⟨by omega, by omega, by omega, by omega, by omega, by omega⟩⟩
            · have c308_ : v281.toInt ≤ 99 := en_j_gt_f c308
              refine At.enter rfl ?_
              refine r_iconst 1 rfl ?_
              refine r_goto ?_
              refine At.enter rfl ?_
              refine q_iretz (by decide) ?_
              refine At.enter rfl ?_
              refine q_iretz (by decide) ?_
              refine At.enter rfl ?_
              refine r_ift (by decide) ?_
              refine At.enter rfl ?_
              refine r_aload_n rfl ?_
              refine q_getR (Sh.ref hI173.1 kx_231 rfl) ?_
              refine r_iconst 0 rfl ?_
              obtain ⟨v334, hv334⟩ : ∃ v, eA g0 233 0 = v := ⟨_, rfl⟩
              have tv334 := congrArg Int32.toInt hv334
              have wv334 := HI.t0 hI0
              rw [hv334] at wv334
              refine q_iald (Sh.arr hI173.1 ka_233) 0 rfl (by decide) v334 ((eA_c (gA_sI)).trans hv334) ?_
              refine r_istore ([(4, .int v334), (0, .ref 231), (1, .int a1), (2, .int a2), (3, .int a3)]) rfl ?_
              refine r_iload rfl ?_
              refine r_bipush 12 rfl ?_
              refine r_ics 50 rfl (fun c335 => ?_) (fun c335 => ?_)
              · have c335_ : v334.toInt ≠ 12 := en_i_ne_t c335
                refine At.enter rfl ?_
                refine r_aload_n rfl ?_
                refine q_getR (Sh.ref hI173.1 kx_231 rfl) ?_
                refine r_bipush 10 rfl ?_
                refine r_iconst 3 rfl ?_
                refine r_iload rfl ?_
                refine q_imul (3 * v334.toInt) rfl (by omega) (fun v336 hv336 => ?_)
                refine q_iadd (10 + v336.toInt) rfl (by omega) (fun v337 hv337 => ?_)
                refine r_iload_n rfl ?_
                refine q_iast (Sh.arr hI173.1 ka_233) ((3 * v334.toInt + 10)) (by omega) (by omega) ?_
                have hI338 := HI.ws hI173 (j := (3 * v334.toInt + 10)) (v := a1) (v334.toInt) 0 (by omega) (by decide) (by omega) (by omega)
                have hF339 := Fr.wA (p := 233) (j := (3 * v334.toInt + 10)) (v := a1) hF174 rfl
                refine r_aload_n rfl ?_
                refine q_getR (Sh.ref hI338.1 kx_231 rfl) ?_
                refine r_bipush 10 rfl ?_
                refine r_iconst 3 rfl ?_
                refine r_iload rfl ?_
                refine q_imul (3 * v334.toInt) rfl (by omega) (fun v340 hv340 => ?_)
                refine q_iadd (10 + v340.toInt) rfl (by omega) (fun v341 hv341 => ?_)
                refine r_iconst 1 rfl ?_
                refine q_iadd (v341.toInt + 1) rfl (by omega) (fun v342 hv342 => ?_)
                refine r_iload_n rfl ?_
                refine q_iast (Sh.arr hI338.1 ka_233) ((3 * v334.toInt + 11)) (by omega) (by omega) ?_
                have hI343 := HI.ws hI338 (j := (3 * v334.toInt + 11)) (v := a2) (v334.toInt) 1 (by omega) (by decide) (by omega) (by omega)
                have hF344 := Fr.wA (p := 233) (j := (3 * v334.toInt + 11)) (v := a2) hF339 rfl
                refine r_aload_n rfl ?_
                refine q_getR (Sh.ref hI343.1 kx_231 rfl) ?_
                refine r_bipush 10 rfl ?_
                refine r_iconst 3 rfl ?_
                refine r_iload rfl ?_
                refine q_imul (3 * v334.toInt) rfl (by omega) (fun v345 hv345 => ?_)
                refine q_iadd (10 + v345.toInt) rfl (by omega) (fun v346 hv346 => ?_)
                refine r_iconst 2 rfl ?_
                refine q_iadd (v346.toInt + 2) rfl (by omega) (fun v347 hv347 => ?_)
                refine r_iload_n rfl ?_
                refine q_iast (Sh.arr hI343.1 ka_233) ((3 * v334.toInt + 12)) (by omega) (by omega) ?_
                have hI348 := HI.ws hI343 (j := (3 * v334.toInt + 12)) (v := a3) (v334.toInt) 2 (by omega) (by decide) (by omega) (by omega)
                have hF349 := Fr.wA (p := 233) (j := (3 * v334.toInt + 12)) (v := a3) hF344 rfl
                refine r_aload_n rfl ?_
                refine q_getR (Sh.ref hI348.1 kx_231 rfl) ?_
                refine r_iconst 0 rfl ?_
                refine r_dup2 ⟨rfl, rfl⟩ ?_
                refine q_iald (Sh.arr hI348.1 ka_233) 0 rfl (by decide) v334 (((eA_sA_ne hI343.1 ka_233 (by first | decide | omega) (by first | decide | omega) (by first | decide | omega)).trans ((eA_sA_ne hI338.1 ka_233 (by first | decide | omega) (by first | decide | omega) (by first | decide | omega)).trans ((eA_sA_ne hI173.1 ka_233 (by first | decide | omega) (by first | decide | omega) (by first | decide | omega)).trans (eA_c gA_sI)))).trans hv334) ?_
                refine r_iconst 1 rfl ?_
                refine q_iadd (v334.toInt + 1) rfl (by omega) (fun v350 hv350 => ?_)
                refine q_iast (Sh.arr hI348.1 ka_233) (0) rfl (by decide) ?_
                have x353 := HI.eqA hI348 (p := 233) (j := 0) ((((eA_sA_ne hI343.1 ka_233 (by first | decide | omega) (by first | decide | omega) (by first | decide | omega)).trans ((eA_sA_ne hI338.1 ka_233 (by first | decide | omega) (by first | decide | omega) (by first | decide | omega)).trans ((eA_sA_ne hI173.1 ka_233 (by first | decide | omega) (by first | decide | omega) (by first | decide | omega)).trans (eA_c gA_sI)))).trans hv334))
                have hI351 := HI.wt0 hI348 (v := v350) (by rw [(((eA_sA_ne hI343.1 ka_233 (by first | decide | omega) (by first | decide | omega) (by first | decide | omega)).trans ((eA_sA_ne hI338.1 ka_233 (by first | decide | omega) (by first | decide | omega) (by first | decide | omega)).trans ((eA_sA_ne hI173.1 ka_233 (by first | decide | omega) (by first | decide | omega) (by first | decide | omega)).trans (eA_c gA_sI)))).trans hv334)]; omega) (by omega) (i := (3 * v334.toInt + 11)) (by rw [(((eA_sA_ne hI343.1 ka_233 (by first | decide | omega) (by first | decide | omega) (by first | decide | omega)).trans ((eA_sA_ne hI338.1 ka_233 (by first | decide | omega) (by first | decide | omega) (by first | decide | omega)).trans ((eA_sA_ne hI173.1 ka_233 (by first | decide | omega) (by first | decide | omega) (by first | decide | omega)).trans (eA_c gA_sI)))).trans hv334)]; omega) (by rw [((eA_sA_ne hI343.1 ka_233 (by first | decide | omega) (by first | decide | omega) (by first | decide | omega)).trans (eA_sA_eq hI338.1 ka_233 (by first | rfl | omega) (by first | decide | omega) (by first | decide | omega)))]; omega)
                have hF352 := Fr.wA (p := 233) (j := 0) (v := v350) hF349 rfl
                refine r_aload_n rfl ?_
                refine r_iload rfl ?_
                refine r_callV 116 rfl [.ref 231, .int v334] [] (Nat.le_of_ble_eq_true rfl) rfl (T_X11_tell_231 _ hI351 v334 (by omega)) ?_
                rintro _ _ ⟨g354, rfl, hI355, hF356, v357, rfl, hr358⟩
                refine At.sti ?_
                have hF359 := Fr.tr hF352 hF356 rfl rfl
                refine At.enter rfl ?_
                refine r_ireti ?_
                have x360 := HI.eqA hI355 (p := 233) (j := 0) (((eA_c (hF356.2.1 233 ma_X11_tell_231_233)).trans (eA_sA_eq hI348.1 ka_233 (by first | rfl | omega) (by first | decide | omega) (by first | decide | omega))))
                obtain ⟨v361, hv361⟩ : ∃ v, eA g0 233 4 = v := ⟨_, rfl⟩
                have wv361 := HI.t4 hI0
                rw [hv361] at wv361
                have tv361 := congrArg Int32.toInt hv361
                have x362 := HI.eqA hI355 (p := 233) (j := 4) ((((eA_c (hF356.2.1 233 ma_X11_tell_231_233)).trans ((eA_sA_ne hI348.1 ka_233 (by first | decide | omega) (by first | decide | omega) (by first | decide | omega)).trans ((eA_sA_ne hI343.1 ka_233 (by first | decide | omega) (by first | decide | omega) (by first | decide | omega)).trans ((eA_sA_ne hI338.1 ka_233 (by first | decide | omega) (by first | decide | omega) (by first | decide | omega)).trans ((eA_sA_ne hI173.1 ka_233 (by first | decide | omega) (by first | decide | omega) (by first | decide | omega)).trans (eA_c gA_sI)))))).trans hv361))
                obtain ⟨v363, hv363⟩ : ∃ v, eA g0 233 5 = v := ⟨_, rfl⟩
                have wv363 := HI.t5 hI0
                rw [hv363] at wv363
                have tv363 := congrArg Int32.toInt hv363
                have x364 := HI.eqA hI355 (p := 233) (j := 5) ((((eA_c (hF356.2.1 233 ma_X11_tell_231_233)).trans ((eA_sA_ne hI348.1 ka_233 (by first | decide | omega) (by first | decide | omega) (by first | decide | omega)).trans ((eA_sA_ne hI343.1 ka_233 (by first | decide | omega) (by first | decide | omega) (by first | decide | omega)).trans ((eA_sA_ne hI338.1 ka_233 (by first | decide | omega) (by first | decide | omega) (by first | decide | omega)).trans ((eA_sA_ne hI173.1 ka_233 (by first | decide | omega) (by first | decide | omega) (by first | decide | omega)).trans (eA_c gA_sI)))))).trans hv363))
                obtain ⟨v365, hv365⟩ : ∃ v, eA g0 233 6 = v := ⟨_, rfl⟩
                have wv365 := HI.t6 hI0
                rw [hv365] at wv365
                have tv365 := congrArg Int32.toInt hv365
                have x366 := HI.eqA hI355 (p := 233) (j := 6) ((((eA_c (hF356.2.1 233 ma_X11_tell_231_233)).trans ((eA_sA_ne hI348.1 ka_233 (by first | decide | omega) (by first | decide | omega) (by first | decide | omega)).trans ((eA_sA_ne hI343.1 ka_233 (by first | decide | omega) (by first | decide | omega) (by first | decide | omega)).trans ((eA_sA_ne hI338.1 ka_233 (by first | decide | omega) (by first | decide | omega) (by first | decide | omega)).trans ((eA_sA_ne hI173.1 ka_233 (by first | decide | omega) (by first | decide | omega) (by first | decide | omega)).trans (eA_c gA_sI)))))).trans hv365))
                obtain ⟨v367, hv367⟩ : ∃ v, eA g0 233 2 = v := ⟨_, rfl⟩
                have tv367 := congrArg Int32.toInt hv367
                have wv367 := HI.t2 hI0
                rw [hv367] at wv367
                have tv367 := congrArg Int32.toInt hv367
                have x368 := HI.eqA hI355 (p := 233) (j := 2) ((((eA_c (hF356.2.1 233 ma_X11_tell_231_233)).trans ((eA_sA_ne hI348.1 ka_233 (by first | decide | omega) (by first | decide | omega) (by first | decide | omega)).trans ((eA_sA_ne hI343.1 ka_233 (by first | decide | omega) (by first | decide | omega) (by first | decide | omega)).trans ((eA_sA_ne hI338.1 ka_233 (by first | decide | omega) (by first | decide | omega) (by first | decide | omega)).trans ((eA_sA_ne hI173.1 ka_233 (by first | decide | omega) (by first | decide | omega) (by first | decide | omega)).trans (eA_c gA_sI)))))).trans hv367))
                obtain ⟨v369, hv369⟩ : ∃ v, eA g0 233 3 = v := ⟨_, rfl⟩
                have wv369 := HI.t3 hI0
                rw [hv369] at wv369
                have tv369 := congrArg Int32.toInt hv369
                have x370 := HI.eqA hI355 (p := 233) (j := 3) ((((eA_c (hF356.2.1 233 ma_X11_tell_231_233)).trans ((eA_sA_ne hI348.1 ka_233 (by first | decide | omega) (by first | decide | omega) (by first | decide | omega)).trans ((eA_sA_ne hI343.1 ka_233 (by first | decide | omega) (by first | decide | omega) (by first | decide | omega)).trans ((eA_sA_ne hI338.1 ka_233 (by first | decide | omega) (by first | decide | omega) (by first | decide | omega)).trans ((eA_sA_ne hI173.1 ka_233 (by first | decide | omega) (by first | decide | omega) (by first | decide | omega)).trans (eA_c gA_sI)))))).trans hv369))
                have x371 := HI.eqA hI0 (p := 233) (j := 0) (hv334)
                have x372 := HI.eqA hI0 (p := 233) (j := 4) (hv361)
                have x373 := HI.eqA hI0 (p := 233) (j := 5) (hv363)
                have x374 := HI.eqA hI0 (p := 233) (j := 6) (hv365)
                have x375 := HI.eqA hI0 (p := 233) (j := 2) (hv367)
                have x376 := HI.eqA hI0 (p := 233) (j := 3) (hv369)
                exact ⟨_, rfl, hI355, hF359, _, rfl, by omega, ⟨by omega, by omega, by omega, by omega, by omega, by omega⟩⟩
              · have c335_ : v334.toInt = 12 := en_i_ne_f c335
                refine At.enter rfl ?_
                refine r_aload_n rfl ?_
                refine r_bipush (-5) rfl ?_
                refine r_callV 56 rfl [.ref 231, .int (-5)] [] (Nat.le_of_ble_eq_true rfl) rfl (T_X11_tell_231 _ hI173 (-5) (by decide)) ?_
                rintro _ _ ⟨g377, rfl, hI378, hF379, v380, rfl, hr381⟩
                refine At.sti ?_
                have hF382 := Fr.tr hF174 hF379 rfl rfl
                have zv383 : ((-5) : Int32).toInt = (-5) := rfl
                refine At.enter rfl ?_
                refine r_ireti ?_
                have x384 := HI.eqA hI378 (p := 233) (j := 0) ((((eA_c (hF379.2.1 233 ma_X11_tell_231_233)).trans (eA_c gA_sI)).trans hv334))
                obtain ⟨v385, hv385⟩ : ∃ v, eA g0 233 4 = v := ⟨_, rfl⟩
                have wv385 := HI.t4 hI0
                rw [hv385] at wv385
                have tv385 := congrArg Int32.toInt hv385
                have x386 := HI.eqA hI378 (p := 233) (j := 4) ((((eA_c (hF379.2.1 233 ma_X11_tell_231_233)).trans (eA_c gA_sI)).trans hv385))
                obtain ⟨v387, hv387⟩ : ∃ v, eA g0 233 5 = v := ⟨_, rfl⟩
                have wv387 := HI.t5 hI0
                rw [hv387] at wv387
                have tv387 := congrArg Int32.toInt hv387
                have x388 := HI.eqA hI378 (p := 233) (j := 5) ((((eA_c (hF379.2.1 233 ma_X11_tell_231_233)).trans (eA_c gA_sI)).trans hv387))
                obtain ⟨v389, hv389⟩ : ∃ v, eA g0 233 6 = v := ⟨_, rfl⟩
                have wv389 := HI.t6 hI0
                rw [hv389] at wv389
                have tv389 := congrArg Int32.toInt hv389
                have x390 := HI.eqA hI378 (p := 233) (j := 6) ((((eA_c (hF379.2.1 233 ma_X11_tell_231_233)).trans (eA_c gA_sI)).trans hv389))
                obtain ⟨v391, hv391⟩ : ∃ v, eA g0 233 2 = v := ⟨_, rfl⟩
                have tv391 := congrArg Int32.toInt hv391
                have wv391 := HI.t2 hI0
                rw [hv391] at wv391
                have tv391 := congrArg Int32.toInt hv391
                have x392 := HI.eqA hI378 (p := 233) (j := 2) ((((eA_c (hF379.2.1 233 ma_X11_tell_231_233)).trans (eA_c gA_sI)).trans hv391))
                obtain ⟨v393, hv393⟩ : ∃ v, eA g0 233 3 = v := ⟨_, rfl⟩
                have wv393 := HI.t3 hI0
                rw [hv393] at wv393
                have tv393 := congrArg Int32.toInt hv393
                have x394 := HI.eqA hI378 (p := 233) (j := 3) ((((eA_c (hF379.2.1 233 ma_X11_tell_231_233)).trans (eA_c gA_sI)).trans hv393))
                have x395 := HI.eqA hI0 (p := 233) (j := 0) (hv334)
                have x396 := HI.eqA hI0 (p := 233) (j := 4) (hv385)
                have x397 := HI.eqA hI0 (p := 233) (j := 5) (hv387)
                have x398 := HI.eqA hI0 (p := 233) (j := 6) (hv389)
                have x399 := HI.eqA hI0 (p := 233) (j := 2) (hv391)
                have x400 := HI.eqA hI0 (p := 233) (j := 3) (hv393)
                exact ⟨_, rfl, hI378, hF382, _, rfl, by omega, ⟨by omega, by omega, by omega, by omega, by omega, by omega⟩⟩
