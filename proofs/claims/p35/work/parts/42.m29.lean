def F_X11_sign_231 : List (Nat × Nat) := [(231, 0), (231, 1)]
def A_X11_sign_231 : List Nat := [232, 233]
set_option maxRecDepth 100000 in
set_option maxHeartbeats 4000000 in
theorem T_X11_sign_231 (d : Nat) {N : Nat} {g0 : List en_E} (hI0 : HI g0) (a1 : Int32) (a2 : Int32) : Ev (d + 3) 254 [.ref 231, .int a1, .int a2] (g0, N) (fun w h' => ∃ g', h' = (g', N) ∧ HI g' ∧ Fr F_X11_sign_231 A_X11_sign_231 g0 g' ∧ ∃ r : Int32, w = some (.int r) ∧ ((-5) ≤ r.toInt ∧ r.toInt ≤ 8) ∧ ((((¬ (0 ≤ a2.toInt ∧ a2.toInt ≤ 99) → r.toInt = -1 ∧ (eA g' 233 4).toInt = (eA g0 233 4).toInt) ∧ ((0 ≤ a2.toInt ∧ a2.toInt ≤ 99) ∧ ¬ (0 ≤ a1.toInt ∧ a1.toInt < (eA g0 233 0).toInt) → r.toInt = -2 ∧ (eA g' 233 4).toInt = (eA g0 233 4).toInt) ∧ ((0 ≤ a2.toInt ∧ a2.toInt ≤ 99) ∧ (0 ≤ a1.toInt ∧ a1.toInt < (eA g0 233 0).toInt) ∧ 8 ≤ (eA g0 233 4).toInt → r.toInt = -5 ∧ (eA g' 233 4).toInt = (eA g0 233 4).toInt) ∧ ((0 ≤ a2.toInt ∧ a2.toInt ≤ 99) ∧ (0 ≤ a1.toInt ∧ a1.toInt < (eA g0 233 0).toInt) ∧ (eA g0 233 4).toInt < 8 → r.toInt = (eA g0 233 4).toInt + 1 ∧ (eA g' 233 4).toInt = (eA g0 233 4).toInt + 1)) ∧ (eA g' 233 0).toInt = (eA g0 233 0).toInt ∧ (eA g' 233 5).toInt = (eA g0 233 5).toInt ∧ (eA g' 233 6).toInt = (eA g0 233 6).toInt) ∧ (∀ i : Int, 10 ≤ i → i < 110 → (eA g' 233 (i)).toInt = if (0 ≤ a2.toInt ∧ a2.toInt ≤ 99 ∧ 0 ≤ a1.toInt ∧ a1.toInt < (eA g0 233 0).toInt ∧ (eA g0 233 4).toInt < 8) ∧ i = 94 + 2 * (eA g0 233 4).toInt + 0 then a1.toInt else if (0 ≤ a2.toInt ∧ a2.toInt ≤ 99 ∧ 0 ≤ a1.toInt ∧ a1.toInt < (eA g0 233 0).toInt ∧ (eA g0 233 4).toInt < 8) ∧ i = 94 + 2 * (eA g0 233 4).toInt + 1 then a2.toInt else (eA g0 233 (i)).toInt))) := by
  have hF0 : Fr F_X11_sign_231 A_X11_sign_231 g0 g0 := Fr.rf
  refine Ev.mk rfl rfl ⟨Nat.le_of_ble_eq_true rfl, Or.inr (q_rc hI0.1 kx_231 rfl)⟩ ?_
  show At _ none _ _ (0, [(0, .ref 231), (1, .int a1), (2, .int a2)], [], (_, _)) _
  refine At.enter rfl ?_
  refine r_aload_n rfl ?_
  refine r_iconst 0 rfl ?_
  refine q_putI (Sh.int hI0.1 kx_231 rfl) rfl ?_
  have hI135 := HI.wI0 hI0 kx_231 rfl (p := 231) (b := 0) (v := 0) rfl
  have hF136 := Fr.wI (p := 231) (b := 0) (v := 0) hF0 rfl
  refine r_iload_n rfl ?_
  refine q_i2l (fun v137 hv137 => ?_)
  refine r_lconst 0 rfl ?_
  refine r_ldc2 99 rfl ?_
  refine q_inlS 14 rfl [.long v137, .long 0, .long 99] [] (Nat.le_of_ble_eq_true rfl) rfl ?_
  refine Ev.mk rfl rfl ⟨Nat.le_of_ble_eq_true rfl, Or.inl rfl⟩ ?_
  show At _ none _ _ (0, [(0, .long v137), (2, .long 0), (4, .long 99)], [], (_, _)) _
  refine At.enter rfl ?_
  refine r_lload_n rfl ?_
  refine r_lload_n rfl ?_
  refine r_lcmp _ rfl ?_
  refine r_ifs 6 rfl (fun c138 => ?_) (fun c138 => ?_)
  · have c138_ : v137.toInt < 0 := en_j_lt_t c138
    refine At.enter rfl ?_
    refine r_iconst 0 rfl ?_
    refine Ar.fall 18 rfl ?_
    refine At.enter rfl ?_
    refine q_iretz (by decide) ?_
    refine At.enter rfl ?_
    refine r_iff 17 rfl (by decide) ?_
    refine At.enter rfl ?_
    refine r_aload_n rfl ?_
    refine r_iconst (-1) rfl ?_
    refine r_callV 22 rfl [.ref 231, .int (-1)] [] (Nat.le_of_ble_eq_true rfl) rfl (T_X11_tell_231 _ hI135 (-1) (by decide)) ?_
    rintro _ _ ⟨g139, rfl, hI140, hF141, v142, rfl, hr143⟩
    refine At.sti ?_
    have hF144 := Fr.tr hF136 hF141 rfl rfl
    have zv145 : ((-1) : Int32).toInt = (-1) := rfl
    refine At.enter rfl ?_
    refine r_ireti ?_
    obtain ⟨v146, hv146⟩ : ∃ v, eA g0 233 4 = v := ⟨_, rfl⟩
    have wv146 := HI.t4 hI0
    rw [hv146] at wv146
    have tv146 := congrArg Int32.toInt hv146
    have x147 := HI.eqA hI140 (p := 233) (j := 4) ((((eA_c (hF141.2.1 233 (by decide))).trans (eA_c gA_sI)).trans hv146))
    obtain ⟨v148, hv148⟩ : ∃ v, eA g0 233 0 = v := ⟨_, rfl⟩
    have tv148 := congrArg Int32.toInt hv148
    have wv148 := HI.t0 hI0
    rw [hv148] at wv148
    have tv148 := congrArg Int32.toInt hv148
    have x149 := HI.eqA hI140 (p := 233) (j := 0) ((((eA_c (hF141.2.1 233 (by decide))).trans (eA_c gA_sI)).trans hv148))
    obtain ⟨v150, hv150⟩ : ∃ v, eA g0 233 5 = v := ⟨_, rfl⟩
    have wv150 := HI.t5 hI0
    rw [hv150] at wv150
    have tv150 := congrArg Int32.toInt hv150
    have x151 := HI.eqA hI140 (p := 233) (j := 5) ((((eA_c (hF141.2.1 233 (by decide))).trans (eA_c gA_sI)).trans hv150))
    obtain ⟨v152, hv152⟩ : ∃ v, eA g0 233 6 = v := ⟨_, rfl⟩
    have wv152 := HI.t6 hI0
    rw [hv152] at wv152
    have tv152 := congrArg Int32.toInt hv152
    have x153 := HI.eqA hI140 (p := 233) (j := 6) ((((eA_c (hF141.2.1 233 (by decide))).trans (eA_c gA_sI)).trans hv152))
    have x154 := HI.eqA hI0 (p := 233) (j := 4) (hv146)
    have x155 := HI.eqA hI0 (p := 233) (j := 0) (hv148)
    have x156 := HI.eqA hI0 (p := 233) (j := 0) (hv148)
    have x157 := HI.eqA hI0 (p := 233) (j := 5) (hv150)
    have x158 := HI.eqA hI0 (p := 233) (j := 6) (hv152)
    have x159 := HI.eqA hI0 (p := 233) (j := 0) (hv148)
    have x160 := HI.eqA hI0 (p := 233) (j := 4) (hv146)
    exact ⟨_, rfl, hI140, hF144, _, rfl, by omega, ⟨⟨by omega, by omega, by omega, by omega⟩, (by intro i i0 i1; refine Eq.trans ?_ (if_neg (show ¬ ((0 ≤ a2.toInt ∧ a2.toInt ≤ 99 ∧ 0 ≤ a1.toInt ∧ a1.toInt < (eA g0 233 0).toInt ∧ (eA g0 233 4).toInt < 8) ∧ i = 94 + 2 * (eA g0 233 4).toInt + 0) from by omega)).symm; refine Eq.trans ?_ (if_neg (show ¬ ((0 ≤ a2.toInt ∧ a2.toInt ≤ 99 ∧ 0 ≤ a1.toInt ∧ a1.toInt < (eA g0 233 0).toInt ∧ (eA g0 233 4).toInt < 8) ∧ i = 94 + 2 * (eA g0 233 4).toInt + 1) from by omega)).symm; refine (eA_ti (((hF141.2.1 233 (by decide)).trans (gA_sI)))).trans ?_; (first | rfl | exact eA_ix (by omega) | omega))⟩⟩
  · have c138_ : v137.toInt ≥ 0 := en_j_lt_f c138
    refine At.enter rfl ?_
    refine r_lload_n rfl ?_
    refine r_lload rfl ?_
    refine r_lcmp _ rfl ?_
    refine r_ifs 13 rfl (fun c161 => ?_) (fun c161 => ?_)
    · have c161_ : v137.toInt > 99 := en_j_gt_t c161
      refine At.enter rfl ?_
      refine r_iconst 0 rfl ?_
      refine Ar.fall 18 rfl ?_
      refine At.enter rfl ?_
      refine q_iretz (by decide) ?_
      refine At.enter rfl ?_
      refine r_iff 17 rfl (by decide) ?_
      refine At.enter rfl ?_
      refine r_aload_n rfl ?_
      refine r_iconst (-1) rfl ?_
      refine r_callV 22 rfl [.ref 231, .int (-1)] [] (Nat.le_of_ble_eq_true rfl) rfl (T_X11_tell_231 _ hI135 (-1) (by decide)) ?_
      rintro _ _ ⟨g162, rfl, hI163, hF164, v165, rfl, hr166⟩
      refine At.sti ?_
      have hF167 := Fr.tr hF136 hF164 rfl rfl
      have zv168 : ((-1) : Int32).toInt = (-1) := rfl
      refine At.enter rfl ?_
      refine r_ireti ?_
      obtain ⟨v169, hv169⟩ : ∃ v, eA g0 233 4 = v := ⟨_, rfl⟩
      have wv169 := HI.t4 hI0
      rw [hv169] at wv169
      have tv169 := congrArg Int32.toInt hv169
      have x170 := HI.eqA hI163 (p := 233) (j := 4) ((((eA_c (hF164.2.1 233 (by decide))).trans (eA_c gA_sI)).trans hv169))
      obtain ⟨v171, hv171⟩ : ∃ v, eA g0 233 0 = v := ⟨_, rfl⟩
      have tv171 := congrArg Int32.toInt hv171
      have wv171 := HI.t0 hI0
      rw [hv171] at wv171
      have tv171 := congrArg Int32.toInt hv171
      have x172 := HI.eqA hI163 (p := 233) (j := 0) ((((eA_c (hF164.2.1 233 (by decide))).trans (eA_c gA_sI)).trans hv171))
      obtain ⟨v173, hv173⟩ : ∃ v, eA g0 233 5 = v := ⟨_, rfl⟩
      have wv173 := HI.t5 hI0
      rw [hv173] at wv173
      have tv173 := congrArg Int32.toInt hv173
      have x174 := HI.eqA hI163 (p := 233) (j := 5) ((((eA_c (hF164.2.1 233 (by decide))).trans (eA_c gA_sI)).trans hv173))
      obtain ⟨v175, hv175⟩ : ∃ v, eA g0 233 6 = v := ⟨_, rfl⟩
      have wv175 := HI.t6 hI0
      rw [hv175] at wv175
      have tv175 := congrArg Int32.toInt hv175
      have x176 := HI.eqA hI163 (p := 233) (j := 6) ((((eA_c (hF164.2.1 233 (by decide))).trans (eA_c gA_sI)).trans hv175))
      have x177 := HI.eqA hI0 (p := 233) (j := 4) (hv169)
      have x178 := HI.eqA hI0 (p := 233) (j := 0) (hv171)
      have x179 := HI.eqA hI0 (p := 233) (j := 0) (hv171)
      have x180 := HI.eqA hI0 (p := 233) (j := 5) (hv173)
      have x181 := HI.eqA hI0 (p := 233) (j := 6) (hv175)
      have x182 := HI.eqA hI0 (p := 233) (j := 0) (hv171)
      have x183 := HI.eqA hI0 (p := 233) (j := 4) (hv169)
      exact ⟨_, rfl, hI163, hF167, _, rfl, by omega, ⟨⟨by omega, by omega, by omega, by omega⟩, (by intro i i0 i1; refine Eq.trans ?_ (if_neg (show ¬ ((0 ≤ a2.toInt ∧ a2.toInt ≤ 99 ∧ 0 ≤ a1.toInt ∧ a1.toInt < (eA g0 233 0).toInt ∧ (eA g0 233 4).toInt < 8) ∧ i = 94 + 2 * (eA g0 233 4).toInt + 0) from by omega)).symm; refine Eq.trans ?_ (if_neg (show ¬ ((0 ≤ a2.toInt ∧ a2.toInt ≤ 99 ∧ 0 ≤ a1.toInt ∧ a1.toInt < (eA g0 233 0).toInt ∧ (eA g0 233 4).toInt < 8) ∧ i = 94 + 2 * (eA g0 233 4).toInt + 1) from by omega)).symm; refine (eA_ti (((hF164.2.1 233 (by decide)).trans (gA_sI)))).trans ?_; (first | rfl | exact eA_ix (by omega) | omega))⟩⟩
    · have c161_ : v137.toInt ≤ 99 := en_j_gt_f c161
      refine At.enter rfl ?_
      refine r_iconst 1 rfl ?_
      refine r_goto ?_
      refine At.enter rfl ?_
      refine q_iretz (by decide) ?_
      refine At.enter rfl ?_
      refine r_ift (by decide) ?_
      refine At.enter rfl ?_
      refine r_aload_n rfl ?_
      refine r_iload_n rfl ?_
      refine q_inlV 28 rfl [.ref 231, .int a1] [] (Nat.le_of_ble_eq_true rfl) rfl ?_
      refine Ev.mk rfl rfl ⟨Nat.le_of_ble_eq_true rfl, Or.inr (q_rc hI135.1 kx_231 rfl)⟩ ?_
      show At _ none _ _ (0, [(0, .ref 231), (1, .int a1)], [], (_, _)) _
      refine At.enter rfl ?_
      refine r_iload_n rfl ?_
      refine q_i2l (fun v184 hv184 => ?_)
      refine r_lconst 0 rfl ?_
      refine r_aload_n rfl ?_
      refine q_getR (Sh.ref hI135.1 kx_231 rfl) ?_
      refine r_iconst 0 rfl ?_
      obtain ⟨v185, hv185⟩ : ∃ v, eA g0 233 0 = v := ⟨_, rfl⟩
      have tv185 := congrArg Int32.toInt hv185
      have wv185 := HI.t0 hI0
      rw [hv185] at wv185
      refine q_iald (Sh.arr hI135.1 ka_233) 0 rfl (by decide) v185 ((eA_c (gA_sI)).trans hv185) ?_
      refine q_i2l (fun v186 hv186 => ?_)
      refine r_lconst 1 rfl ?_
      refine q_lsub (v186.toInt - 1) rfl (by omega) (fun v187 hv187 => ?_)
      refine q_inlS 15 rfl [.long v184, .long 0, .long v187] [] (Nat.le_of_ble_eq_true rfl) rfl ?_
      refine Ev.mk rfl rfl ⟨Nat.le_of_ble_eq_true rfl, Or.inl rfl⟩ ?_
      show At _ none _ _ (0, [(0, .long v184), (2, .long 0), (4, .long v187)], [], (_, _)) _
      refine At.enter rfl ?_
      refine r_lload_n rfl ?_
      refine r_lload_n rfl ?_
      refine r_lcmp _ rfl ?_
      refine r_ifs 6 rfl (fun c188 => ?_) (fun c188 => ?_)
      · have c188_ : v184.toInt < 0 := en_j_lt_t c188
        refine At.enter rfl ?_
        refine r_iconst 0 rfl ?_
        refine Ar.fall 18 rfl ?_
        refine At.enter rfl ?_
        refine q_iretz (by decide) ?_
        refine At.enter rfl ?_
        refine q_iretz (by decide) ?_
        refine At.enter rfl ?_
        refine r_iff 31 rfl (by decide) ?_
        refine At.enter rfl ?_
        refine r_aload_n rfl ?_
        refine r_bipush (-2) rfl ?_
        refine r_callV 37 rfl [.ref 231, .int (-2)] [] (Nat.le_of_ble_eq_true rfl) rfl (T_X11_tell_231 _ hI135 (-2) (by decide)) ?_
        rintro _ _ ⟨g189, rfl, hI190, hF191, v192, rfl, hr193⟩
        refine At.sti ?_
        have hF194 := Fr.tr hF136 hF191 rfl rfl
        have zv195 : ((-2) : Int32).toInt = (-2) := rfl
        refine At.enter rfl ?_
        refine r_ireti ?_
        obtain ⟨v196, hv196⟩ : ∃ v, eA g0 233 4 = v := ⟨_, rfl⟩
        have wv196 := HI.t4 hI0
        rw [hv196] at wv196
        have tv196 := congrArg Int32.toInt hv196
        have x197 := HI.eqA hI190 (p := 233) (j := 4) ((((eA_c (hF191.2.1 233 (by decide))).trans (eA_c gA_sI)).trans hv196))
        have x198 := HI.eqA hI190 (p := 233) (j := 0) ((((eA_c (hF191.2.1 233 (by decide))).trans (eA_c gA_sI)).trans hv185))
        obtain ⟨v199, hv199⟩ : ∃ v, eA g0 233 5 = v := ⟨_, rfl⟩
        have wv199 := HI.t5 hI0
        rw [hv199] at wv199
        have tv199 := congrArg Int32.toInt hv199
        have x200 := HI.eqA hI190 (p := 233) (j := 5) ((((eA_c (hF191.2.1 233 (by decide))).trans (eA_c gA_sI)).trans hv199))
        obtain ⟨v201, hv201⟩ : ∃ v, eA g0 233 6 = v := ⟨_, rfl⟩
        have wv201 := HI.t6 hI0
        rw [hv201] at wv201
        have tv201 := congrArg Int32.toInt hv201
        have x202 := HI.eqA hI190 (p := 233) (j := 6) ((((eA_c (hF191.2.1 233 (by decide))).trans (eA_c gA_sI)).trans hv201))
        have x203 := HI.eqA hI0 (p := 233) (j := 4) (hv196)
        have x204 := HI.eqA hI0 (p := 233) (j := 0) (hv185)
        have x205 := HI.eqA hI0 (p := 233) (j := 0) (hv185)
        have x206 := HI.eqA hI0 (p := 233) (j := 5) (hv199)
        have x207 := HI.eqA hI0 (p := 233) (j := 6) (hv201)
        have x208 := HI.eqA hI0 (p := 233) (j := 0) (hv185)
        have x209 := HI.eqA hI0 (p := 233) (j := 4) (hv196)
        exact ⟨_, rfl, hI190, hF194, _, rfl, by omega, ⟨⟨by omega, by omega, by omega, by omega⟩, (by intro i i0 i1; refine Eq.trans ?_ (if_neg (show ¬ ((0 ≤ a2.toInt ∧ a2.toInt ≤ 99 ∧ 0 ≤ a1.toInt ∧ a1.toInt < (eA g0 233 0).toInt ∧ (eA g0 233 4).toInt < 8) ∧ i = 94 + 2 * (eA g0 233 4).toInt + 0) from by omega)).symm; refine Eq.trans ?_ (if_neg (show ¬ ((0 ≤ a2.toInt ∧ a2.toInt ≤ 99 ∧ 0 ≤ a1.toInt ∧ a1.toInt < (eA g0 233 0).toInt ∧ (eA g0 233 4).toInt < 8) ∧ i = 94 + 2 * (eA g0 233 4).toInt + 1) from by omega)).symm; refine (eA_ti (((hF191.2.1 233 (by decide)).trans (gA_sI)))).trans ?_; (first | rfl | exact eA_ix (by omega) | omega))⟩⟩
      · have c188_ : v184.toInt ≥ 0 := en_j_lt_f c188
        refine At.enter rfl ?_
        refine r_lload_n rfl ?_
        refine r_lload rfl ?_
        refine r_lcmp _ rfl ?_
        refine r_ifs 13 rfl (fun c210 => ?_) (fun c210 => ?_)
        · have c210_ : v184.toInt > v187.toInt := en_j_gt_t c210
          refine At.enter rfl ?_
          refine r_iconst 0 rfl ?_
          refine Ar.fall 18 rfl ?_
          refine At.enter rfl ?_
          refine q_iretz (by decide) ?_
          refine At.enter rfl ?_
          refine q_iretz (by decide) ?_
          refine At.enter rfl ?_
          refine r_iff 31 rfl (by decide) ?_
          refine At.enter rfl ?_
          refine r_aload_n rfl ?_
          refine r_bipush (-2) rfl ?_
          refine r_callV 37 rfl [.ref 231, .int (-2)] [] (Nat.le_of_ble_eq_true rfl) rfl (T_X11_tell_231 _ hI135 (-2) (by decide)) ?_
          rintro _ _ ⟨g211, rfl, hI212, hF213, v214, rfl, hr215⟩
          refine At.sti ?_
          have hF216 := Fr.tr hF136 hF213 rfl rfl
          have zv217 : ((-2) : Int32).toInt = (-2) := rfl
          refine At.enter rfl ?_
          refine r_ireti ?_
          obtain ⟨v218, hv218⟩ : ∃ v, eA g0 233 4 = v := ⟨_, rfl⟩
          have wv218 := HI.t4 hI0
          rw [hv218] at wv218
          have tv218 := congrArg Int32.toInt hv218
          have x219 := HI.eqA hI212 (p := 233) (j := 4) ((((eA_c (hF213.2.1 233 (by decide))).trans (eA_c gA_sI)).trans hv218))
          have x220 := HI.eqA hI212 (p := 233) (j := 0) ((((eA_c (hF213.2.1 233 (by decide))).trans (eA_c gA_sI)).trans hv185))
          obtain ⟨v221, hv221⟩ : ∃ v, eA g0 233 5 = v := ⟨_, rfl⟩
          have wv221 := HI.t5 hI0
          rw [hv221] at wv221
          have tv221 := congrArg Int32.toInt hv221
          have x222 := HI.eqA hI212 (p := 233) (j := 5) ((((eA_c (hF213.2.1 233 (by decide))).trans (eA_c gA_sI)).trans hv221))
          obtain ⟨v223, hv223⟩ : ∃ v, eA g0 233 6 = v := ⟨_, rfl⟩
          have wv223 := HI.t6 hI0
          rw [hv223] at wv223
          have tv223 := congrArg Int32.toInt hv223
          have x224 := HI.eqA hI212 (p := 233) (j := 6) ((((eA_c (hF213.2.1 233 (by decide))).trans (eA_c gA_sI)).trans hv223))
          have x225 := HI.eqA hI0 (p := 233) (j := 4) (hv218)
          have x226 := HI.eqA hI0 (p := 233) (j := 0) (hv185)
          have x227 := HI.eqA hI0 (p := 233) (j := 0) (hv185)
          have x228 := HI.eqA hI0 (p := 233) (j := 5) (hv221)
          have x229 := HI.eqA hI0 (p := 233) (j := 6) (hv223)
          have x230 := HI.eqA hI0 (p := 233) (j := 0) (hv185)
          have x231 := HI.eqA hI0 (p := 233) (j := 4) (hv218)
          exact ⟨_, rfl, hI212, hF216, _, rfl, by omega, ⟨⟨by omega, by omega, by omega, by omega⟩, (by intro i i0 i1; refine Eq.trans ?_ (if_neg (show ¬ ((0 ≤ a2.toInt ∧ a2.toInt ≤ 99 ∧ 0 ≤ a1.toInt ∧ a1.toInt < (eA g0 233 0).toInt ∧ (eA g0 233 4).toInt < 8) ∧ i = 94 + 2 * (eA g0 233 4).toInt + 0) from by omega)).symm; refine Eq.trans ?_ (if_neg (show ¬ ((0 ≤ a2.toInt ∧ a2.toInt ≤ 99 ∧ 0 ≤ a1.toInt ∧ a1.toInt < (eA g0 233 0).toInt ∧ (eA g0 233 4).toInt < 8) ∧ i = 94 + 2 * (eA g0 233 4).toInt + 1) from by omega)).symm; refine (eA_ti (((hF213.2.1 233 (by decide)).trans (gA_sI)))).trans ?_; (first | rfl | exact eA_ix (by omega) | omega))⟩⟩
        · have c210_ : v184.toInt ≤ v187.toInt := en_j_gt_f c210
          refine At.enter rfl ?_
          refine r_iconst 1 rfl ?_
          refine r_goto ?_
          refine At.enter rfl ?_
          refine q_iretz (by decide) ?_
          refine At.enter rfl ?_
          refine q_iretz (by decide) ?_
          refine At.enter rfl ?_
          refine r_ift (by decide) ?_
          refine At.enter rfl ?_
          refine r_aload_n rfl ?_
          refine q_getR (Sh.ref hI135.1 kx_231 rfl) ?_
          refine r_iconst 4 rfl ?_
          obtain ⟨v232, hv232⟩ : ∃ v, eA g0 233 4 = v := ⟨_, rfl⟩
          have wv232 := HI.t4 hI0
          rw [hv232] at wv232
          refine q_iald (Sh.arr hI135.1 ka_233) 4 rfl (by decide) v232 ((eA_c (gA_sI)).trans hv232) ?_
          refine r_istore_n ([(3, .int v232), (0, .ref 231), (1, .int a1), (2, .int a2)]) rfl ?_
          refine r_iload_n rfl ?_
          refine r_bipush 8 rfl ?_
          refine r_ics 51 rfl (fun c233 => ?_) (fun c233 => ?_)
          · have c233_ : v232.toInt ≠ 8 := en_i_ne_t c233
            refine At.enter rfl ?_
            refine r_aload_n rfl ?_
            refine q_getR (Sh.ref hI135.1 kx_231 rfl) ?_
            refine r_bipush 94 rfl ?_
            refine r_iconst 2 rfl ?_
            refine r_iload_n rfl ?_
            refine q_imul (2 * v232.toInt) rfl (by omega) (fun v234 hv234 => ?_)
            refine q_iadd (94 + v234.toInt) rfl (by omega) (fun v235 hv235 => ?_)
            refine r_iload_n rfl ?_
            refine q_iast (Sh.arr hI135.1 ka_233) ((2 * v232.toInt + 94)) (by omega) (by omega) ?_
            have hI236 := HI.wg hI135 (j := (2 * v232.toInt + 94)) (v := a1) (v232.toInt) 0 (by omega) (by decide) (by omega) (by omega)
            have hF237 := Fr.wA (p := 233) (j := (2 * v232.toInt + 94)) (v := a1) hF136 rfl
            refine r_aload_n rfl ?_
            refine q_getR (Sh.ref hI236.1 kx_231 rfl) ?_
            refine r_bipush 94 rfl ?_
            refine r_iconst 2 rfl ?_
            refine r_iload_n rfl ?_
            refine q_imul (2 * v232.toInt) rfl (by omega) (fun v238 hv238 => ?_)
            refine q_iadd (94 + v238.toInt) rfl (by omega) (fun v239 hv239 => ?_)
            refine r_iconst 1 rfl ?_
            refine q_iadd (v239.toInt + 1) rfl (by omega) (fun v240 hv240 => ?_)
            refine r_iload_n rfl ?_
            refine q_iast (Sh.arr hI236.1 ka_233) ((2 * v232.toInt + 95)) (by omega) (by omega) ?_
            have hI241 := HI.wg hI236 (j := (2 * v232.toInt + 95)) (v := a2) (v232.toInt) 1 (by omega) (by decide) (by omega) (by omega)
            have hF242 := Fr.wA (p := 233) (j := (2 * v232.toInt + 95)) (v := a2) hF237 rfl
            refine r_aload_n rfl ?_
            refine q_getR (Sh.ref hI241.1 kx_231 rfl) ?_
            refine r_iconst 4 rfl ?_
            refine r_dup2 ⟨rfl, rfl⟩ ?_
            refine q_iald (Sh.arr hI241.1 ka_233) 4 rfl (by decide) v232 (((eA_sA_ne hI236.1 ka_233 (by first | decide | omega) (by first | decide | omega) (by first | decide | omega)).trans ((eA_sA_ne hI135.1 ka_233 (by first | decide | omega) (by first | decide | omega) (by first | decide | omega)).trans (eA_c gA_sI))).trans hv232) ?_
            refine r_iconst 1 rfl ?_
            refine q_iadd (v232.toInt + 1) rfl (by omega) (fun v243 hv243 => ?_)
            refine q_iast (Sh.arr hI241.1 ka_233) (4) rfl (by decide) ?_
            have hI244 := HI.wt hI241 (j := 4) (v := v243) (by omega) (by omega)
            have hF245 := Fr.wA (p := 233) (j := 4) (v := v243) hF242 rfl
            refine r_aload_n rfl ?_
            refine r_iload_n rfl ?_
            refine r_iconst 1 rfl ?_
            refine q_iadd (v232.toInt + 1) rfl (by omega) (fun v246 hv246 => ?_)
            refine r_callV 101 rfl [.ref 231, .int v246] [] (Nat.le_of_ble_eq_true rfl) rfl (T_X11_tell_231 _ hI244 v246 (by omega)) ?_
            rintro _ _ ⟨g247, rfl, hI248, hF249, v250, rfl, hr251⟩
            refine At.sti ?_
            have hF252 := Fr.tr hF245 hF249 rfl rfl
            refine At.enter rfl ?_
            refine r_ireti ?_
            have x253 := HI.eqA hI248 (p := 233) (j := 4) (((eA_c (hF249.2.1 233 (by decide))).trans (eA_sA_eq hI241.1 ka_233 (by first | rfl | omega) (by first | decide | omega) (by first | decide | omega))))
            have x254 := HI.eqA hI248 (p := 233) (j := 0) ((((eA_c (hF249.2.1 233 (by decide))).trans ((eA_sA_ne hI241.1 ka_233 (by first | decide | omega) (by first | decide | omega) (by first | decide | omega)).trans ((eA_sA_ne hI236.1 ka_233 (by first | decide | omega) (by first | decide | omega) (by first | decide | omega)).trans ((eA_sA_ne hI135.1 ka_233 (by first | decide | omega) (by first | decide | omega) (by first | decide | omega)).trans (eA_c gA_sI))))).trans hv185))
            obtain ⟨v255, hv255⟩ : ∃ v, eA g0 233 5 = v := ⟨_, rfl⟩
            have wv255 := HI.t5 hI0
            rw [hv255] at wv255
            have tv255 := congrArg Int32.toInt hv255
            have x256 := HI.eqA hI248 (p := 233) (j := 5) ((((eA_c (hF249.2.1 233 (by decide))).trans ((eA_sA_ne hI241.1 ka_233 (by first | decide | omega) (by first | decide | omega) (by first | decide | omega)).trans ((eA_sA_ne hI236.1 ka_233 (by first | decide | omega) (by first | decide | omega) (by first | decide | omega)).trans ((eA_sA_ne hI135.1 ka_233 (by first | decide | omega) (by first | decide | omega) (by first | decide | omega)).trans (eA_c gA_sI))))).trans hv255))
            obtain ⟨v257, hv257⟩ : ∃ v, eA g0 233 6 = v := ⟨_, rfl⟩
            have wv257 := HI.t6 hI0
            rw [hv257] at wv257
            have tv257 := congrArg Int32.toInt hv257
            have x258 := HI.eqA hI248 (p := 233) (j := 6) ((((eA_c (hF249.2.1 233 (by decide))).trans ((eA_sA_ne hI241.1 ka_233 (by first | decide | omega) (by first | decide | omega) (by first | decide | omega)).trans ((eA_sA_ne hI236.1 ka_233 (by first | decide | omega) (by first | decide | omega) (by first | decide | omega)).trans ((eA_sA_ne hI135.1 ka_233 (by first | decide | omega) (by first | decide | omega) (by first | decide | omega)).trans (eA_c gA_sI))))).trans hv257))
            have x259 := HI.eqA hI0 (p := 233) (j := 4) (hv232)
            have x260 := HI.eqA hI0 (p := 233) (j := 0) (hv185)
            have x261 := HI.eqA hI0 (p := 233) (j := 0) (hv185)
            have x262 := HI.eqA hI0 (p := 233) (j := 5) (hv255)
            have x263 := HI.eqA hI0 (p := 233) (j := 6) (hv257)
            have x264 := HI.eqA hI0 (p := 233) (j := 0) (hv185)
            have x265 := HI.eqA hI0 (p := 233) (j := 4) (hv232)
            exact ⟨_, rfl, hI248, hF252, _, rfl, by omega, ⟨⟨by omega, by omega, by omega, by omega⟩, (by intro i i0 i1; exact (Decidable.em ((0 ≤ a2.toInt ∧ a2.toInt ≤ 99 ∧ 0 ≤ a1.toInt ∧ a1.toInt < (eA g0 233 0).toInt ∧ (eA g0 233 4).toInt < 8) ∧ i = 94 + 2 * (eA g0 233 4).toInt + 0)).elim (fun k171_ => by refine Eq.trans ?_ (if_pos k171_).symm; refine (eA_ti ((hF249.2.1 233 (by decide)))).trans ?_; exact (Decidable.em (i = 4)).elim (fun k172_ => by refine (eA_eqT hI241.1 ka_233 k172_ (by first | decide | omega) (by first | decide | omega)).trans ?_; (first | (rfl) | (omega))) (fun k172_ => by refine (eA_neT hI241.1 ka_233 k172_ (by first | decide | omega) (by omega)).trans ?_; exact (Decidable.em (i = (2 * v232.toInt + 95))).elim (fun k173_ => by refine (eA_eqT hI236.1 ka_233 k173_ (by first | decide | omega) (by first | decide | omega)).trans ?_; (first | (rfl) | (omega))) (fun k173_ => by refine (eA_neT hI236.1 ka_233 k173_ (by first | decide | omega) (by omega)).trans ?_; exact (Decidable.em (i = (2 * v232.toInt + 94))).elim (fun k174_ => by refine (eA_eqT hI135.1 ka_233 k174_ (by first | decide | omega) (by first | decide | omega)).trans ?_; (first | (rfl) | (omega))) (fun k174_ => by refine (eA_neT hI135.1 ka_233 k174_ (by first | decide | omega) (by omega)).trans ?_; refine (eA_ti ((gA_sI))).trans ?_; (first | rfl | exact eA_ix (by omega) | omega))))) (fun k171_ => by refine Eq.trans ?_ (if_neg k171_).symm; exact (Decidable.em ((0 ≤ a2.toInt ∧ a2.toInt ≤ 99 ∧ 0 ≤ a1.toInt ∧ a1.toInt < (eA g0 233 0).toInt ∧ (eA g0 233 4).toInt < 8) ∧ i = 94 + 2 * (eA g0 233 4).toInt + 1)).elim (fun k175_ => by refine Eq.trans ?_ (if_pos k175_).symm; refine (eA_ti ((hF249.2.1 233 (by decide)))).trans ?_; exact (Decidable.em (i = 4)).elim (fun k176_ => by refine (eA_eqT hI241.1 ka_233 k176_ (by first | decide | omega) (by first | decide | omega)).trans ?_; (first | (rfl) | (omega))) (fun k176_ => by refine (eA_neT hI241.1 ka_233 k176_ (by first | decide | omega) (by omega)).trans ?_; exact (Decidable.em (i = (2 * v232.toInt + 95))).elim (fun k177_ => by refine (eA_eqT hI236.1 ka_233 k177_ (by first | decide | omega) (by first | decide | omega)).trans ?_; (first | (rfl) | (omega))) (fun k177_ => by refine (eA_neT hI236.1 ka_233 k177_ (by first | decide | omega) (by omega)).trans ?_; exact (Decidable.em (i = (2 * v232.toInt + 94))).elim (fun k178_ => by refine (eA_eqT hI135.1 ka_233 k178_ (by first | decide | omega) (by first | decide | omega)).trans ?_; (first | (rfl) | (omega))) (fun k178_ => by refine (eA_neT hI135.1 ka_233 k178_ (by first | decide | omega) (by omega)).trans ?_; refine (eA_ti ((gA_sI))).trans ?_; (first | rfl | exact eA_ix (by omega) | omega))))) (fun k175_ => by refine Eq.trans ?_ (if_neg k175_).symm; refine (eA_ti ((hF249.2.1 233 (by decide)))).trans ?_; exact (Decidable.em (i = 4)).elim (fun k179_ => by refine (eA_eqT hI241.1 ka_233 k179_ (by first | decide | omega) (by first | decide | omega)).trans ?_; (first | (rfl) | (omega))) (fun k179_ => by refine (eA_neT hI241.1 ka_233 k179_ (by first | decide | omega) (by omega)).trans ?_; exact (Decidable.em (i = (2 * v232.toInt + 95))).elim (fun k180_ => by refine (eA_eqT hI236.1 ka_233 k180_ (by first | decide | omega) (by first | decide | omega)).trans ?_; (first | (rfl) | (omega))) (fun k180_ => by refine (eA_neT hI236.1 ka_233 k180_ (by first | decide | omega) (by omega)).trans ?_; exact (Decidable.em (i = (2 * v232.toInt + 94))).elim (fun k181_ => by refine (eA_eqT hI135.1 ka_233 k181_ (by first | decide | omega) (by first | decide | omega)).trans ?_; (first | (rfl) | (omega))) (fun k181_ => by refine (eA_neT hI135.1 ka_233 k181_ (by first | decide | omega) (by omega)).trans ?_; refine (eA_ti ((gA_sI))).trans ?_; (first | rfl | exact eA_ix (by omega) | omega)))))))⟩⟩
          · have c233_ : v232.toInt = 8 := en_i_ne_f c233
            refine At.enter rfl ?_
            refine r_aload_n rfl ?_
            refine r_bipush (-5) rfl ?_
            refine r_callV 57 rfl [.ref 231, .int (-5)] [] (Nat.le_of_ble_eq_true rfl) rfl (T_X11_tell_231 _ hI135 (-5) (by decide)) ?_
            rintro _ _ ⟨g266, rfl, hI267, hF268, v269, rfl, hr270⟩
            refine At.sti ?_
            have hF271 := Fr.tr hF136 hF268 rfl rfl
            have zv272 : ((-5) : Int32).toInt = (-5) := rfl
            refine At.enter rfl ?_
            refine r_ireti ?_
            have x273 := HI.eqA hI267 (p := 233) (j := 4) ((((eA_c (hF268.2.1 233 (by decide))).trans (eA_c gA_sI)).trans hv232))
            have x274 := HI.eqA hI267 (p := 233) (j := 0) ((((eA_c (hF268.2.1 233 (by decide))).trans (eA_c gA_sI)).trans hv185))
            obtain ⟨v275, hv275⟩ : ∃ v, eA g0 233 5 = v := ⟨_, rfl⟩
            have wv275 := HI.t5 hI0
            rw [hv275] at wv275
            have tv275 := congrArg Int32.toInt hv275
            have x276 := HI.eqA hI267 (p := 233) (j := 5) ((((eA_c (hF268.2.1 233 (by decide))).trans (eA_c gA_sI)).trans hv275))
            obtain ⟨v277, hv277⟩ : ∃ v, eA g0 233 6 = v := ⟨_, rfl⟩
            have wv277 := HI.t6 hI0
            rw [hv277] at wv277
            have tv277 := congrArg Int32.toInt hv277
            have x278 := HI.eqA hI267 (p := 233) (j := 6) ((((eA_c (hF268.2.1 233 (by decide))).trans (eA_c gA_sI)).trans hv277))
            have x279 := HI.eqA hI0 (p := 233) (j := 4) (hv232)
            have x280 := HI.eqA hI0 (p := 233) (j := 0) (hv185)
            have x281 := HI.eqA hI0 (p := 233) (j := 0) (hv185)
            have x282 := HI.eqA hI0 (p := 233) (j := 5) (hv275)
            have x283 := HI.eqA hI0 (p := 233) (j := 6) (hv277)
            have x284 := HI.eqA hI0 (p := 233) (j := 0) (hv185)
            have x285 := HI.eqA hI0 (p := 233) (j := 4) (hv232)
            exact ⟨_, rfl, hI267, hF271, _, rfl, by omega, ⟨⟨by omega, by omega, by omega, by omega⟩, (by intro i i0 i1; refine Eq.trans ?_ (if_neg (show ¬ ((0 ≤ a2.toInt ∧ a2.toInt ≤ 99 ∧ 0 ≤ a1.toInt ∧ a1.toInt < (eA g0 233 0).toInt ∧ (eA g0 233 4).toInt < 8) ∧ i = 94 + 2 * (eA g0 233 4).toInt + 0) from by omega)).symm; refine Eq.trans ?_ (if_neg (show ¬ ((0 ≤ a2.toInt ∧ a2.toInt ≤ 99 ∧ 0 ≤ a1.toInt ∧ a1.toInt < (eA g0 233 0).toInt ∧ (eA g0 233 4).toInt < 8) ∧ i = 94 + 2 * (eA g0 233 4).toInt + 1) from by omega)).symm; refine (eA_ti (((hF268.2.1 233 (by decide)).trans (gA_sI)))).trans ?_; (first | rfl | exact eA_ix (by omega) | omega))⟩⟩
