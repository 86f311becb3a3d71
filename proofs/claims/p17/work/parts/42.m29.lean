def F_X11_sign_231 : List (Nat × Nat) := [(231, 0), (231, 1)]
def A_X11_sign_231 : List Nat := [232, 233]
set_option maxRecDepth 100000 in
set_option maxHeartbeats 4000000 in
theorem T_X11_sign_231 (d : Nat) {N : Nat} {g0 : List en_E} (hI0 : HI g0) (a1 : Int32) (a2 : Int32) : Ev (d + 3) 254 [.ref 231, .int a1, .int a2] (g0, N) (fun w h' => ∃ g', h' = (g', N) ∧ HI g' ∧ Fr F_X11_sign_231 A_X11_sign_231 g0 g' ∧ ∃ r : Int32, w = some (.int r) ∧ ((-5) ≤ r.toInt ∧ r.toInt ≤ 8) ∧ ((((¬ (0 ≤ a2.toInt ∧ a2.toInt ≤ 99) → r.toInt = -1 ∧ (eA g' 233 4).toInt = (eA g0 233 4).toInt) ∧ ((0 ≤ a2.toInt ∧ a2.toInt ≤ 99) ∧ ¬ (0 ≤ a1.toInt ∧ a1.toInt < (eA g0 233 0).toInt) → r.toInt = -2 ∧ (eA g' 233 4).toInt = (eA g0 233 4).toInt) ∧ ((0 ≤ a2.toInt ∧ a2.toInt ≤ 99) ∧ (0 ≤ a1.toInt ∧ a1.toInt < (eA g0 233 0).toInt) ∧ 8 ≤ (eA g0 233 4).toInt → r.toInt = -5 ∧ (eA g' 233 4).toInt = (eA g0 233 4).toInt) ∧ ((0 ≤ a2.toInt ∧ a2.toInt ≤ 99) ∧ (0 ≤ a1.toInt ∧ a1.toInt < (eA g0 233 0).toInt) ∧ (eA g0 233 4).toInt < 8 → r.toInt = (eA g0 233 4).toInt + 1 ∧ (eA g' 233 4).toInt = (eA g0 233 4).toInt + 1)) ∧ (eA g' 233 0).toInt = (eA g0 233 0).toInt ∧ (eA g' 233 5).toInt = (eA g0 233 5).toInt ∧ (eA g' 233 6).toInt = (eA g0 233 6).toInt ∧ (eA g' 233 1).toInt = (eA g0 233 1).toInt) ∧ (∀ i : Int, 10 ≤ i → i < 110 → (eA g' 233 (i)).toInt = if (0 ≤ a2.toInt ∧ a2.toInt ≤ 99 ∧ 0 ≤ a1.toInt ∧ a1.toInt < (eA g0 233 0).toInt ∧ (eA g0 233 4).toInt < 8) ∧ i = 94 + 2 * (eA g0 233 4).toInt + 0 then a1.toInt else if (0 ≤ a2.toInt ∧ a2.toInt ≤ 99 ∧ 0 ≤ a1.toInt ∧ a1.toInt < (eA g0 233 0).toInt ∧ (eA g0 233 4).toInt < 8) ∧ i = 94 + 2 * (eA g0 233 4).toInt + 1 then a2.toInt else (eA g0 233 (i)).toInt))) := by
  have hF0 : Fr F_X11_sign_231 A_X11_sign_231 g0 g0 := Fr.rf
  refine Ev.mk rfl rfl ⟨Nat.le_of_ble_eq_true rfl, Or.inr (q_rc hI0.1 kx_231 rfl)⟩ ?_
  show At _ none _ _ (0, [(0, .ref 231), (1, .int a1), (2, .int a2)], [], (_, _)) _
  refine At.enter rfl ?_
  refine r_aload_n rfl ?_
  refine r_iconst 0 rfl ?_
  refine q_putI (Sh.int hI0.1 kx_231 rfl) rfl ?_
  have hI135 := HI.wI0 hI0 kx_231 rfl (p := 231) (b := 0) (v := 0) rfl
  have hF136 := Fr.wI (p := 231) (b := 0) (v := 0) hF0 rfl
  refine r_iload_n rfl ?_
  refine q_i2l (fun v137 hv137 => ?_)
  refine r_lconst 0 rfl ?_
  refine r_ldc2 99 rfl ?_
  refine q_inlS 14 rfl [.long v137, .long 0, .long 99] [] (Nat.le_of_ble_eq_true rfl) rfl ?_
  refine Ev.mk rfl rfl ⟨Nat.le_of_ble_eq_true rfl, Or.inl rfl⟩ ?_
  show At _ none _ _ (0, [(0, .long v137), (2, .long 0), (4, .long 99)], [], (_, _)) _
  refine At.enter rfl ?_
  refine r_lload_n rfl ?_
  refine r_lload_n rfl ?_
  refine r_lcmp _ rfl ?_
  refine r_ifs 6 rfl (fun c138 => ?_) (fun c138 => ?_)
  · have c138_ : v137.toInt < 0 := en_j_lt_t c138
    refine At.enter rfl ?_
    refine r_iconst 0 rfl ?_
    refine Ar.fall 18 rfl ?_
    refine At.enter rfl ?_
    refine q_iretz (by decide) ?_
    refine At.enter rfl ?_
    refine r_iff 17 rfl (by decide) ?_
    refine At.enter rfl ?_
    refine r_aload_n rfl ?_
    refine r_iconst (-1) rfl ?_
    refine r_callV 22 rfl [.ref 231, .int (-1)] [] (Nat.le_of_ble_eq_true rfl) rfl (T_X11_tell_231 _ hI135 (-1) (by decide)) ?_
    rintro _ _ ⟨g139, rfl, hI140, hF141, v142, rfl, hr143⟩
    refine At.sti ?_
    have hF144 := Fr.tr hF136 hF141 rfl rfl
    have zv145 : ((-1) : Int32).toInt = (-1) := rfl
    refine At.enter rfl ?_
    refine r_ireti ?_
    obtain ⟨v146, hv146⟩ : ∃ v, eA g0 233 4 = v := ⟨_, rfl⟩
    have wv146 := HI.t4 hI0
    rw [hv146] at wv146
    have tv146 := congrArg Int32.toInt hv146
    have x147 := HI.eqA hI140 (p := 233) (j := 4) ((((eA_c (hF141.2.1 233 (by decide))).trans (eA_c gA_sI)).trans hv146))
    obtain ⟨v148, hv148⟩ : ∃ v, eA g0 233 0 = v := ⟨_, rfl⟩
    have tv148 := congrArg Int32.toInt hv148
    have wv148 := HI.t0 hI0
    rw [hv148] at wv148
    have tv148 := congrArg Int32.toInt hv148
    have x149 := HI.eqA hI140 (p := 233) (j := 0) ((((eA_c (hF141.2.1 233 (by decide))).trans (eA_c gA_sI)).trans hv148))
    obtain ⟨v150, hv150⟩ : ∃ v, eA g0 233 5 = v := ⟨_, rfl⟩
    have wv150 := HI.t5 hI0
    rw [hv150] at wv150
    have tv150 := congrArg Int32.toInt hv150
    have x151 := HI.eqA hI140 (p := 233) (j := 5) ((((eA_c (hF141.2.1 233 (by decide))).trans (eA_c gA_sI)).trans hv150))
    obtain ⟨v152, hv152⟩ : ∃ v, eA g0 233 6 = v := ⟨_, rfl⟩
    have wv152 := HI.t6 hI0
    rw [hv152] at wv152
    have tv152 := congrArg Int32.toInt hv152
    have x153 := HI.eqA hI140 (p := 233) (j := 6) ((((eA_c (hF141.2.1 233 (by decide))).trans (eA_c gA_sI)).trans hv152))
    obtain ⟨v154, hv154⟩ : ∃ v, eA g0 233 1 = v := ⟨_, rfl⟩
    have tv154 := congrArg Int32.toInt hv154
    have wv154 := HI.t1 hI0
    rw [hv154] at wv154
    have tv154 := congrArg Int32.toInt hv154
    have x155 := HI.eqA hI140 (p := 233) (j := 1) ((((eA_c (hF141.2.1 233 (by decide))).trans (eA_c gA_sI)).trans hv154))
    have x156 := HI.eqA hI0 (p := 233) (j := 4) (hv146)
    have x157 := HI.eqA hI0 (p := 233) (j := 0) (hv148)
    have x158 := HI.eqA hI0 (p := 233) (j := 0) (hv148)
    have x159 := HI.eqA hI0 (p := 233) (j := 5) (hv150)
    have x160 := HI.eqA hI0 (p := 233) (j := 6) (hv152)
    have x161 := HI.eqA hI0 (p := 233) (j := 1) (hv154)
    have x162 := HI.eqA hI0 (p := 233) (j := 0) (hv148)
    have x163 := HI.eqA hI0 (p := 233) (j := 4) (hv146)
    exact ⟨_, rfl, hI140, hF144, _, rfl, by omega, ⟨⟨by omega, by omega, by omega, by omega, by omega⟩, (by intro i i0 i1; refine Eq.trans ?_ (if_neg (show ¬ ((0 ≤ a2.toInt ∧ a2.toInt ≤ 99 ∧ 0 ≤ a1.toInt ∧ a1.toInt < (eA g0 233 0).toInt ∧ (eA g0 233 4).toInt < 8) ∧ i = 94 + 2 * (eA g0 233 4).toInt + 0) from by omega)).symm; refine Eq.trans ?_ (if_neg (show ¬ ((0 ≤ a2.toInt ∧ a2.toInt ≤ 99 ∧ 0 ≤ a1.toInt ∧ a1.toInt < (eA g0 233 0).toInt ∧ (eA g0 233 4).toInt < 8) ∧ i = 94 + 2 * (eA g0 233 4).toInt + 1) from by omega)).symm; refine (eA_ti (((hF141.2.1 233 (by decide)).trans (gA_sI)))).trans ?_; (first | rfl | exact eA_ix (by omega) | omega))⟩⟩
  · have c138_ : v137.toInt ≥ 0 := en_j_lt_f c138
    refine At.enter rfl ?_
    refine r_lload_n rfl ?_
    refine r_lload rfl ?_
    refine r_lcmp _ rfl ?_
    refine r_ifs 13 rfl (fun c164 => ?_) (fun c164 => ?_)
    · have c164_ : v137.toInt > 99 := en_j_gt_t c164
      refine At.enter rfl ?_
      refine r_iconst 0 rfl ?_
      refine Ar.fall 18 rfl ?_
      refine At.enter rfl ?_
      refine q_iretz (by decide) ?_
      refine At.enter rfl ?_
      refine r_iff 17 rfl (by decide) ?_
      refine At.enter rfl ?_
      refine r_aload_n rfl ?_
      refine r_iconst (-1) rfl ?_
      refine r_callV 22 rfl [.ref 231, .int (-1)] [] (Nat.le_of_ble_eq_true rfl) rfl (T_X11_tell_231 _ hI135 (-1) (by decide)) ?_
      rintro _ _ ⟨g165, rfl, hI166, hF167, v168, rfl, hr169⟩
      refine At.sti ?_
      have hF170 := Fr.tr hF136 hF167 rfl rfl
      have zv171 : ((-1) : Int32).toInt = (-1) := rfl
      refine At.enter rfl ?_
      refine r_ireti ?_
      obtain ⟨v172, hv172⟩ : ∃ v, eA g0 233 4 = v := ⟨_, rfl⟩
      have wv172 := HI.t4 hI0
      rw [hv172] at wv172
      have tv172 := congrArg Int32.toInt hv172
      have x173 := HI.eqA hI166 (p := 233) (j := 4) ((((eA_c (hF167.2.1 233 (by decide))).trans (eA_c gA_sI)).trans hv172))
      obtain ⟨v174, hv174⟩ : ∃ v, eA g0 233 0 = v := ⟨_, rfl⟩
      have tv174 := congrArg Int32.toInt hv174
      have wv174 := HI.t0 hI0
      rw [hv174] at wv174
      have tv174 := congrArg Int32.toInt hv174
      have x175 := HI.eqA hI166 (p := 233) (j := 0) ((((eA_c (hF167.2.1 233 (by decide))).trans (eA_c gA_sI)).trans hv174))
      obtain ⟨v176, hv176⟩ : ∃ v, eA g0 233 5 = v := ⟨_, rfl⟩
      have wv176 := HI.t5 hI0
      rw [hv176] at wv176
      have tv176 := congrArg Int32.toInt hv176
      have x177 := HI.eqA hI166 (p := 233) (j := 5) ((((eA_c (hF167.2.1 233 (by decide))).trans (eA_c gA_sI)).trans hv176))
      obtain ⟨v178, hv178⟩ : ∃ v, eA g0 233 6 = v := ⟨_, rfl⟩
      have wv178 := HI.t6 hI0
      rw [hv178] at wv178
      have tv178 := congrArg Int32.toInt hv178
      have x179 := HI.eqA hI166 (p := 233) (j := 6) ((((eA_c (hF167.2.1 233 (by decide))).trans (eA_c gA_sI)).trans hv178))
      obtain ⟨v180, hv180⟩ : ∃ v, eA g0 233 1 = v := ⟨_, rfl⟩
      have tv180 := congrArg Int32.toInt hv180
      have wv180 := HI.t1 hI0
      rw [hv180] at wv180
      have tv180 := congrArg Int32.toInt hv180
      have x181 := HI.eqA hI166 (p := 233) (j := 1) ((((eA_c (hF167.2.1 233 (by decide))).trans (eA_c gA_sI)).trans hv180))
      have x182 := HI.eqA hI0 (p := 233) (j := 4) (hv172)
      have x183 := HI.eqA hI0 (p := 233) (j := 0) (hv174)
      have x184 := HI.eqA hI0 (p := 233) (j := 0) (hv174)
      have x185 := HI.eqA hI0 (p := 233) (j := 5) (hv176)
      have x186 := HI.eqA hI0 (p := 233) (j := 6) (hv178)
      have x187 := HI.eqA hI0 (p := 233) (j := 1) (hv180)
      have x188 := HI.eqA hI0 (p := 233) (j := 0) (hv174)
      have x189 := HI.eqA hI0 (p := 233) (j := 4) (hv172)
      exact ⟨_, rfl, hI166, hF170, _, rfl, by omega, ⟨⟨by omega, by omega, by omega, by omega, by omega⟩, (by intro i i0 i1; refine Eq.trans ?_ (if_neg (show ¬ ((0 ≤ a2.toInt ∧ a2.toInt ≤ 99 ∧ 0 ≤ a1.toInt ∧ a1.toInt < (eA g0 233 0).toInt ∧ (eA g0 233 4).toInt < 8) ∧ i = 94 + 2 * (eA g0 233 4).toInt + 0) from by omega)).symm; refine Eq.trans ?_ (if_neg (show ¬ ((0 ≤ a2.toInt ∧ a2.toInt ≤ 99 ∧ 0 ≤ a1.toInt ∧ a1.toInt < (eA g0 233 0).toInt ∧ (eA g0 233 4).toInt < 8) ∧ i = 94 + 2 * (eA g0 233 4).toInt + 1) from by omega)).symm; refine (eA_ti (((hF167.2.1 233 (by decide)).trans (gA_sI)))).trans ?_; (first | rfl | exact eA_ix (by omega) | omega))⟩⟩
    · have c164_ : v137.toInt ≤ 99 := en_j_gt_f c164
      refine At.enter rfl ?_
      refine r_iconst 1 rfl ?_
      refine r_goto ?_
      refine At.enter rfl ?_
      refine q_iretz (by decide) ?_
      refine At.enter rfl ?_
      refine r_ift (by decide) ?_
      refine At.enter rfl ?_
      refine r_aload_n rfl ?_
      refine r_iload_n rfl ?_
      refine q_inlV 28 rfl [.ref 231, .int a1] [] (Nat.le_of_ble_eq_true rfl) rfl ?_
      refine Ev.mk rfl rfl ⟨Nat.le_of_ble_eq_true rfl, Or.inr (q_rc hI135.1 kx_231 rfl)⟩ ?_
      show At _ none _ _ (0, [(0, .ref 231), (1, .int a1)], [], (_, _)) _
      refine At.enter rfl ?_
      refine r_iload_n rfl ?_
      refine q_i2l (fun v190 hv190 => ?_)
      refine r_lconst 0 rfl ?_
      refine r_aload_n rfl ?_
      refine q_getR (Sh.ref hI135.1 kx_231 rfl) ?_
      refine r_iconst 0 rfl ?_
      obtain ⟨v191, hv191⟩ : ∃ v, eA g0 233 0 = v := ⟨_, rfl⟩
      have tv191 := congrArg Int32.toInt hv191
      have wv191 := HI.t0 hI0
      rw [hv191] at wv191
      refine q_iald (Sh.arr hI135.1 ka_233) 0 rfl (by decide) v191 ((eA_c (gA_sI)).trans hv191) ?_
      refine q_i2l (fun v192 hv192 => ?_)
      refine r_lconst 1 rfl ?_
      refine q_lsub (v192.toInt - 1) rfl (by omega) (fun v193 hv193 => ?_)
      refine q_inlS 15 rfl [.long v190, .long 0, .long v193] [] (Nat.le_of_ble_eq_true rfl) rfl ?_
      refine Ev.mk rfl rfl ⟨Nat.le_of_ble_eq_true rfl, Or.inl rfl⟩ ?_
      show At _ none _ _ (0, [(0, .long v190), (2, .long 0), (4, .long v193)], [], (_, _)) _
      refine At.enter rfl ?_
      refine r_lload_n rfl ?_
      refine r_lload_n rfl ?_
      refine r_lcmp _ rfl ?_
      refine r_ifs 6 rfl (fun c194 => ?_) (fun c194 => ?_)
      · have c194_ : v190.toInt < 0 := en_j_lt_t c194
        refine At.enter rfl ?_
        refine r_iconst 0 rfl ?_
        refine Ar.fall 18 rfl ?_
        refine At.enter rfl ?_
        refine q_iretz (by decide) ?_
        refine At.enter rfl ?_
        refine q_iretz (by decide) ?_
        refine At.enter rfl ?_
        refine r_iff 31 rfl (by decide) ?_
        refine At.enter rfl ?_
        refine r_aload_n rfl ?_
        refine r_bipush (-2) rfl ?_
        refine r_callV 37 rfl [.ref 231, .int (-2)] [] (Nat.le_of_ble_eq_true rfl) rfl (T_X11_tell_231 _ hI135 (-2) (by decide)) ?_
        rintro _ _ ⟨g195, rfl, hI196, hF197, v198, rfl, hr199⟩
        refine At.sti ?_
        have hF200 := Fr.tr hF136 hF197 rfl rfl
        have zv201 : ((-2) : Int32).toInt = (-2) := rfl
        refine At.enter rfl ?_
        refine r_ireti ?_
        obtain ⟨v202, hv202⟩ : ∃ v, eA g0 233 4 = v := ⟨_, rfl⟩
        have wv202 := HI.t4 hI0
        rw [hv202] at wv202
        have tv202 := congrArg Int32.toInt hv202
        have x203 := HI.eqA hI196 (p := 233) (j := 4) ((((eA_c (hF197.2.1 233 (by decide))).trans (eA_c gA_sI)).trans hv202))
        have x204 := HI.eqA hI196 (p := 233) (j := 0) ((((eA_c (hF197.2.1 233 (by decide))).trans (eA_c gA_sI)).trans hv191))
        obtain ⟨v205, hv205⟩ : ∃ v, eA g0 233 5 = v := ⟨_, rfl⟩
        have wv205 := HI.t5 hI0
        rw [hv205] at wv205
        have tv205 := congrArg Int32.toInt hv205
        have x206 := HI.eqA hI196 (p := 233) (j := 5) ((((eA_c (hF197.2.1 233 (by decide))).trans (eA_c gA_sI)).trans hv205))
        obtain ⟨v207, hv207⟩ : ∃ v, eA g0 233 6 = v := ⟨_, rfl⟩
        have wv207 := HI.t6 hI0
        rw [hv207] at wv207
        have tv207 := congrArg Int32.toInt hv207
        have x208 := HI.eqA hI196 (p := 233) (j := 6) ((((eA_c (hF197.2.1 233 (by decide))).trans (eA_c gA_sI)).trans hv207))
        obtain ⟨v209, hv209⟩ : ∃ v, eA g0 233 1 = v := ⟨_, rfl⟩
        have tv209 := congrArg Int32.toInt hv209
        have wv209 := HI.t1 hI0
        rw [hv209] at wv209
        have tv209 := congrArg Int32.toInt hv209
        have x210 := HI.eqA hI196 (p := 233) (j := 1) ((((eA_c (hF197.2.1 233 (by decide))).trans (eA_c gA_sI)).trans hv209))
        have x211 := HI.eqA hI0 (p := 233) (j := 4) (hv202)
        have x212 := HI.eqA hI0 (p := 233) (j := 0) (hv191)
        have x213 := HI.eqA hI0 (p := 233) (j := 0) (hv191)
        have x214 := HI.eqA hI0 (p := 233) (j := 5) (hv205)
        have x215 := HI.eqA hI0 (p := 233) (j := 6) (hv207)
        have x216 := HI.eqA hI0 (p := 233) (j := 1) (hv209)
        have x217 := HI.eqA hI0 (p := 233) (j := 0) (hv191)
        have x218 := HI.eqA hI0 (p := 233) (j := 4) (hv202)
        exact ⟨_, rfl, hI196, hF200, _, rfl, by omega, ⟨⟨by omega, by omega, by omega, by omega, by omega⟩, (by intro i i0 i1; refine Eq.trans ?_ (if_neg (show ¬ ((0 ≤ a2.toInt ∧ a2.toInt ≤ 99 ∧ 0 ≤ a1.toInt ∧ a1.toInt < (eA g0 233 0).toInt ∧ (eA g0 233 4).toInt < 8) ∧ i = 94 + 2 * (eA g0 233 4).toInt + 0) from by omega)).symm; refine Eq.trans ?_ (if_neg (show ¬ ((0 ≤ a2.toInt ∧ a2.toInt ≤ 99 ∧ 0 ≤ a1.toInt ∧ a1.toInt < (eA g0 233 0).toInt ∧ (eA g0 233 4).toInt < 8) ∧ i = 94 + 2 * (eA g0 233 4).toInt + 1) from by omega)).symm; refine (eA_ti (((hF197.2.1 233 (by decide)).trans (gA_sI)))).trans ?_; (first | rfl | exact eA_ix (by omega) | omega))⟩⟩
      · have c194_ : v190.toInt ≥ 0 := en_j_lt_f c194
        refine At.enter rfl ?_
        refine r_lload_n rfl ?_
        refine r_lload rfl ?_
        refine r_lcmp _ rfl ?_
        refine r_ifs 13 rfl (fun c219 => ?_) (fun c219 => ?_)
        · have c219_ : v190.toInt > v193.toInt := en_j_gt_t c219
          refine At.enter rfl ?_
          refine r_iconst 0 rfl ?_
          refine Ar.fall 18 rfl ?_
          refine At.enter rfl ?_
          refine q_iretz (by decide) ?_
          refine At.enter rfl ?_
          refine q_iretz (by decide) ?_
          refine At.enter rfl ?_
          refine r_iff 31 rfl (by decide) ?_
          refine At.enter rfl ?_
          refine r_aload_n rfl ?_
          refine r_bipush (-2) rfl ?_
          refine r_callV 37 rfl [.ref 231, .int (-2)] [] (Nat.le_of_ble_eq_true rfl) rfl (T_X11_tell_231 _ hI135 (-2) (by decide)) ?_
          rintro _ _ ⟨g220, rfl, hI221, hF222, v223, rfl, hr224⟩
          refine At.sti ?_
          have hF225 := Fr.tr hF136 hF222 rfl rfl
          have zv226 : ((-2) : Int32).toInt = (-2) := rfl
          refine At.enter rfl ?_
          refine r_ireti ?_
          obtain ⟨v227, hv227⟩ : ∃ v, eA g0 233 4 = v := ⟨_, rfl⟩
          have wv227 := HI.t4 hI0
          rw [hv227] at wv227
          have tv227 := congrArg Int32.toInt hv227
          have x228 := HI.eqA hI221 (p := 233) (j := 4) ((((eA_c (hF222.2.1 233 (by decide))).trans (eA_c gA_sI)).trans hv227))
          have x229 := HI.eqA hI221 (p := 233) (j := 0) ((((eA_c (hF222.2.1 233 (by decide))).trans (eA_c gA_sI)).trans hv191))
          obtain ⟨v230, hv230⟩ : ∃ v, eA g0 233 5 = v := ⟨_, rfl⟩
          have wv230 := HI.t5 hI0
          rw [hv230] at wv230
          have tv230 := congrArg Int32.toInt hv230
          have x231 := HI.eqA hI221 (p := 233) (j := 5) ((((eA_c (hF222.2.1 233 (by decide))).trans (eA_c gA_sI)).trans hv230))
          obtain ⟨v232, hv232⟩ : ∃ v, eA g0 233 6 = v := ⟨_, rfl⟩
          have wv232 := HI.t6 hI0
          rw [hv232] at wv232
          have tv232 := congrArg Int32.toInt hv232
          have x233 := HI.eqA hI221 (p := 233) (j := 6) ((((eA_c (hF222.2.1 233 (by decide))).trans (eA_c gA_sI)).trans hv232))
          obtain ⟨v234, hv234⟩ : ∃ v, eA g0 233 1 = v := ⟨_, rfl⟩
          have tv234 := congrArg Int32.toInt hv234
          have wv234 := HI.t1 hI0
          rw [hv234] at wv234
          have tv234 := congrArg Int32.toInt hv234
          have x235 := HI.eqA hI221 (p := 233) (j := 1) ((((eA_c (hF222.2.1 233 (by decide))).trans (eA_c gA_sI)).trans hv234))
          have x236 := HI.eqA hI0 (p := 233) (j := 4) (hv227)
          have x237 := HI.eqA hI0 (p := 233) (j := 0) (hv191)
          have x238 := HI.eqA hI0 (p := 233) (j := 0) (hv191)
          have x239 := HI.eqA hI0 (p := 233) (j := 5) (hv230)
          have x240 := HI.eqA hI0 (p := 233) (j := 6) (hv232)
          have x241 := HI.eqA hI0 (p := 233) (j := 1) (hv234)
          have x242 := HI.eqA hI0 (p := 233) (j := 0) (hv191)
          have x243 := HI.eqA hI0 (p := 233) (j := 4) (hv227)
          exact ⟨_, rfl, hI221, hF225, _, rfl, by omega, ⟨⟨by omega, by omega, by omega, by omega, by omega⟩, (by intro i i0 i1; refine Eq.trans ?_ (if_neg (show ¬ ((0 ≤ a2.toInt ∧ a2.toInt ≤ 99 ∧ 0 ≤ a1.toInt ∧ a1.toInt < (eA g0 233 0).toInt ∧ (eA g0 233 4).toInt < 8) ∧ i = 94 + 2 * (eA g0 233 4).toInt + 0) from by omega)).symm; refine Eq.trans ?_ (if_neg (show ¬ ((0 ≤ a2.toInt ∧ a2.toInt ≤ 99 ∧ 0 ≤ a1.toInt ∧ a1.toInt < (eA g0 233 0).toInt ∧ (eA g0 233 4).toInt < 8) ∧ i = 94 + 2 * (eA g0 233 4).toInt + 1) from by omega)).symm; refine (eA_ti (((hF222.2.1 233 (by decide)).trans (gA_sI)))).trans ?_; (first | rfl | exact eA_ix (by omega) | omega))⟩⟩
        · have c219_ : v190.toInt ≤ v193.toInt := en_j_gt_f c219
          refine At.enter rfl ?_
          refine r_iconst 1 rfl ?_
          refine r_goto ?_
          refine At.enter rfl ?_
          refine q_iretz (by decide) ?_
          refine At.enter rfl ?_
          refine q_iretz (by decide) ?_
          refine At.enter rfl ?_
          refine r_ift (by decide) ?_
          refine At.enter rfl ?_
          refine r_aload_n rfl ?_
          refine q_getR (Sh.ref hI135.1 kx_231 rfl) ?_
          refine r_iconst 4 rfl ?_
          obtain ⟨v244, hv244⟩ : ∃ v, eA g0 233 4 = v := ⟨_, rfl⟩
          have wv244 := HI.t4 hI0
          rw [hv244] at wv244
          refine q_iald (Sh.arr hI135.1 ka_233) 4 rfl (by decide) v244 ((eA_c (gA_sI)).trans hv244) ?_
          refine r_istore_n ([(3, .int v244), (0, .ref 231), (1, .int a1), (2, .int a2)]) rfl ?_
          refine r_iload_n rfl ?_
          refine r_bipush 8 rfl ?_
          refine r_ics 51 rfl (fun c245 => ?_) (fun c245 => ?_)
          · have c245_ : v244.toInt ≠ 8 := en_i_ne_t c245
            refine At.enter rfl ?_
            refine r_aload_n rfl ?_
            refine q_getR (Sh.ref hI135.1 kx_231 rfl) ?_
            refine r_bipush 94 rfl ?_
            refine r_iconst 2 rfl ?_
            refine r_iload_n rfl ?_
            refine q_imul (2 * v244.toInt) rfl (by omega) (fun v246 hv246 => ?_)
            refine q_iadd (94 + v246.toInt) rfl (by omega) (fun v247 hv247 => ?_)
            refine r_iload_n rfl ?_
            refine q_iast (Sh.arr hI135.1 ka_233) ((2 * v244.toInt + 94)) (by omega) (by omega) ?_
            have hI248 := HI.wg hI135 (j := (2 * v244.toInt + 94)) (v := a1) (v244.toInt) 0 (by omega) (by decide) (by omega) (by omega)
            have hF249 := Fr.wA (p := 233) (j := (2 * v244.toInt + 94)) (v := a1) hF136 rfl
            refine r_aload_n rfl ?_
            refine q_getR (Sh.ref hI248.1 kx_231 rfl) ?_
            refine r_bipush 94 rfl ?_
            refine r_iconst 2 rfl ?_
            refine r_iload_n rfl ?_
            refine q_imul (2 * v244.toInt) rfl (by omega) (fun v250 hv250 => ?_)
            refine q_iadd (94 + v250.toInt) rfl (by omega) (fun v251 hv251 => ?_)
            refine r_iconst 1 rfl ?_
            refine q_iadd (v251.toInt + 1) rfl (by omega) (fun v252 hv252 => ?_)
            refine r_iload_n rfl ?_
            refine q_iast (Sh.arr hI248.1 ka_233) ((2 * v244.toInt + 95)) (by omega) (by omega) ?_
            have hI253 := HI.wg hI248 (j := (2 * v244.toInt + 95)) (v := a2) (v244.toInt) 1 (by omega) (by decide) (by omega) (by omega)
            have hF254 := Fr.wA (p := 233) (j := (2 * v244.toInt + 95)) (v := a2) hF249 rfl
            refine r_aload_n rfl ?_
            refine q_getR (Sh.ref hI253.1 kx_231 rfl) ?_
            refine r_iconst 4 rfl ?_
            refine r_dup2 ⟨rfl, rfl⟩ ?_
            refine q_iald (Sh.arr hI253.1 ka_233) 4 rfl (by decide) v244 (((eA_sA_ne hI248.1 ka_233 (by first | decide | omega) (by first | decide | omega) (by first | decide | omega)).trans ((eA_sA_ne hI135.1 ka_233 (by first | decide | omega) (by first | decide | omega) (by first | decide | omega)).trans (eA_c gA_sI))).trans hv244) ?_
            refine r_iconst 1 rfl ?_
            refine q_iadd (v244.toInt + 1) rfl (by omega) (fun v255 hv255 => ?_)
            refine q_iast (Sh.arr hI253.1 ka_233) (4) rfl (by decide) ?_
            have hI256 := HI.wt hI253 (j := 4) (v := v255) (by omega) (by omega)
            have hF257 := Fr.wA (p := 233) (j := 4) (v := v255) hF254 rfl
            refine r_aload_n rfl ?_
            refine r_iload_n rfl ?_
            refine r_iconst 1 rfl ?_
            refine q_iadd (v244.toInt + 1) rfl (by omega) (fun v258 hv258 => ?_)
            refine r_callV 101 rfl [.ref 231, .int v258] [] (Nat.le_of_ble_eq_true rfl) rfl (T_X11_tell_231 _ hI256 v258 (by omega)) ?_
            rintro _ _ ⟨g259, rfl, hI260, hF261, v262, rfl, hr263⟩
            refine At.sti ?_
            have hF264 := Fr.tr hF257 hF261 rfl rfl
            refine At.enter rfl ?_
            refine r_ireti ?_
            have x265 := HI.eqA hI260 (p := 233) (j := 4) (((eA_c (hF261.2.1 233 (by decide))).trans (eA_sA_eq hI253.1 ka_233 (by first | rfl | omega) (by first | decide | omega) (by first | decide | omega))))
            have x266 := HI.eqA hI260 (p := 233) (j := 0) ((((eA_c (hF261.2.1 233 (by decide))).trans ((eA_sA_ne hI253.1 ka_233 (by first | decide | omega) (by first | decide | omega) (by first | decide | omega)).trans ((eA_sA_ne hI248.1 ka_233 (by first | decide | omega) (by first | decide | omega) (by first | decide | omega)).trans ((eA_sA_ne hI135.1 ka_233 (by first | decide | omega) (by first | decide | omega) (by first | decide | omega)).trans (eA_c gA_sI))))).trans hv191))
            obtain ⟨v267, hv267⟩ : ∃ v, eA g0 233 5 = v := ⟨_, rfl⟩
            have wv267 := HI.t5 hI0
            rw [hv267] at wv267
            have tv267 := congrArg Int32.toInt hv267
            have x268 := HI.eqA hI260 (p := 233) (j := 5) ((((eA_c (hF261.2.1 233 (by decide))).trans ((eA_sA_ne hI253.1 ka_233 (by first | decide | omega) (by first | decide | omega) (by first | decide | omega)).trans ((eA_sA_ne hI248.1 ka_233 (by first | decide | omega) (by first | decide | omega) (by first | decide | omega)).trans ((eA_sA_ne hI135.1 ka_233 (by first | decide | omega) (by first | decide | omega) (by first | decide | omega)).trans (eA_c gA_sI))))).trans hv267))
            obtain ⟨v269, hv269⟩ : ∃ v, eA g0 233 6 = v := ⟨_, rfl⟩
            have wv269 := HI.t6 hI0
            rw [hv269] at wv269
            have tv269 := congrArg Int32.toInt hv269
            have x270 := HI.eqA hI260 (p := 233) (j := 6) ((((eA_c (hF261.2.1 233 (by decide))).trans ((eA_sA_ne hI253.1 ka_233 (by first | decide | omega) (by first | decide | omega) (by first | decide | omega)).trans ((eA_sA_ne hI248.1 ka_233 (by first | decide | omega) (by first | decide | omega) (by first | decide | omega)).trans ((eA_sA_ne hI135.1 ka_233 (by first | decide | omega) (by first | decide | omega) (by first | decide | omega)).trans (eA_c gA_sI))))).trans hv269))
            obtain ⟨v271, hv271⟩ : ∃ v, eA g0 233 1 = v := ⟨_, rfl⟩
            have tv271 := congrArg Int32.toInt hv271
            have wv271 := HI.t1 hI0
            rw [hv271] at wv271
            have tv271 := congrArg Int32.toInt hv271
            have x272 := HI.eqA hI260 (p := 233) (j := 1) ((((eA_c (hF261.2.1 233 (by decide))).trans ((eA_sA_ne hI253.1 ka_233 (by first | decide | omega) (by first | decide | omega) (by first | decide | omega)).trans ((eA_sA_ne hI248.1 ka_233 (by first | decide | omega) (by first | decide | omega) (by first | decide | omega)).trans ((eA_sA_ne hI135.1 ka_233 (by first | decide | omega) (by first | decide | omega) (by first | decide | omega)).trans (eA_c gA_sI))))).trans hv271))
            have x273 := HI.eqA hI0 (p := 233) (j := 4) (hv244)
            have x274 := HI.eqA hI0 (p := 233) (j := 0) (hv191)
            have x275 := HI.eqA hI0 (p := 233) (j := 0) (hv191)
            have x276 := HI.eqA hI0 (p := 233) (j := 5) (hv267)
            have x277 := HI.eqA hI0 (p := 233) (j := 6) (hv269)
            have x278 := HI.eqA hI0 (p := 233) (j := 1) (hv271)
            have x279 := HI.eqA hI0 (p := 233) (j := 0) (hv191)
            have x280 := HI.eqA hI0 (p := 233) (j := 4) (hv244)
            exact ⟨_, rfl, hI260, hF264, _, rfl, by omega, ⟨⟨by omega, by omega, by omega, by omega, by omega⟩, (by intro i i0 i1; exact (Decidable.em ((0 ≤ a2.toInt ∧ a2.toInt ≤ 99 ∧ 0 ≤ a1.toInt ∧ a1.toInt < (eA g0 233 0).toInt ∧ (eA g0 233 4).toInt < 8) ∧ i = 94 + 2 * (eA g0 233 4).toInt + 0)).elim (fun k393_ => by refine Eq.trans ?_ (if_pos k393_).symm; refine (eA_ti ((hF261.2.1 233 (by decide)))).trans ?_; exact (Decidable.em (i = 4)).elim (fun k394_ => by refine (eA_eqT hI253.1 ka_233 k394_ (by first | decide | omega) (by first | decide | omega)).trans ?_; (first | (rfl) | (omega))) (fun k394_ => by refine (eA_neT hI253.1 ka_233 k394_ (by first | decide | omega) (by omega)).trans ?_; exact (Decidable.em (i = (2 * v244.toInt + 95))).elim (fun k395_ => by refine (eA_eqT hI248.1 ka_233 k395_ (by first | decide | omega) (by first | decide | omega)).trans ?_; (first | (rfl) | (omega))) (fun k395_ => by refine (eA_neT hI248.1 ka_233 k395_ (by first | decide | omega) (by omega)).trans ?_; exact (Decidable.em (i = (2 * v244.toInt + 94))).elim (fun k396_ => by refine (eA_eqT hI135.1 ka_233 k396_ (by first | decide | omega) (by first | decide | omega)).trans ?_; (first | (rfl) | (omega))) (fun k396_ => by refine (eA_neT hI135.1 ka_233 k396_ (by first | decide | omega) (by omega)).trans ?_; refine (eA_ti ((gA_sI))).trans ?_; (first | rfl | exact eA_ix (by omega) | omega))))) (fun k393_ => by refine Eq.trans ?_ (if_neg k393_).symm; exact (Decidable.em ((0 ≤ a2.toInt ∧ a2.toInt ≤ 99 ∧ 0 ≤ a1.toInt ∧ a1.toInt < (eA g0 233 0).toInt ∧ (eA g0 233 4).toInt < 8) ∧ i = 94 + 2 * (eA g0 233 4).toInt + 1)).elim (fun k397_ => by refine Eq.trans ?_ (if_pos k397_).symm; refine (eA_ti ((hF261.2.1 233 (by decide)))).trans ?_; exact (Decidable.em (i = 4)).elim (fun k398_ => by refine (eA_eqT hI253.1 ka_233 k398_ (by first | decide | omega) (by first | decide | omega)).trans ?_; (first | (rfl) | (omega))) (fun k398_ => by refine (eA_neT hI253.1 ka_233 k398_ (by first | decide | omega) (by omega)).trans ?_; exact (Decidable.em (i = (2 * v244.toInt + 95))).elim (fun k399_ => by refine (eA_eqT hI248.1 ka_233 k399_ (by first | decide | omega) (by first | decide | omega)).trans ?_; (first | (rfl) | (omega))) (fun k399_ => by refine (eA_neT hI248.1 ka_233 k399_ (by first | decide | omega) (by omega)).trans ?_; exact (Decidable.em (i = (2 * v244.toInt + 94))).elim (fun k400_ => by refine (eA_eqT hI135.1 ka_233 k400_ (by first | decide | omega) (by first | decide | omega)).trans ?_; (first | (rfl) | (omega))) (fun k400_ => by refine (eA_neT hI135.1 ka_233 k400_ (by first | decide | omega) (by omega)).trans ?_; refine (eA_ti ((gA_sI))).trans ?_; (first | rfl | exact eA_ix (by omega) | omega))))) (fun k397_ => by refine Eq.trans ?_ (if_neg k397_).symm; refine (eA_ti ((hF261.2.1 233 (by decide)))).trans ?_; exact (Decidable.em (i = 4)).elim (fun k401_ => by refine (eA_eqT hI253.1 ka_233 k401_ (by first | decide | omega) (by first | decide | omega)).trans ?_; (first | (rfl) | (omega))) (fun k401_ => by refine (eA_neT hI253.1 ka_233 k401_ (by first | decide | omega) (by omega)).trans ?_; exact (Decidable.em (i = (2 * v244.toInt + 95))).elim (fun k402_ => by refine (eA_eqT hI248.1 ka_233 k402_ (by first | decide | omega) (by first | decide | omega)).trans ?_; (first | (rfl) | (omega))) (fun k402_ => by refine (eA_neT hI248.1 ka_233 k402_ (by first | decide | omega) (by omega)).trans ?_; exact (Decidable.em (i = (2 * v244.toInt + 94))).elim (fun k403_ => by refine (eA_eqT hI135.1 ka_233 k403_ (by first | decide | omega) (by first | decide | omega)).trans ?_; (first | (rfl) | (omega))) (fun k403_ => by refine (eA_neT hI135.1 ka_233 k403_ (by first | decide | omega) (by omega)).trans ?_; refine (eA_ti ((gA_sI))).trans ?_; (first | rfl | exact eA_ix (by omega) | omega)))))))⟩⟩
          · have c245_ : v244.toInt = 8 := en_i_ne_f c245
            refine At.enter rfl ?_
            refine r_aload_n rfl ?_
            refine r_bipush (-5) rfl ?_
            refine r_callV 57 rfl [.ref 231, .int (-5)] [] (Nat.le_of_ble_eq_true rfl) rfl (T_X11_tell_231 _ hI135 (-5) (by decide)) ?_
            rintro _ _ ⟨g281, rfl, hI282, hF283, v284, rfl, hr285⟩
            refine At.sti ?_
            have hF286 := Fr.tr hF136 hF283 rfl rfl
            have zv287 : ((-5) : Int32).toInt = (-5) := rfl
            refine At.enter rfl ?_
            refine r_ireti ?_
            have x288 := HI.eqA hI282 (p := 233) (j := 4) ((((eA_c (hF283.2.1 233 (by decide))).trans (eA_c gA_sI)).trans hv244))
            have x289 := HI.eqA hI282 (p := 233) (j := 0) ((((eA_c (hF283.2.1 233 (by decide))).trans (eA_c gA_sI)).trans hv191))
            obtain ⟨v290, hv290⟩ : ∃ v, eA g0 233 5 = v := ⟨_, rfl⟩
            have wv290 := HI.t5 hI0
            rw [hv290] at wv290
            have tv290 := congrArg Int32.toInt hv290
            have x291 := HI.eqA hI282 (p := 233) (j := 5) ((((eA_c (hF283.2.1 233 (by decide))).trans (eA_c gA_sI)).trans hv290))
            obtain ⟨v292, hv292⟩ : ∃ v, eA g0 233 6 = v := ⟨_, rfl⟩
            have wv292 := HI.t6 hI0
            rw [hv292] at wv292
            have tv292 := congrArg Int32.toInt hv292
            have x293 := HI.eqA hI282 (p := 233) (j := 6) ((((eA_c (hF283.2.1 233 (by decide))).trans (eA_c gA_sI)).trans hv292))
            obtain ⟨v294, hv294⟩ : ∃ v, eA g0 233 1 = v := ⟨_, rfl⟩
            have tv294 := congrArg Int32.toInt hv294
            have wv294 := HI.t1 hI0
            rw [hv294] at wv294
            have tv294 := congrArg Int32.toInt hv294
            have x295 := HI.eqA hI282 (p := 233) (j := 1) ((((eA_c (hF283.2.1 233 (by decide))).trans (eA_c gA_sI)).trans hv294))
            have x296 := HI.eqA hI0 (p := 233) (j := 4) (hv244)
            have x297 := HI.eqA hI0 (p := 233) (j := 0) (hv191)
            have x298 := HI.eqA hI0 (p := 233) (j := 0) (hv191)
            have x299 := HI.eqA hI0 (p := 233) (j := 5) (hv290)
            have x300 := HI.eqA hI0 (p := 233) (j := 6) (hv292)
            have x301 := HI.eqA hI0 (p := 233) (j := 1) (hv294)
            have x302 := HI.eqA hI0 (p := 233) (j := 0) (hv191)
            have x303 := HI.eqA hI0 (p := 233) (j := 4) (hv244)
            exact ⟨_, rfl, hI282, hF286, _, rfl, by omega, ⟨⟨by omega, by omega, by omega, by omega, by omega⟩, (by intro i i0 i1; refine Eq.trans ?_ (if_neg (show ¬ ((0 ≤ a2.toInt ∧ a2.toInt ≤ 99 ∧ 0 ≤ a1.toInt ∧ a1.toInt < (eA g0 233 0).toInt ∧ (eA g0 233 4).toInt < 8) ∧ i = 94 + 2 * (eA g0 233 4).toInt + 0) from by omega)).symm; refine Eq.trans ?_ (if_neg (show ¬ ((0 ≤ a2.toInt ∧ a2.toInt ≤ 99 ∧ 0 ≤ a1.toInt ∧ a1.toInt < (eA g0 233 0).toInt ∧ (eA g0 233 4).toInt < 8) ∧ i = 94 + 2 * (eA g0 233 4).toInt + 1) from by omega)).symm; refine (eA_ti (((hF283.2.1 233 (by decide)).trans (gA_sI)))).trans ?_; (first | rfl | exact eA_ix (by omega) | omega))⟩⟩
