def F_X11_status_231 : List (Nat × Nat) := [(231, 0)]
def A_X11_status_231 : List Nat := []
set_option maxRecDepth 100000 in
set_option maxHeartbeats 4000000 in
theorem T_X11_status_231 (d : Nat) {N : Nat} {g0 : List en_E} (hI0 : HI g0) : Ev (d + 1) 264 [.ref 231] (g0, N) (fun w h' => ∃ g', h' = (g', N) ∧ HI g' ∧ Fr F_X11_status_231 A_X11_status_231 g0 g' ∧ ∃ r : Int32, w = some (.int r) ∧ True) := by
  have hF0 : Fr F_X11_status_231 A_X11_status_231 g0 g0 := Fr.rf
  refine Ev.mk rfl rfl ⟨Nat.le_of_ble_eq_true rfl, Or.inr (q_rc hI0.1 kx_231 rfl)⟩ ?_
  show At _ none _ _ (0, [(0, .ref 231)], [], (_, _)) _
  refine At.enter rfl ?_
  refine r_aload_n rfl ?_
  refine r_iconst 0 rfl ?_
  refine q_putI (Sh.int hI0.1 kx_231 rfl) rfl ?_
  have hI7 := HI.wI0 hI0 kx_231 rfl (p := 231) (b := 0) (v := 0) rfl
  have hF8 := Fr.wI (p := 231) (b := 0) (v := 0) hF0 rfl
  refine r_aload_n rfl ?_
  obtain ⟨v9, hv9⟩ : ∃ v, gI g0 231 1 = v := ⟨_, rfl⟩
  refine q_getI (Sh.int hI7.1 kx_231 rfl) v9 ((gI_sI_ne (by decide)).trans hv9) ?_
  refine r_ireti ?_
  exact ⟨_, rfl, hI7, hF8, _, rfl, trivial⟩

def F_X11_stand_231 : List (Nat × Nat) := [(231, 0), (231, 1)]
def A_X11_stand_231 : List Nat := [232, 233]
set_option maxRecDepth 100000 in
set_option maxHeartbeats 4000000 in
theorem T_X11_stand_231 (d : Nat) {N : Nat} {g0 : List en_E} (hI0 : HI g0) (a1 : Int32) (a2 : Int32) (a3 : Int32) : Ev (d + 3) 172 [.ref 231, .int a1, .int a2, .int a3] (g0, N) (fun w h' => ∃ g', h' = (g', N) ∧ HI g' ∧ Fr F_X11_stand_231 A_X11_stand_231 g0 g' ∧ ∃ r : Int32, w = some (.int r) ∧ ((-5) ≤ r.toInt ∧ r.toInt ≤ 11) ∧ ((¬ (-1 ≤ a1.toInt ∧ a1.toInt ≤ 11 ∧ 1 ≤ a2.toInt ∧ a2.toInt ≤ 9 ∧ 0 ≤ a3.toInt ∧ a3.toInt ≤ 99) → r.toInt = -1 ∧ (eA g' 233 0).toInt = (eA g0 233 0).toInt) ∧ ((-1 ≤ a1.toInt ∧ a1.toInt ≤ 11 ∧ 1 ≤ a2.toInt ∧ a2.toInt ≤ 9 ∧ 0 ≤ a3.toInt ∧ a3.toInt ≤ 99) ∧ 12 ≤ (eA g0 233 0).toInt → r.toInt = -5 ∧ (eA g' 233 0).toInt = (eA g0 233 0).toInt) ∧ ((-1 ≤ a1.toInt ∧ a1.toInt ≤ 11 ∧ 1 ≤ a2.toInt ∧ a2.toInt ≤ 9 ∧ 0 ≤ a3.toInt ∧ a3.toInt ≤ 99) ∧ (eA g0 233 0).toInt < 12 → r.toInt = (eA g0 233 0).toInt ∧ (eA g' 233 0).toInt = (eA g0 233 0).toInt + 1))) := by
  have hF0 : Fr F_X11_stand_231 A_X11_stand_231 g0 g0 := Fr.rf
  refine Ev.mk rfl rfl ⟨Nat.le_of_ble_eq_true rfl, Or.inr (q_rc hI0.1 kx_231 rfl)⟩ ?_
  show At _ none _ _ (0, [(0, .ref 231), (1, .int a1), (2, .int a2), (3, .int a3)], [], (_, _)) _
  refine At.enter rfl ?_
  refine r_aload_n rfl ?_
  refine r_iconst 0 rfl ?_
  refine q_putI (Sh.int hI0.1 kx_231 rfl) rfl ?_
  have hI173 := HI.wI0 hI0 kx_231 rfl (p := 231) (b := 0) (v := 0) rfl
  have hF174 := Fr.wI (p := 231) (b := 0) (v := 0) hF0 rfl
  refine r_iconst 0 rfl ?_
  refine r_iload_n rfl ?_
  refine q_inlS 10 rfl [.int 0, .int a1] [] (Nat.le_of_ble_eq_true rfl) rfl ?_
  refine Ev.mk rfl rfl ⟨Nat.le_of_ble_eq_true rfl, Or.inl rfl⟩ ?_
  show At _ none _ _ (0, [(0, .int 0), (1, .int a1)], [], (_, _)) _
  refine At.enter rfl ?_
  refine r_iload_n rfl ?_
  refine r_tsw 28 rfl ?_
  refine At.enter rfl ?_
  refine r_iload_n rfl ?_
  refine q_i2l (fun v175 hv175 => ?_)
  refine r_ldc2 (-1) rfl ?_
  refine r_ldc2 11 rfl ?_
  refine q_inlS 39 rfl [.long v175, .long (-1), .long 11] [] (Nat.le_of_ble_eq_true rfl) rfl ?_
  refine Ev.mk rfl rfl ⟨Nat.le_of_ble_eq_true rfl, Or.inl rfl⟩ ?_
  show At _ none _ _ (0, [(0, .long v175), (2, .long (-1)), (4, .long 11)], [], (_, _)) _
  refine At.enter rfl ?_
  refine r_lload_n rfl ?_
  refine r_lload_n rfl ?_
  refine r_lcmp _ rfl ?_
  refine r_ifs 6 rfl (fun c176 => ?_) (fun c176 => ?_)
  · have c176_ : v175.toInt < (-1) := en_j_lt_t c176
    refine At.enter rfl ?_
    refine r_iconst 0 rfl ?_
    refine Ar.fall 18 rfl ?_
    refine At.enter rfl ?_
    refine q_iretz (by decide) ?_
    refine At.enter rfl ?_
    refine q_iretz (by decide) ?_
    refine At.enter rfl ?_
    refine r_ift (by decide) ?_
    refine At.enter rfl ?_
    refine r_aload_n rfl ?_
    refine r_iconst (-1) rfl ?_
    refine r_callV 34 rfl [.ref 231, .int (-1)] [] (Nat.le_of_ble_eq_true rfl) rfl (T_X11_tell_231 _ hI173 (-1) (by decide)) ?_
    rintro _ _ ⟨g177, rfl, hI178, hF179, v180, rfl, hr181⟩
    refine At.sti ?_
    have hF182 := Fr.tr hF174 hF179 rfl rfl
    have zv183 : ((-1) : Int32).toInt = (-1) := rfl
    refine At.enter rfl ?_
    refine r_ireti ?_
    obtain ⟨v184, hv184⟩ : ∃ v, eA g0 233 0 = v := ⟨_, rfl⟩
    have tv184 := congrArg Int32.toInt hv184
    have wv184 := HI.t0 hI0
    rw [hv184] at wv184
    have tv184 := congrArg Int32.toInt hv184
    have x185 := HI.eqA hI178 (p := 233) (j := 0) ((((eA_c (hF179.2.1 233 (by decide))).trans (eA_c gA_sI)).trans hv184))
    have x186 := HI.eqA hI0 (p := 233) (j := 0) (hv184)
    exact ⟨_, rfl, hI178, hF182, _, rfl, by omega, (by omega)⟩
  · have c176_ : v175.toInt ≥ (-1) := en_j_lt_f c176
    refine At.enter rfl ?_
    refine r_lload_n rfl ?_
    refine r_lload rfl ?_
    refine r_lcmp _ rfl ?_
    refine r_ifs 13 rfl (fun c187 => ?_) (fun c187 => ?_)
    · have c187_ : v175.toInt > 11 := en_j_gt_t c187
      refine At.enter rfl ?_
      refine r_iconst 0 rfl ?_
      refine Ar.fall 18 rfl ?_
      refine At.enter rfl ?_
      refine q_iretz (by decide) ?_
      refine At.enter rfl ?_
      refine q_iretz (by decide) ?_
      refine At.enter rfl ?_
      refine r_ift (by decide) ?_
      refine At.enter rfl ?_
      refine r_aload_n rfl ?_
      refine r_iconst (-1) rfl ?_
      refine r_callV 34 rfl [.ref 231, .int (-1)] [] (Nat.le_of_ble_eq_true rfl) rfl (T_X11_tell_231 _ hI173 (-1) (by decide)) ?_
      rintro _ _ ⟨g188, rfl, hI189, hF190, v191, rfl, hr192⟩
      refine At.sti ?_
      have hF193 := Fr.tr hF174 hF190 rfl rfl
      have zv194 : ((-1) : Int32).toInt = (-1) := rfl
      refine At.enter rfl ?_
      refine r_ireti ?_
      obtain ⟨v195, hv195⟩ : ∃ v, eA g0 233 0 = v := ⟨_, rfl⟩
      have tv195 := congrArg Int32.toInt hv195
      have wv195 := HI.t0 hI0
      rw [hv195] at wv195
      have tv195 := congrArg Int32.toInt hv195
      have x196 := HI.eqA hI189 (p := 233) (j := 0) ((((eA_c (hF190.2.1 233 (by decide))).trans (eA_c gA_sI)).trans hv195))
      have x197 := HI.eqA hI0 (p := 233) (j := 0) (hv195)
      exact ⟨_, rfl, hI189, hF193, _, rfl, by omega, (by omega)⟩
    · have c187_ : v175.toInt ≤ 11 := en_j_gt_f c187
      refine At.enter rfl ?_
      refine r_iconst 1 rfl ?_
      refine r_goto ?_
      refine At.enter rfl ?_
      refine q_iretz (by decide) ?_
      refine At.enter rfl ?_
      refine q_iretz (by decide) ?_
      refine At.enter rfl ?_
      refine r_iff 13 rfl (by decide) ?_
      refine At.enter rfl ?_
      refine r_iconst 1 rfl ?_
      refine r_iload_n rfl ?_
      refine q_inlS 18 rfl [.int 1, .int a2] [] (Nat.le_of_ble_eq_true rfl) rfl ?_
      refine Ev.mk rfl rfl ⟨Nat.le_of_ble_eq_true rfl, Or.inl rfl⟩ ?_
      show At _ none _ _ (0, [(0, .int 1), (1, .int a2)], [], (_, _)) _
      refine At.enter rfl ?_
      refine r_iload_n rfl ?_
      refine r_tsw 40 rfl ?_
      refine At.enter rfl ?_
      refine r_iload_n rfl ?_
      refine q_i2l (fun v198 hv198 => ?_)
      refine r_lconst 1 rfl ?_
      refine r_ldc2 9 rfl ?_
      refine q_inlS 49 rfl [.long v198, .long 1, .long 9] [] (Nat.le_of_ble_eq_true rfl) rfl ?_
      refine Ev.mk rfl rfl ⟨Nat.le_of_ble_eq_true rfl, Or.inl rfl⟩ ?_
      show At _ none _ _ (0, [(0, .long v198), (2, .long 1), (4, .long 9)], [], (_, _)) _
      refine At.enter rfl ?_
      refine r_lload_n rfl ?_
      refine r_lload_n rfl ?_
      refine r_lcmp _ rfl ?_
      refine r_ifs 6 rfl (fun c199 => ?_) (fun c199 => ?_)
      · have c199_ : v198.toInt < 1 := en_j_lt_t c199
        refine At.enter rfl ?_
        refine r_iconst 0 rfl ?_
        refine Ar.fall 18 rfl ?_
        refine At.enter rfl ?_
        refine q_iretz (by decide) ?_
        refine At.enter rfl ?_
        refine q_iretz (by decide) ?_
        refine At.enter rfl ?_
        refine r_ift (by decide) ?_
        refine At.enter rfl ?_
        refine r_aload_n rfl ?_
        refine r_iconst (-1) rfl ?_
        refine r_callV 34 rfl [.ref 231, .int (-1)] [] (Nat.le_of_ble_eq_true rfl) rfl (T_X11_tell_231 _ hI173 (-1) (by decide)) ?_
        rintro _ _ ⟨g200, rfl, hI201, hF202, v203, rfl, hr204⟩
        refine At.sti ?_
        have hF205 := Fr.tr hF174 hF202 rfl rfl
        have zv206 : ((-1) : Int32).toInt = (-1) := rfl
        refine At.enter rfl ?_
        refine r_ireti ?_
        obtain ⟨v207, hv207⟩ : ∃ v, eA g0 233 0 = v := ⟨_, rfl⟩
        have tv207 := congrArg Int32.toInt hv207
        have wv207 := HI.t0 hI0
        rw [hv207] at wv207
        have tv207 := congrArg Int32.toInt hv207
        have x208 := HI.eqA hI201 (p := 233) (j := 0) ((((eA_c (hF202.2.1 233 (by decide))).trans (eA_c gA_sI)).trans hv207))
        have x209 := HI.eqA hI0 (p := 233) (j := 0) (hv207)
        exact ⟨_, rfl, hI201, hF205, _, rfl, by omega, (by omega)⟩
      · have c199_ : v198.toInt ≥ 1 := en_j_lt_f c199
        refine At.enter rfl ?_
        refine r_lload_n rfl ?_
        refine r_lload rfl ?_
        refine r_lcmp _ rfl ?_
        refine r_ifs 13 rfl (fun c210 => ?_) (fun c210 => ?_)
        · have c210_ : v198.toInt > 9 := en_j_gt_t c210
          refine At.enter rfl ?_
          refine r_iconst 0 rfl ?_
          refine Ar.fall 18 rfl ?_
          refine At.enter rfl ?_
          refine q_iretz (by decide) ?_
          refine At.enter rfl ?_
          refine q_iretz (by decide) ?_
          refine At.enter rfl ?_
          refine r_ift (by decide) ?_
          refine At.enter rfl ?_
          refine r_aload_n rfl ?_
          refine r_iconst (-1) rfl ?_
          refine r_callV 34 rfl [.ref 231, .int (-1)] [] (Nat.le_of_ble_eq_true rfl) rfl (T_X11_tell_231 _ hI173 (-1) (by decide)) ?_
          rintro _ _ ⟨g211, rfl, hI212, hF213, v214, rfl, hr215⟩
          refine At.sti ?_
          have hF216 := Fr.tr hF174 hF213 rfl rfl
          have zv217 : ((-1) : Int32).toInt = (-1) := rfl
          refine At.enter rfl ?_
          refine r_ireti ?_
          obtain ⟨v218, hv218⟩ : ∃ v, eA g0 233 0 = v := ⟨_, rfl⟩
          have tv218 := congrArg Int32.toInt hv218
          have wv218 := HI.t0 hI0
          rw [hv218] at wv218
          have tv218 := congrArg Int32.toInt hv218
          have x219 := HI.eqA hI212 (p := 233) (j := 0) ((((eA_c (hF213.2.1 233 (by decide))).trans (eA_c gA_sI)).trans hv218))
          have x220 := HI.eqA hI0 (p := 233) (j := 0) (hv218)
          exact ⟨_, rfl, hI212, hF216, _, rfl, by omega, (by omega)⟩
        · have c210_ : v198.toInt ≤ 9 := en_j_gt_f c210
          refine At.enter rfl ?_
          refine r_iconst 1 rfl ?_
          refine r_goto ?_
          refine At.enter rfl ?_
          refine q_iretz (by decide) ?_
          refine At.enter rfl ?_
          refine q_iretz (by decide) ?_
          refine At.enter rfl ?_
          refine r_iff 21 rfl (by decide) ?_
          refine At.enter rfl ?_
          refine r_iconst 2 rfl ?_
          refine r_iload_n rfl ?_
          refine q_inlS 26 rfl [.int 2, .int a3] [] (Nat.le_of_ble_eq_true rfl) rfl ?_
          refine Ev.mk rfl rfl ⟨Nat.le_of_ble_eq_true rfl, Or.inl rfl⟩ ?_
          show At _ none _ _ (0, [(0, .int 2), (1, .int a3)], [], (_, _)) _
          refine At.enter rfl ?_
          refine r_iload_n rfl ?_
          refine r_tsw 50 rfl ?_
          refine At.enter rfl ?_
          refine r_iload_n rfl ?_
          refine q_i2l (fun v221 hv221 => ?_)
          refine r_lconst 0 rfl ?_
          refine r_ldc2 99 rfl ?_
          refine q_inlS 59 rfl [.long v221, .long 0, .long 99] [] (Nat.le_of_ble_eq_true rfl) rfl ?_
          refine Ev.mk rfl rfl ⟨Nat.le_of_ble_eq_true rfl, Or.inl rfl⟩ ?_
          show At _ none _ _ (0, [(0, .long v221), (2, .long 0), (4, .long 99)], [], (_, _)) _
          refine At.enter rfl ?_
          refine r_lload_n rfl ?_
          refine r_lload_n rfl ?_
          refine r_lcmp _ rfl ?_
          refine r_ifs 6 rfl (fun c222 => ?_) (fun c222 => ?_)
          · have c222_ : v221.toInt < 0 := en_j_lt_t c222
            refine At.enter rfl ?_
            refine r_iconst 0 rfl ?_
            refine Ar.fall 18 rfl ?_
            refine At.enter rfl ?_
            refine q_iretz (by decide) ?_
            refine At.enter rfl ?_
            refine q_iretz (by decide) ?_
            refine At.enter rfl ?_
            refine r_iff 29 rfl (by decide) ?_
            refine At.enter rfl ?_
            refine r_aload_n rfl ?_
            refine r_iconst (-1) rfl ?_
            refine r_callV 34 rfl [.ref 231, .int (-1)] [] (Nat.le_of_ble_eq_true rfl) rfl (T_X11_tell_231 _ hI173 (-1) (by decide)) ?_
            rintro _ _ ⟨g223, rfl, hI224, hF225, v226, rfl, hr227⟩
            refine At.sti ?_
            have hF228 := Fr.tr hF174 hF225 rfl rfl
            have zv229 : ((-1) : Int32).toInt = (-1) := rfl
            refine At.enter rfl ?_
            refine r_ireti ?_
            obtain ⟨v230, hv230⟩ : ∃ v, eA g0 233 0 = v := ⟨_, rfl⟩
            have tv230 := congrArg Int32.toInt hv230
            have wv230 := HI.t0 hI0
            rw [hv230] at wv230
            have tv230 := congrArg Int32.toInt hv230
            have x231 := HI.eqA hI224 (p := 233) (j := 0) ((((eA_c (hF225.2.1 233 (by decide))).trans (eA_c gA_sI)).trans hv230))
            have x232 := HI.eqA hI0 (p := 233) (j := 0) (hv230)
            exact ⟨_, rfl, hI224, hF228, _, rfl, by omega, (by omega)⟩
          · have c222_ : v221.toInt ≥ 0 := en_j_lt_f c222
            refine At.enter rfl ?_
            refine r_lload_n rfl ?_
            refine r_lload rfl ?_
            refine r_lcmp _ rfl ?_
            refine r_ifs 13 rfl (fun c233 => ?_) (fun c233 => ?_)
            · have c233_ : v221.toInt > 99 := en_j_gt_t c233
              refine At.enter rfl ?_
              refine r_iconst 0 rfl ?_
              refine Ar.fall 18 rfl ?_
              refine At.enter rfl ?_
              refine q_iretz (by decide) ?_
              refine At.enter rfl ?_
              refine q_iretz (by decide) ?_
              refine At.enter rfl ?_
              refine r_iff 29 rfl (by decide) ?_
              refine At.enter rfl ?_
              refine r_aload_n rfl ?_
              refine r_iconst (-1) rfl ?_
              refine r_callV 34 rfl [.ref 231, .int (-1)] [] (Nat.le_of_ble_eq_true rfl) rfl (T_X11_tell_231 _ hI173 (-1) (by decide)) ?_
              rintro _ _ ⟨g234, rfl, hI235, hF236, v237, rfl, hr238⟩
              refine At.sti ?_
              have hF239 := Fr.tr hF174 hF236 rfl rfl
              have zv240 : ((-1) : Int32).toInt = (-1) := rfl
              refine At.enter rfl ?_
              refine r_ireti ?_
              obtain ⟨v241, hv241⟩ : ∃ v, eA g0 233 0 = v := ⟨_, rfl⟩
              have tv241 := congrArg Int32.toInt hv241
              have wv241 := HI.t0 hI0
              rw [hv241] at wv241
              have tv241 := congrArg Int32.toInt hv241
              have x242 := HI.eqA hI235 (p := 233) (j := 0) ((((eA_c (hF236.2.1 233 (by decide))).trans (eA_c gA_sI)).trans hv241))
              have x243 := HI.eqA hI0 (p := 233) (j := 0) (hv241)
              exact ⟨_, rfl, hI235, hF239, _, rfl, by omega, (by omega)⟩
            · have c233_ : v221.toInt ≤ 99 := en_j_gt_f c233
              refine At.enter rfl ?_
              refine r_iconst 1 rfl ?_
              refine r_goto ?_
              refine At.enter rfl ?_
              refine q_iretz (by decide) ?_
              refine At.enter rfl ?_
              refine q_iretz (by decide) ?_
              refine At.enter rfl ?_
              refine r_ift (by decide) ?_
              refine At.enter rfl ?_
              refine r_aload_n rfl ?_
              refine q_getR (Sh.ref hI173.1 kx_231 rfl) ?_
              refine r_iconst 0 rfl ?_
              obtain ⟨v244, hv244⟩ : ∃ v, eA g0 233 0 = v := ⟨_, rfl⟩
              have tv244 := congrArg Int32.toInt hv244
              have wv244 := HI.t0 hI0
              rw [hv244] at wv244
              refine q_iald (Sh.arr hI173.1 ka_233) 0 rfl (by decide) v244 ((eA_c (gA_sI)).trans hv244) ?_
              refine r_istore ([(4, .int v244), (0, .ref 231), (1, .int a1), (2, .int a2), (3, .int a3)]) rfl ?_
              refine r_iload rfl ?_
              refine r_bipush 12 rfl ?_
              refine r_ics 50 rfl (fun c245 => ?_) (fun c245 => ?_)
              · have c245_ : v244.toInt ≠ 12 := en_i_ne_t c245
                refine At.enter rfl ?_
                refine r_aload_n rfl ?_
                refine q_getR (Sh.ref hI173.1 kx_231 rfl) ?_
                refine r_bipush 10 rfl ?_
                refine r_iconst 3 rfl ?_
                refine r_iload rfl ?_
                refine q_imul (3 * v244.toInt) rfl (by omega) (fun v246 hv246 => ?_)
                refine q_iadd (10 + v246.toInt) rfl (by omega) (fun v247 hv247 => ?_)
                refine r_iload_n rfl ?_
                refine q_iast (Sh.arr hI173.1 ka_233) ((3 * v244.toInt + 10)) (by omega) (by omega) ?_
                have hI248 := HI.ws hI173 (j := (3 * v244.toInt + 10)) (v := a1) (v244.toInt) 0 (by omega) (by decide) (by omega) (by omega)
                have hF249 := Fr.wA (p := 233) (j := (3 * v244.toInt + 10)) (v := a1) hF174 rfl
                refine r_aload_n rfl ?_
                refine q_getR (Sh.ref hI248.1 kx_231 rfl) ?_
                refine r_bipush 10 rfl ?_
                refine r_iconst 3 rfl ?_
                refine r_iload rfl ?_
                refine q_imul (3 * v244.toInt) rfl (by omega) (fun v250 hv250 => ?_)
                refine q_iadd (10 + v250.toInt) rfl (by omega) (fun v251 hv251 => ?_)
                refine r_iconst 1 rfl ?_
                refine q_iadd (v251.toInt + 1) rfl (by omega) (fun v252 hv252 => ?_)
                refine r_iload_n rfl ?_
                refine q_iast (Sh.arr hI248.1 ka_233) ((3 * v244.toInt + 11)) (by omega) (by omega) ?_
                have hI253 := HI.ws hI248 (j := (3 * v244.toInt + 11)) (v := a2) (v244.toInt) 1 (by omega) (by decide) (by omega) (by omega)
                have hF254 := Fr.wA (p := 233) (j := (3 * v244.toInt + 11)) (v := a2) hF249 rfl
                refine r_aload_n rfl ?_
                refine q_getR (Sh.ref hI253.1 kx_231 rfl) ?_
                refine r_bipush 10 rfl ?_
                refine r_iconst 3 rfl ?_
                refine r_iload rfl ?_
                refine q_imul (3 * v244.toInt) rfl (by omega) (fun v255 hv255 => ?_)
                refine q_iadd (10 + v255.toInt) rfl (by omega) (fun v256 hv256 => ?_)
                refine r_iconst 2 rfl ?_
                refine q_iadd (v256.toInt + 2) rfl (by omega) (fun v257 hv257 => ?_)
                refine r_iload_n rfl ?_
                refine q_iast (Sh.arr hI253.1 ka_233) ((3 * v244.toInt + 12)) (by omega) (by omega) ?_
                have hI258 := HI.ws hI253 (j := (3 * v244.toInt + 12)) (v := a3) (v244.toInt) 2 (by omega) (by decide) (by omega) (by omega)
                have hF259 := Fr.wA (p := 233) (j := (3 * v244.toInt + 12)) (v := a3) hF254 rfl
                refine r_aload_n rfl ?_
                refine q_getR (Sh.ref hI258.1 kx_231 rfl) ?_
                refine r_iconst 0 rfl ?_
                refine r_dup2 ⟨rfl, rfl⟩ ?_
                refine q_iald (Sh.arr hI258.1 ka_233) 0 rfl (by decide) v244 (((eA_sA_ne hI253.1 ka_233 (by first | decide | omega) (by first | decide | omega) (by first | decide | omega)).trans ((eA_sA_ne hI248.1 ka_233 (by first | decide | omega) (by first | decide | omega) (by first | decide | omega)).trans ((eA_sA_ne hI173.1 ka_233 (by first | decide | omega) (by first | decide | omega) (by first | decide | omega)).trans (eA_c gA_sI)))).trans hv244) ?_
                refine r_iconst 1 rfl ?_
                refine q_iadd (v244.toInt + 1) rfl (by omega) (fun v260 hv260 => ?_)
                refine q_iast (Sh.arr hI258.1 ka_233) (0) rfl (by decide) ?_
                have x263 := HI.eqA hI258 (p := 233) (j := 0) ((((eA_sA_ne hI253.1 ka_233 (by first | decide | omega) (by first | decide | omega) (by first | decide | omega)).trans ((eA_sA_ne hI248.1 ka_233 (by first | decide | omega) (by first | decide | omega) (by first | decide | omega)).trans ((eA_sA_ne hI173.1 ka_233 (by first | decide | omega) (by first | decide | omega) (by first | decide | omega)).trans (eA_c gA_sI)))).trans hv244))
                have hI261 := HI.wt0 hI258 (v := v260) (by rw [(((eA_sA_ne hI253.1 ka_233 (by first | decide | omega) (by first | decide | omega) (by first | decide | omega)).trans ((eA_sA_ne hI248.1 ka_233 (by first | decide | omega) (by first | decide | omega) (by first | decide | omega)).trans ((eA_sA_ne hI173.1 ka_233 (by first | decide | omega) (by first | decide | omega) (by first | decide | omega)).trans (eA_c gA_sI)))).trans hv244)]; omega) (by omega) (i := (3 * v244.toInt + 11)) (by rw [(((eA_sA_ne hI253.1 ka_233 (by first | decide | omega) (by first | decide | omega) (by first | decide | omega)).trans ((eA_sA_ne hI248.1 ka_233 (by first | decide | omega) (by first | decide | omega) (by first | decide | omega)).trans ((eA_sA_ne hI173.1 ka_233 (by first | decide | omega) (by first | decide | omega) (by first | decide | omega)).trans (eA_c gA_sI)))).trans hv244)]; omega) (by rw [((eA_sA_ne hI253.1 ka_233 (by first | decide | omega) (by first | decide | omega) (by first | decide | omega)).trans (eA_sA_eq hI248.1 ka_233 (by first | rfl | omega) (by first | decide | omega) (by first | decide | omega)))]; omega)
                have hF262 := Fr.wA (p := 233) (j := 0) (v := v260) hF259 rfl
                refine r_aload_n rfl ?_
                refine r_iload rfl ?_
                refine r_callV 116 rfl [.ref 231, .int v244] [] (Nat.le_of_ble_eq_true rfl) rfl (T_X11_tell_231 _ hI261 v244 (by omega)) ?_
                rintro _ _ ⟨g264, rfl, hI265, hF266, v267, rfl, hr268⟩
                refine At.sti ?_
                have hF269 := Fr.tr hF262 hF266 rfl rfl
                refine At.enter rfl ?_
                refine r_ireti ?_
                have x270 := HI.eqA hI265 (p := 233) (j := 0) (((eA_c (hF266.2.1 233 (by decide))).trans (eA_sA_eq hI258.1 ka_233 (by first | rfl | omega) (by first | decide | omega) (by first | decide | omega))))
                have x271 := HI.eqA hI0 (p := 233) (j := 0) (hv244)
                exact ⟨_, rfl, hI265, hF269, _, rfl, by omega, (by omega)⟩
              · have c245_ : v244.toInt = 12 := en_i_ne_f c245
                refine At.enter rfl ?_
                refine r_aload_n rfl ?_
                refine r_bipush (-5) rfl ?_
                refine r_callV 56 rfl [.ref 231, .int (-5)] [] (Nat.le_of_ble_eq_true rfl) rfl (T_X11_tell_231 _ hI173 (-5) (by decide)) ?_
                rintro _ _ ⟨g272, rfl, hI273, hF274, v275, rfl, hr276⟩
                refine At.sti ?_
                have hF277 := Fr.tr hF174 hF274 rfl rfl
                have zv278 : ((-5) : Int32).toInt = (-5) := rfl
                refine At.enter rfl ?_
                refine r_ireti ?_
                have x279 := HI.eqA hI273 (p := 233) (j := 0) ((((eA_c (hF274.2.1 233 (by decide))).trans (eA_c gA_sI)).trans hv244))
                have x280 := HI.eqA hI0 (p := 233) (j := 0) (hv244)
                exact ⟨_, rfl, hI273, hF277, _, rfl, by omega, (by omega)⟩

def F_X11_put_231 : List (Nat × Nat) := [(231, 0), (231, 1)]
def A_X11_put_231 : List Nat := [232, 233]
set_option maxRecDepth 100000 in
set_option maxHeartbeats 4000000 in
theorem T_X11_put_231 (d : Nat) {N : Nat} {g0 : List en_E} (hI0 : HI g0) (a1 : Int32) (a2 : Int32) (a3 : Int32) : Ev (d + 3) 173 [.ref 231, .int a1, .int a2, .int a3] (g0, N) (fun w h' => ∃ g', h' = (g', N) ∧ HI g' ∧ Fr F_X11_put_231 A_X11_put_231 g0 g' ∧ ∃ r : Int32, w = some (.int r) ∧ ((-2) ≤ r.toInt ∧ r.toInt ≤ 99) ∧ ((eA g' 233 0).toInt = (eA g0 233 0).toInt)) := by
  have hF0 : Fr F_X11_put_231 A_X11_put_231 g0 g0 := Fr.rf
  refine Ev.mk rfl rfl ⟨Nat.le_of_ble_eq_true rfl, Or.inr (q_rc hI0.1 kx_231 rfl)⟩ ?_
  show At _ none _ _ (0, [(0, .ref 231), (1, .int a1), (2, .int a2), (3, .int a3)], [], (_, _)) _
  refine At.enter rfl ?_
  refine r_aload_n rfl ?_
  refine r_iconst 0 rfl ?_
  refine q_putI (Sh.int hI0.1 kx_231 rfl) rfl ?_
  have hI293 := HI.wI0 hI0 kx_231 rfl (p := 231) (b := 0) (v := 0) rfl
  have hF294 := Fr.wI (p := 231) (b := 0) (v := 0) hF0 rfl
  refine r_iload_n rfl ?_
  refine r_iload_n rfl ?_
  refine q_inlS 10 rfl [.int a2, .int a3] [] (Nat.le_of_ble_eq_true rfl) rfl ?_
  refine Ev.mk rfl rfl ⟨Nat.le_of_ble_eq_true rfl, Or.inl rfl⟩ ?_
  show At _ none _ _ (0, [(0, .int a2), (1, .int a3)], [], (_, _)) _
  refine At.enter rfl ?_
  refine r_iload_n rfl ?_
  by_cases c295_0 : a2.toInt = 0
  · refine r_tsw 28 (by rw [c295_0]; rfl) ?_
    refine At.enter rfl ?_
    refine r_iload_n rfl ?_
    refine q_i2l (fun v296 hv296 => ?_)
    refine r_ldc2 (-1) rfl ?_
    refine r_ldc2 11 rfl ?_
    refine q_inlS 39 rfl [.long v296, .long (-1), .long 11] [] (Nat.le_of_ble_eq_true rfl) rfl ?_
    refine Ev.mk rfl rfl ⟨Nat.le_of_ble_eq_true rfl, Or.inl rfl⟩ ?_
    show At _ none _ _ (0, [(0, .long v296), (2, .long (-1)), (4, .long 11)], [], (_, _)) _
    refine At.enter rfl ?_
    refine r_lload_n rfl ?_
    refine r_lload_n rfl ?_
    refine r_lcmp _ rfl ?_
    refine r_ifs 6 rfl (fun c297 => ?_) (fun c297 => ?_)
    · have c297_ : v296.toInt < (-1) := en_j_lt_t c297
      refine At.enter rfl ?_
      refine r_iconst 0 rfl ?_
      refine Ar.fall 18 rfl ?_
      refine At.enter rfl ?_
      refine q_iretz (by decide) ?_
      refine At.enter rfl ?_
      refine q_iretz (by decide) ?_
      refine At.enter rfl ?_
      refine r_iff 13 rfl (by decide) ?_
      refine At.enter rfl ?_
      refine r_aload_n rfl ?_
      refine r_iconst (-1) rfl ?_
      refine r_callV 18 rfl [.ref 231, .int (-1)] [] (Nat.le_of_ble_eq_true rfl) rfl (T_X11_tell_231 _ hI293 (-1) (by decide)) ?_
      rintro _ _ ⟨g298, rfl, hI299, hF300, v301, rfl, hr302⟩
      refine At.sti ?_
      have hF303 := Fr.tr hF294 hF300 rfl rfl
      have zv304 : ((-1) : Int32).toInt = (-1) := rfl
      refine At.enter rfl ?_
      refine r_ireti ?_
      obtain ⟨v305, hv305⟩ : ∃ v, eA g0 233 0 = v := ⟨_, rfl⟩
      have tv305 := congrArg Int32.toInt hv305
      have wv305 := HI.t0 hI0
      rw [hv305] at wv305
      have tv305 := congrArg Int32.toInt hv305
      have x306 := HI.eqA hI299 (p := 233) (j := 0) ((((eA_c (hF300.2.1 233 (by decide))).trans (eA_c gA_sI)).trans hv305))
      have x307 := HI.eqA hI0 (p := 233) (j := 0) (hv305)
      exact ⟨_, rfl, hI299, hF303, _, rfl, by omega, (by omega)⟩
    · have c297_ : v296.toInt ≥ (-1) := en_j_lt_f c297
      refine At.enter rfl ?_
      refine r_lload_n rfl ?_
      refine r_lload rfl ?_
      refine r_lcmp _ rfl ?_
      refine r_ifs 13 rfl (fun c308 => ?_) (fun c308 => ?_)
      · have c308_ : v296.toInt > 11 := en_j_gt_t c308
        refine At.enter rfl ?_
        refine r_iconst 0 rfl ?_
        refine Ar.fall 18 rfl ?_
        refine At.enter rfl ?_
        refine q_iretz (by decide) ?_
        refine At.enter rfl ?_
        refine q_iretz (by decide) ?_
        refine At.enter rfl ?_
        refine r_iff 13 rfl (by decide) ?_
        refine At.enter rfl ?_
        refine r_aload_n rfl ?_
        refine r_iconst (-1) rfl ?_
        refine r_callV 18 rfl [.ref 231, .int (-1)] [] (Nat.le_of_ble_eq_true rfl) rfl (T_X11_tell_231 _ hI293 (-1) (by decide)) ?_
        rintro _ _ ⟨g309, rfl, hI310, hF311, v312, rfl, hr313⟩
        refine At.sti ?_
        have hF314 := Fr.tr hF294 hF311 rfl rfl
        have zv315 : ((-1) : Int32).toInt = (-1) := rfl
        refine At.enter rfl ?_
        refine r_ireti ?_
        obtain ⟨v316, hv316⟩ : ∃ v, eA g0 233 0 = v := ⟨_, rfl⟩
        have tv316 := congrArg Int32.toInt hv316
        have wv316 := HI.t0 hI0
        rw [hv316] at wv316
        have tv316 := congrArg Int32.toInt hv316
        have x317 := HI.eqA hI310 (p := 233) (j := 0) ((((eA_c (hF311.2.1 233 (by decide))).trans (eA_c gA_sI)).trans hv316))
        have x318 := HI.eqA hI0 (p := 233) (j := 0) (hv316)
        exact ⟨_, rfl, hI310, hF314, _, rfl, by omega, (by omega)⟩
      · have c308_ : v296.toInt ≤ 11 := en_j_gt_f c308
        refine At.enter rfl ?_
        refine r_iconst 1 rfl ?_
        refine r_goto ?_
        refine At.enter rfl ?_
        refine q_iretz (by decide) ?_
        refine At.enter rfl ?_
        refine q_iretz (by decide) ?_
        refine At.enter rfl ?_
        refine r_ift (by decide) ?_
        refine At.enter rfl ?_
        refine r_aload_n rfl ?_
        refine r_iload_n rfl ?_
        refine q_inlV 24 rfl [.ref 231, .int a1] [] (Nat.le_of_ble_eq_true rfl) rfl ?_
        refine Ev.mk rfl rfl ⟨Nat.le_of_ble_eq_true rfl, Or.inr (q_rc hI293.1 kx_231 rfl)⟩ ?_
        show At _ none _ _ (0, [(0, .ref 231), (1, .int a1)], [], (_, _)) _
        refine At.enter rfl ?_
        refine r_iload_n rfl ?_
        refine q_i2l (fun v319 hv319 => ?_)
        refine r_lconst 0 rfl ?_
        refine r_aload_n rfl ?_
        refine q_getR (Sh.ref hI293.1 kx_231 rfl) ?_
        refine r_iconst 0 rfl ?_
        obtain ⟨v320, hv320⟩ : ∃ v, eA g0 233 0 = v := ⟨_, rfl⟩
        have tv320 := congrArg Int32.toInt hv320
        have wv320 := HI.t0 hI0
        rw [hv320] at wv320
        refine q_iald (Sh.arr hI293.1 ka_233) 0 rfl (by decide) v320 ((eA_c (gA_sI)).trans hv320) ?_
        refine q_i2l (fun v321 hv321 => ?_)
        refine r_lconst 1 rfl ?_
        refine q_lsub (v321.toInt - 1) rfl (by omega) (fun v322 hv322 => ?_)
        refine q_inlS 15 rfl [.long v319, .long 0, .long v322] [] (Nat.le_of_ble_eq_true rfl) rfl ?_
        refine Ev.mk rfl rfl ⟨Nat.le_of_ble_eq_true rfl, Or.inl rfl⟩ ?_
        show At _ none _ _ (0, [(0, .long v319), (2, .long 0), (4, .long v322)], [], (_, _)) _
        refine At.enter rfl ?_
        refine r_lload_n rfl ?_
        refine r_lload_n rfl ?_
        refine r_lcmp _ rfl ?_
        refine r_ifs 6 rfl (fun c323 => ?_) (fun c323 => ?_)
        · have c323_ : v319.toInt < 0 := en_j_lt_t c323
          refine At.enter rfl ?_
          refine r_iconst 0 rfl ?_
          refine Ar.fall 18 rfl ?_
          refine At.enter rfl ?_
          refine q_iretz (by decide) ?_
          refine At.enter rfl ?_
          refine q_iretz (by decide) ?_
          refine At.enter rfl ?_
          refine r_ift (by decide) ?_
          refine At.enter rfl ?_
          refine r_aload_n rfl ?_
          refine r_bipush (-2) rfl ?_
          refine r_callV 49 rfl [.ref 231, .int (-2)] [] (Nat.le_of_ble_eq_true rfl) rfl (T_X11_tell_231 _ hI293 (-2) (by decide)) ?_
          rintro _ _ ⟨g324, rfl, hI325, hF326, v327, rfl, hr328⟩
          refine At.sti ?_
          have hF329 := Fr.tr hF294 hF326 rfl rfl
          have zv330 : ((-2) : Int32).toInt = (-2) := rfl
          refine At.enter rfl ?_
          refine r_ireti ?_
          have x331 := HI.eqA hI325 (p := 233) (j := 0) ((((eA_c (hF326.2.1 233 (by decide))).trans (eA_c gA_sI)).trans hv320))
          have x332 := HI.eqA hI0 (p := 233) (j := 0) (hv320)
          exact ⟨_, rfl, hI325, hF329, _, rfl, by omega, (by omega)⟩
        · have c323_ : v319.toInt ≥ 0 := en_j_lt_f c323
          refine At.enter rfl ?_
          refine r_lload_n rfl ?_
          refine r_lload rfl ?_
          refine r_lcmp _ rfl ?_
          refine r_ifs 13 rfl (fun c333 => ?_) (fun c333 => ?_)
          · have c333_ : v319.toInt > v322.toInt := en_j_gt_t c333
            refine At.enter rfl ?_
            refine r_iconst 0 rfl ?_
            refine Ar.fall 18 rfl ?_
            refine At.enter rfl ?_
            refine q_iretz (by decide) ?_
            refine At.enter rfl ?_
            refine q_iretz (by decide) ?_
            refine At.enter rfl ?_
            refine r_ift (by decide) ?_
            refine At.enter rfl ?_
            refine r_aload_n rfl ?_
            refine r_bipush (-2) rfl ?_
            refine r_callV 49 rfl [.ref 231, .int (-2)] [] (Nat.le_of_ble_eq_true rfl) rfl (T_X11_tell_231 _ hI293 (-2) (by decide)) ?_
            rintro _ _ ⟨g334, rfl, hI335, hF336, v337, rfl, hr338⟩
            refine At.sti ?_
            have hF339 := Fr.tr hF294 hF336 rfl rfl
            have zv340 : ((-2) : Int32).toInt = (-2) := rfl
            refine At.enter rfl ?_
            refine r_ireti ?_
            have x341 := HI.eqA hI335 (p := 233) (j := 0) ((((eA_c (hF336.2.1 233 (by decide))).trans (eA_c gA_sI)).trans hv320))
            have x342 := HI.eqA hI0 (p := 233) (j := 0) (hv320)
            exact ⟨_, rfl, hI335, hF339, _, rfl, by omega, (by omega)⟩
          · have c333_ : v319.toInt ≤ v322.toInt := en_j_gt_f c333
            refine At.enter rfl ?_
            refine r_iconst 1 rfl ?_
            refine r_goto ?_
            refine At.enter rfl ?_
            refine q_iretz (by decide) ?_
            refine At.enter rfl ?_
            refine q_iretz (by decide) ?_
            refine At.enter rfl ?_
            refine r_iff 27 rfl (by decide) ?_
            refine At.enter rfl ?_
            refine r_aload_n rfl ?_
            refine r_bipush 10 rfl ?_
            refine r_iconst 3 rfl ?_
            refine r_iload_n rfl ?_
            refine q_imul (3 * a1.toInt) rfl (by omega) (fun v343 hv343 => ?_)
            refine q_iadd (10 + v343.toInt) rfl (by omega) (fun v344 hv344 => ?_)
            refine r_iload_n rfl ?_
            refine q_iadd (v344.toInt + a2.toInt) rfl (by omega) (fun v345 hv345 => ?_)
            refine r_iload_n rfl ?_
            refine q_inlV 40 rfl [.ref 231, .int v345, .int a3] [] (Nat.le_of_ble_eq_true rfl) rfl ?_
            refine Ev.mk rfl rfl ⟨Nat.le_of_ble_eq_true rfl, Or.inr (q_rc hI293.1 kx_231 rfl)⟩ ?_
            show At _ none _ _ (0, [(0, .ref 231), (1, .int v345), (2, .int a3)], [], (_, _)) _
            refine At.enter rfl ?_
            refine r_aload_n rfl ?_
            refine q_getR (Sh.ref hI293.1 kx_231 rfl) ?_
            refine r_iload_n rfl ?_
            obtain ⟨v346, hv346⟩ : ∃ v, eA g0 233 (3 * a1.toInt + a2.toInt + 10) = v := ⟨_, rfl⟩
            have wv346 := HI.s0 hI0 (j := (3 * a1.toInt + a2.toInt + 10)) (a1.toInt) (by omega) (by omega)
            rw [hv346] at wv346
            refine q_iald (Sh.arr hI293.1 ka_233) (3 * a1.toInt + a2.toInt + 10) (by omega) (by omega) v346 ((eA_c (gA_sI)).trans hv346) ?_
            refine r_istore_n ([(3, .int v346), (0, .ref 231), (1, .int v345), (2, .int a3)]) rfl ?_
            refine r_aload_n rfl ?_
            refine q_getR (Sh.ref hI293.1 kx_231 rfl) ?_
            refine r_iload_n rfl ?_
            refine r_iload_n rfl ?_
            refine q_iast (Sh.arr hI293.1 ka_233) ((3 * a1.toInt + a2.toInt + 10)) (by omega) (by omega) ?_
            have hI347 := HI.ws hI293 (j := (3 * a1.toInt + a2.toInt + 10)) (v := a3) (a1.toInt) 0 (by omega) (by decide) (by omega) (by omega)
            have hF348 := Fr.wA (p := 233) (j := (3 * a1.toInt + a2.toInt + 10)) (v := a3) hF294 rfl
            refine r_aload_n rfl ?_
            refine r_iload_n rfl ?_
            refine q_inlV 19 rfl [.ref 231, .int v346] [] (Nat.le_of_ble_eq_true rfl) rfl ?_
            refine Ev.mk rfl rfl ⟨Nat.le_of_ble_eq_true rfl, Or.inr (q_rc hI347.1 kx_231 rfl)⟩ ?_
            show At _ none _ _ (0, [(0, .ref 231), (1, .int v346)], [], (_, _)) _
            refine At.enter rfl ?_
            refine r_aload_n rfl ?_
            refine r_iconst 0 rfl ?_
            refine q_putI (Sh.int hI347.1 kx_231 rfl) rfl ?_
            have hI349 := HI.wI0 hI347 kx_231 rfl (p := 231) (b := 1) (v := 0) rfl
            have hF350 := Fr.wI (p := 231) (b := 1) (v := 0) hF348 rfl
            refine r_iload_n rfl ?_
            refine q_ireti ?_
            refine At.enter rfl ?_
            refine q_ireti ?_
            refine At.enter rfl ?_
            refine r_goto ?_
            refine At.enter rfl ?_
            refine r_ireti ?_
            have x351 := HI.eqA hI349 (p := 233) (j := 0) ((((eA_c gA_sI).trans ((eA_sA_ne hI293.1 ka_233 (by first | decide | omega) (by first | decide | omega) (by first | decide | omega)).trans (eA_c gA_sI))).trans hv320))
            have x352 := HI.eqA hI0 (p := 233) (j := 0) (hv320)
            exact ⟨_, rfl, hI349, hF350, _, rfl, by omega, (by omega)⟩
  by_cases c295_1 : a2.toInt = 1
  · refine r_tsw 40 (by rw [c295_1]; rfl) ?_
    refine At.enter rfl ?_
    refine r_iload_n rfl ?_
    refine q_i2l (fun v353 hv353 => ?_)
    refine r_lconst 1 rfl ?_
    refine r_ldc2 9 rfl ?_
    refine q_inlS 49 rfl [.long v353, .long 1, .long 9] [] (Nat.le_of_ble_eq_true rfl) rfl ?_
    refine Ev.mk rfl rfl ⟨Nat.le_of_ble_eq_true rfl, Or.inl rfl⟩ ?_
    show At _ none _ _ (0, [(0, .long v353), (2, .long 1), (4, .long 9)], [], (_, _)) _
    refine At.enter rfl ?_
    refine r_lload_n rfl ?_
    refine r_lload_n rfl ?_
    refine r_lcmp _ rfl ?_
    refine r_ifs 6 rfl (fun c354 => ?_) (fun c354 => ?_)
    · have c354_ : v353.toInt < 1 := en_j_lt_t c354
      refine At.enter rfl ?_
      refine r_iconst 0 rfl ?_
      refine Ar.fall 18 rfl ?_
      refine At.enter rfl ?_
      refine q_iretz (by decide) ?_
      refine At.enter rfl ?_
      refine q_iretz (by decide) ?_
      refine At.enter rfl ?_
      refine r_iff 13 rfl (by decide) ?_
      refine At.enter rfl ?_
      refine r_aload_n rfl ?_
      refine r_iconst (-1) rfl ?_
      refine r_callV 18 rfl [.ref 231, .int (-1)] [] (Nat.le_of_ble_eq_true rfl) rfl (T_X11_tell_231 _ hI293 (-1) (by decide)) ?_
      rintro _ _ ⟨g355, rfl, hI356, hF357, v358, rfl, hr359⟩
      refine At.sti ?_
      have hF360 := Fr.tr hF294 hF357 rfl rfl
      have zv361 : ((-1) : Int32).toInt = (-1) := rfl
      refine At.enter rfl ?_
      refine r_ireti ?_
      obtain ⟨v362, hv362⟩ : ∃ v, eA g0 233 0 = v := ⟨_, rfl⟩
      have tv362 := congrArg Int32.toInt hv362
      have wv362 := HI.t0 hI0
      rw [hv362] at wv362
      have tv362 := congrArg Int32.toInt hv362
      have x363 := HI.eqA hI356 (p := 233) (j := 0) ((((eA_c (hF357.2.1 233 (by decide))).trans (eA_c gA_sI)).trans hv362))
      have x364 := HI.eqA hI0 (p := 233) (j := 0) (hv362)
      exact ⟨_, rfl, hI356, hF360, _, rfl, by omega, (by omega)⟩
    · have c354_ : v353.toInt ≥ 1 := en_j_lt_f c354
      refine At.enter rfl ?_
      refine r_lload_n rfl ?_
      refine r_lload rfl ?_
      refine r_lcmp _ rfl ?_
      refine r_ifs 13 rfl (fun c365 => ?_) (fun c365 => ?_)
      · have c365_ : v353.toInt > 9 := en_j_gt_t c365
        refine At.enter rfl ?_
        refine r_iconst 0 rfl ?_
        refine Ar.fall 18 rfl ?_
        refine At.enter rfl ?_
        refine q_iretz (by decide) ?_
        refine At.enter rfl ?_
        refine q_iretz (by decide) ?_
        refine At.enter rfl ?_
        refine r_iff 13 rfl (by decide) ?_
        refine At.enter rfl ?_
        refine r_aload_n rfl ?_
        refine r_iconst (-1) rfl ?_
        refine r_callV 18 rfl [.ref 231, .int (-1)] [] (Nat.le_of_ble_eq_true rfl) rfl (T_X11_tell_231 _ hI293 (-1) (by decide)) ?_
        rintro _ _ ⟨g366, rfl, hI367, hF368, v369, rfl, hr370⟩
        refine At.sti ?_
        have hF371 := Fr.tr hF294 hF368 rfl rfl
        have zv372 : ((-1) : Int32).toInt = (-1) := rfl
        refine At.enter rfl ?_
        refine r_ireti ?_
        obtain ⟨v373, hv373⟩ : ∃ v, eA g0 233 0 = v := ⟨_, rfl⟩
        have tv373 := congrArg Int32.toInt hv373
        have wv373 := HI.t0 hI0
        rw [hv373] at wv373
        have tv373 := congrArg Int32.toInt hv373
        have x374 := HI.eqA hI367 (p := 233) (j := 0) ((((eA_c (hF368.2.1 233 (by decide))).trans (eA_c gA_sI)).trans hv373))
        have x375 := HI.eqA hI0 (p := 233) (j := 0) (hv373)
        exact ⟨_, rfl, hI367, hF371, _, rfl, by omega, (by omega)⟩
      · have c365_ : v353.toInt ≤ 9 := en_j_gt_f c365
        refine At.enter rfl ?_
        refine r_iconst 1 rfl ?_
        refine r_goto ?_
        refine At.enter rfl ?_
        refine q_iretz (by decide) ?_
        refine At.enter rfl ?_
        refine q_iretz (by decide) ?_
        refine At.enter rfl ?_
        refine r_ift (by decide) ?_
        refine At.enter rfl ?_
        refine r_aload_n rfl ?_
        refine r_iload_n rfl ?_
        refine q_inlV 24 rfl [.ref 231, .int a1] [] (Nat.le_of_ble_eq_true rfl) rfl ?_
        refine Ev.mk rfl rfl ⟨Nat.le_of_ble_eq_true rfl, Or.inr (q_rc hI293.1 kx_231 rfl)⟩ ?_
        show At _ none _ _ (0, [(0, .ref 231), (1, .int a1)], [], (_, _)) _
        refine At.enter rfl ?_
        refine r_iload_n rfl ?_
        refine q_i2l (fun v376 hv376 => ?_)
        refine r_lconst 0 rfl ?_
        refine r_aload_n rfl ?_
        refine q_getR (Sh.ref hI293.1 kx_231 rfl) ?_
        refine r_iconst 0 rfl ?_
        obtain ⟨v377, hv377⟩ : ∃ v, eA g0 233 0 = v := ⟨_, rfl⟩
        have tv377 := congrArg Int32.toInt hv377
        have wv377 := HI.t0 hI0
        rw [hv377] at wv377
        refine q_iald (Sh.arr hI293.1 ka_233) 0 rfl (by decide) v377 ((eA_c (gA_sI)).trans hv377) ?_
        refine q_i2l (fun v378 hv378 => ?_)
        refine r_lconst 1 rfl ?_
        refine q_lsub (v378.toInt - 1) rfl (by omega) (fun v379 hv379 => ?_)
        refine q_inlS 15 rfl [.long v376, .long 0, .long v379] [] (Nat.le_of_ble_eq_true rfl) rfl ?_
        refine Ev.mk rfl rfl ⟨Nat.le_of_ble_eq_true rfl, Or.inl rfl⟩ ?_
        show At _ none _ _ (0, [(0, .long v376), (2, .long 0), (4, .long v379)], [], (_, _)) _
        refine At.enter rfl ?_
        refine r_lload_n rfl ?_
        refine r_lload_n rfl ?_
        refine r_lcmp _ rfl ?_
        refine r_ifs 6 rfl (fun c380 => ?_) (fun c380 => ?_)
        · have c380_ : v376.toInt < 0 := en_j_lt_t c380
          refine At.enter rfl ?_
          refine r_iconst 0 rfl ?_
          refine Ar.fall 18 rfl ?_
          refine At.enter rfl ?_
          refine q_iretz (by decide) ?_
          refine At.enter rfl ?_
          refine q_iretz (by decide) ?_
          refine At.enter rfl ?_
          refine r_ift (by decide) ?_
          refine At.enter rfl ?_
          refine r_aload_n rfl ?_
          refine r_bipush (-2) rfl ?_
          refine r_callV 49 rfl [.ref 231, .int (-2)] [] (Nat.le_of_ble_eq_true rfl) rfl (T_X11_tell_231 _ hI293 (-2) (by decide)) ?_
          rintro _ _ ⟨g381, rfl, hI382, hF383, v384, rfl, hr385⟩
          refine At.sti ?_
          have hF386 := Fr.tr hF294 hF383 rfl rfl
          have zv387 : ((-2) : Int32).toInt = (-2) := rfl
          refine At.enter rfl ?_
          refine r_ireti ?_
          have x388 := HI.eqA hI382 (p := 233) (j := 0) ((((eA_c (hF383.2.1 233 (by decide))).trans (eA_c gA_sI)).trans hv377))
          have x389 := HI.eqA hI0 (p := 233) (j := 0) (hv377)
          exact ⟨_, rfl, hI382, hF386, _, rfl, by omega, (by omega)⟩
        · have c380_ : v376.toInt ≥ 0 := en_j_lt_f c380
          refine At.enter rfl ?_
          refine r_lload_n rfl ?_
          refine r_lload rfl ?_
          refine r_lcmp _ rfl ?_
          refine r_ifs 13 rfl (fun c390 => ?_) (fun c390 => ?_)
          · have c390_ : v376.toInt > v379.toInt := en_j_gt_t c390
            refine At.enter rfl ?_
            refine r_iconst 0 rfl ?_
            refine Ar.fall 18 rfl ?_
            refine At.enter rfl ?_
            refine q_iretz (by decide) ?_
            refine At.enter rfl ?_
            refine q_iretz (by decide) ?_
            refine At.enter rfl ?_
            refine r_ift (by decide) ?_
            refine At.enter rfl ?_
            refine r_aload_n rfl ?_
            refine r_bipush (-2) rfl ?_
            refine r_callV 49 rfl [.ref 231, .int (-2)] [] (Nat.le_of_ble_eq_true rfl) rfl (T_X11_tell_231 _ hI293 (-2) (by decide)) ?_
            rintro _ _ ⟨g391, rfl, hI392, hF393, v394, rfl, hr395⟩
            refine At.sti ?_
            have hF396 := Fr.tr hF294 hF393 rfl rfl
            have zv397 : ((-2) : Int32).toInt = (-2) := rfl
            refine At.enter rfl ?_
            refine r_ireti ?_
            have x398 := HI.eqA hI392 (p := 233) (j := 0) ((((eA_c (hF393.2.1 233 (by decide))).trans (eA_c gA_sI)).trans hv377))
            have x399 := HI.eqA hI0 (p := 233) (j := 0) (hv377)
            exact ⟨_, rfl, hI392, hF396, _, rfl, by omega, (by omega)⟩
          · have c390_ : v376.toInt ≤ v379.toInt := en_j_gt_f c390
            refine At.enter rfl ?_
            refine r_iconst 1 rfl ?_
            refine r_goto ?_
            refine At.enter rfl ?_
            refine q_iretz (by decide) ?_
            refine At.enter rfl ?_
            refine q_iretz (by decide) ?_
            refine At.enter rfl ?_
            refine r_iff 27 rfl (by decide) ?_
            refine At.enter rfl ?_
            refine r_aload_n rfl ?_
            refine r_bipush 10 rfl ?_
            refine r_iconst 3 rfl ?_
            refine r_iload_n rfl ?_
            refine q_imul (3 * a1.toInt) rfl (by omega) (fun v400 hv400 => ?_)
            refine q_iadd (10 + v400.toInt) rfl (by omega) (fun v401 hv401 => ?_)
            refine r_iload_n rfl ?_
            refine q_iadd (v401.toInt + a2.toInt) rfl (by omega) (fun v402 hv402 => ?_)
            refine r_iload_n rfl ?_
            refine q_inlV 40 rfl [.ref 231, .int v402, .int a3] [] (Nat.le_of_ble_eq_true rfl) rfl ?_
            refine Ev.mk rfl rfl ⟨Nat.le_of_ble_eq_true rfl, Or.inr (q_rc hI293.1 kx_231 rfl)⟩ ?_
            show At _ none _ _ (0, [(0, .ref 231), (1, .int v402), (2, .int a3)], [], (_, _)) _
            refine At.enter rfl ?_
            refine r_aload_n rfl ?_
            refine q_getR (Sh.ref hI293.1 kx_231 rfl) ?_
            refine r_iload_n rfl ?_
            obtain ⟨v403, hv403⟩ : ∃ v, eA g0 233 (3 * a1.toInt + a2.toInt + 10) = v := ⟨_, rfl⟩
            have wv403 := HI.s1 hI0 (j := (3 * a1.toInt + a2.toInt + 10)) (a1.toInt) (by omega) (by omega)
            rw [hv403] at wv403
            refine q_iald (Sh.arr hI293.1 ka_233) (3 * a1.toInt + a2.toInt + 10) (by omega) (by omega) v403 ((eA_c (gA_sI)).trans hv403) ?_
            refine r_istore_n ([(3, .int v403), (0, .ref 231), (1, .int v402), (2, .int a3)]) rfl ?_
            refine r_aload_n rfl ?_
            refine q_getR (Sh.ref hI293.1 kx_231 rfl) ?_
            refine r_iload_n rfl ?_
            refine r_iload_n rfl ?_
            refine q_iast (Sh.arr hI293.1 ka_233) ((3 * a1.toInt + a2.toInt + 10)) (by omega) (by omega) ?_
            have hI404 := HI.ws hI293 (j := (3 * a1.toInt + a2.toInt + 10)) (v := a3) (a1.toInt) 1 (by omega) (by decide) (by omega) (by omega)
            have hF405 := Fr.wA (p := 233) (j := (3 * a1.toInt + a2.toInt + 10)) (v := a3) hF294 rfl
            refine r_aload_n rfl ?_
            refine r_iload_n rfl ?_
            refine q_inlV 19 rfl [.ref 231, .int v403] [] (Nat.le_of_ble_eq_true rfl) rfl ?_
            refine Ev.mk rfl rfl ⟨Nat.le_of_ble_eq_true rfl, Or.inr (q_rc hI404.1 kx_231 rfl)⟩ ?_
            show At _ none _ _ (0, [(0, .ref 231), (1, .int v403)], [], (_, _)) _
            refine At.enter rfl ?_
            refine r_aload_n rfl ?_
            refine r_iconst 0 rfl ?_
            refine q_putI (Sh.int hI404.1 kx_231 rfl) rfl ?_
            have hI406 := HI.wI0 hI404 kx_231 rfl (p := 231) (b := 1) (v := 0) rfl
            have hF407 := Fr.wI (p := 231) (b := 1) (v := 0) hF405 rfl
            refine r_iload_n rfl ?_
            refine q_ireti ?_
            refine At.enter rfl ?_
            refine q_ireti ?_
            refine At.enter rfl ?_
            refine r_goto ?_
            refine At.enter rfl ?_
            refine r_ireti ?_
            have x408 := HI.eqA hI406 (p := 233) (j := 0) ((((eA_c gA_sI).trans ((eA_sA_ne hI293.1 ka_233 (by first | decide | omega) (by first | decide | omega) (by first | decide | omega)).trans (eA_c gA_sI))).trans hv377))
            have x409 := HI.eqA hI0 (p := 233) (j := 0) (hv377)
            exact ⟨_, rfl, hI406, hF407, _, rfl, by omega, (by omega)⟩
  by_cases c295_2 : a2.toInt = 2
  · refine r_tsw 50 (by rw [c295_2]; rfl) ?_
    refine At.enter rfl ?_
    refine r_iload_n rfl ?_
    refine q_i2l (fun v410 hv410 => ?_)
    refine r_lconst 0 rfl ?_
    refine r_ldc2 99 rfl ?_
    refine q_inlS 59 rfl [.long v410, .long 0, .long 99] [] (Nat.le_of_ble_eq_true rfl) rfl ?_
    refine Ev.mk rfl rfl ⟨Nat.le_of_ble_eq_true rfl, Or.inl rfl⟩ ?_
    show At _ none _ _ (0, [(0, .long v410), (2, .long 0), (4, .long 99)], [], (_, _)) _
    refine At.enter rfl ?_
    refine r_lload_n rfl ?_
    refine r_lload_n rfl ?_
    refine r_lcmp _ rfl ?_
    refine r_ifs 6 rfl (fun c411 => ?_) (fun c411 => ?_)
    · have c411_ : v410.toInt < 0 := en_j_lt_t c411
      refine At.enter rfl ?_
      refine r_iconst 0 rfl ?_
      refine Ar.fall 18 rfl ?_
      refine At.enter rfl ?_
      refine q_iretz (by decide) ?_
      refine At.enter rfl ?_
      refine q_iretz (by decide) ?_
      refine At.enter rfl ?_
      refine r_iff 13 rfl (by decide) ?_
      refine At.enter rfl ?_
      refine r_aload_n rfl ?_
      refine r_iconst (-1) rfl ?_
      refine r_callV 18 rfl [.ref 231, .int (-1)] [] (Nat.le_of_ble_eq_true rfl) rfl (T_X11_tell_231 _ hI293 (-1) (by decide)) ?_
      rintro _ _ ⟨g412, rfl, hI413, hF414, v415, rfl, hr416⟩
      refine At.sti ?_
      have hF417 := Fr.tr hF294 hF414 rfl rfl
      have zv418 : ((-1) : Int32).toInt = (-1) := rfl
      refine At.enter rfl ?_
      refine r_ireti ?_
      obtain ⟨v419, hv419⟩ : ∃ v, eA g0 233 0 = v := ⟨_, rfl⟩
      have tv419 := congrArg Int32.toInt hv419
      have wv419 := HI.t0 hI0
      rw [hv419] at wv419
      have tv419 := congrArg Int32.toInt hv419
      have x420 := HI.eqA hI413 (p := 233) (j := 0) ((((eA_c (hF414.2.1 233 (by decide))).trans (eA_c gA_sI)).trans hv419))
      have x421 := HI.eqA hI0 (p := 233) (j := 0) (hv419)
      exact ⟨_, rfl, hI413, hF417, _, rfl, by omega, (by omega)⟩
    · have c411_ : v410.toInt ≥ 0 := en_j_lt_f c411
      refine At.enter rfl ?_
      refine r_lload_n rfl ?_
      refine r_lload rfl ?_
      refine r_lcmp _ rfl ?_
      refine r_ifs 13 rfl (fun c422 => ?_) (fun c422 => ?_)
      · have c422_ : v410.toInt > 99 := en_j_gt_t c422
        refine At.enter rfl ?_
        refine r_iconst 0 rfl ?_
        refine Ar.fall 18 rfl ?_
        refine At.enter rfl ?_
        refine q_iretz (by decide) ?_
        refine At.enter rfl ?_
        refine q_iretz (by decide) ?_
        refine At.enter rfl ?_
        refine r_iff 13 rfl (by decide) ?_
        refine At.enter rfl ?_
        refine r_aload_n rfl ?_
        refine r_iconst (-1) rfl ?_
        refine r_callV 18 rfl [.ref 231, .int (-1)] [] (Nat.le_of_ble_eq_true rfl) rfl (T_X11_tell_231 _ hI293 (-1) (by decide)) ?_
        rintro _ _ ⟨g423, rfl, hI424, hF425, v426, rfl, hr427⟩
        refine At.sti ?_
        have hF428 := Fr.tr hF294 hF425 rfl rfl
        have zv429 : ((-1) : Int32).toInt = (-1) := rfl
        refine At.enter rfl ?_
        refine r_ireti ?_
        obtain ⟨v430, hv430⟩ : ∃ v, eA g0 233 0 = v := ⟨_, rfl⟩
        have tv430 := congrArg Int32.toInt hv430
        have wv430 := HI.t0 hI0
        rw [hv430] at wv430
        have tv430 := congrArg Int32.toInt hv430
        have x431 := HI.eqA hI424 (p := 233) (j := 0) ((((eA_c (hF425.2.1 233 (by decide))).trans (eA_c gA_sI)).trans hv430))
        have x432 := HI.eqA hI0 (p := 233) (j := 0) (hv430)
        exact ⟨_, rfl, hI424, hF428, _, rfl, by omega, (by omega)⟩
      · have c422_ : v410.toInt ≤ 99 := en_j_gt_f c422
        refine At.enter rfl ?_
        refine r_iconst 1 rfl ?_
        refine r_goto ?_
        refine At.enter rfl ?_
        refine q_iretz (by decide) ?_
        refine At.enter rfl ?_
        refine q_iretz (by decide) ?_
        refine At.enter rfl ?_
        refine r_ift (by decide) ?_
        refine At.enter rfl ?_
        refine r_aload_n rfl ?_
        refine r_iload_n rfl ?_
        refine q_inlV 24 rfl [.ref 231, .int a1] [] (Nat.le_of_ble_eq_true rfl) rfl ?_
        refine Ev.mk rfl rfl ⟨Nat.le_of_ble_eq_true rfl, Or.inr (q_rc hI293.1 kx_231 rfl)⟩ ?_
        show At _ none _ _ (0, [(0, .ref 231), (1, .int a1)], [], (_, _)) _
        refine At.enter rfl ?_
        refine r_iload_n rfl ?_
        refine q_i2l (fun v433 hv433 => ?_)
        refine r_lconst 0 rfl ?_
        refine r_aload_n rfl ?_
        refine q_getR (Sh.ref hI293.1 kx_231 rfl) ?_
        refine r_iconst 0 rfl ?_
        obtain ⟨v434, hv434⟩ : ∃ v, eA g0 233 0 = v := ⟨_, rfl⟩
        have tv434 := congrArg Int32.toInt hv434
        have wv434 := HI.t0 hI0
        rw [hv434] at wv434
        refine q_iald (Sh.arr hI293.1 ka_233) 0 rfl (by decide) v434 ((eA_c (gA_sI)).trans hv434) ?_
        refine q_i2l (fun v435 hv435 => ?_)
        refine r_lconst 1 rfl ?_
        refine q_lsub (v435.toInt - 1) rfl (by omega) (fun v436 hv436 => ?_)
        refine q_inlS 15 rfl [.long v433, .long 0, .long v436] [] (Nat.le_of_ble_eq_true rfl) rfl ?_
        refine Ev.mk rfl rfl ⟨Nat.le_of_ble_eq_true rfl, Or.inl rfl⟩ ?_
        show At _ none _ _ (0, [(0, .long v433), (2, .long 0), (4, .long v436)], [], (_, _)) _
        refine At.enter rfl ?_
        refine r_lload_n rfl ?_
        refine r_lload_n rfl ?_
        refine r_lcmp _ rfl ?_
        refine r_ifs 6 rfl (fun c437 => ?_) (fun c437 => ?_)
        · have c437_ : v433.toInt < 0 := en_j_lt_t c437
          refine At.enter rfl ?_
          refine r_iconst 0 rfl ?_
          refine Ar.fall 18 rfl ?_
          refine At.enter rfl ?_
          refine q_iretz (by decide) ?_
          refine At.enter rfl ?_
          refine q_iretz (by decide) ?_
          refine At.enter rfl ?_
          refine r_ift (by decide) ?_
          refine At.enter rfl ?_
          refine r_aload_n rfl ?_
          refine r_bipush (-2) rfl ?_
          refine r_callV 49 rfl [.ref 231, .int (-2)] [] (Nat.le_of_ble_eq_true rfl) rfl (T_X11_tell_231 _ hI293 (-2) (by decide)) ?_
          rintro _ _ ⟨g438, rfl, hI439, hF440, v441, rfl, hr442⟩
          refine At.sti ?_
          have hF443 := Fr.tr hF294 hF440 rfl rfl
          have zv444 : ((-2) : Int32).toInt = (-2) := rfl
          refine At.enter rfl ?_
          refine r_ireti ?_
          have x445 := HI.eqA hI439 (p := 233) (j := 0) ((((eA_c (hF440.2.1 233 (by decide))).trans (eA_c gA_sI)).trans hv434))
          have x446 := HI.eqA hI0 (p := 233) (j := 0) (hv434)
          exact ⟨_, rfl, hI439, hF443, _, rfl, by omega, (by omega)⟩
        · have c437_ : v433.toInt ≥ 0 := en_j_lt_f c437
          refine At.enter rfl ?_
          refine r_lload_n rfl ?_
          refine r_lload rfl ?_
          refine r_lcmp _ rfl ?_
          refine r_ifs 13 rfl (fun c447 => ?_) (fun c447 => ?_)
          · have c447_ : v433.toInt > v436.toInt := en_j_gt_t c447
            refine At.enter rfl ?_
            refine r_iconst 0 rfl ?_
            refine Ar.fall 18 rfl ?_
            refine At.enter rfl ?_
            refine q_iretz (by decide) ?_
            refine At.enter rfl ?_
            refine q_iretz (by decide) ?_
            refine At.enter rfl ?_
            refine r_ift (by decide) ?_
            refine At.enter rfl ?_
            refine r_aload_n rfl ?_
            refine r_bipush (-2) rfl ?_
            refine r_callV 49 rfl [.ref 231, .int (-2)] [] (Nat.le_of_ble_eq_true rfl) rfl (T_X11_tell_231 _ hI293 (-2) (by decide)) ?_
            rintro _ _ ⟨g448, rfl, hI449, hF450, v451, rfl, hr452⟩
            refine At.sti ?_
            have hF453 := Fr.tr hF294 hF450 rfl rfl
            have zv454 : ((-2) : Int32).toInt = (-2) := rfl
            refine At.enter rfl ?_
            refine r_ireti ?_
            have x455 := HI.eqA hI449 (p := 233) (j := 0) ((((eA_c (hF450.2.1 233 (by decide))).trans (eA_c gA_sI)).trans hv434))
            have x456 := HI.eqA hI0 (p := 233) (j := 0) (hv434)
            exact ⟨_, rfl, hI449, hF453, _, rfl, by omega, (by omega)⟩
          · have c447_ : v433.toInt ≤ v436.toInt := en_j_gt_f c447
            refine At.enter rfl ?_
            refine r_iconst 1 rfl ?_
            refine r_goto ?_
            refine At.enter rfl ?_
            refine q_iretz (by decide) ?_
            refine At.enter rfl ?_
            refine q_iretz (by decide) ?_
            refine At.enter rfl ?_
            refine r_iff 27 rfl (by decide) ?_
            refine At.enter rfl ?_
            refine r_aload_n rfl ?_
            refine r_bipush 10 rfl ?_
            refine r_iconst 3 rfl ?_
            refine r_iload_n rfl ?_
            refine q_imul (3 * a1.toInt) rfl (by omega) (fun v457 hv457 => ?_)
            refine q_iadd (10 + v457.toInt) rfl (by omega) (fun v458 hv458 => ?_)
            refine r_iload_n rfl ?_
            refine q_iadd (v458.toInt + a2.toInt) rfl (by omega) (fun v459 hv459 => ?_)
            refine r_iload_n rfl ?_
            refine q_inlV 40 rfl [.ref 231, .int v459, .int a3] [] (Nat.le_of_ble_eq_true rfl) rfl ?_
            refine Ev.mk rfl rfl ⟨Nat.le_of_ble_eq_true rfl, Or.inr (q_rc hI293.1 kx_231 rfl)⟩ ?_
            show At _ none _ _ (0, [(0, .ref 231), (1, .int v459), (2, .int a3)], [], (_, _)) _
            refine At.enter rfl ?_
            refine r_aload_n rfl ?_
            refine q_getR (Sh.ref hI293.1 kx_231 rfl) ?_
            refine r_iload_n rfl ?_
            obtain ⟨v460, hv460⟩ : ∃ v, eA g0 233 (3 * a1.toInt + a2.toInt + 10) = v := ⟨_, rfl⟩
            have wv460 := HI.s2 hI0 (j := (3 * a1.toInt + a2.toInt + 10)) (a1.toInt) (by omega) (by omega)
            rw [hv460] at wv460
            refine q_iald (Sh.arr hI293.1 ka_233) (3 * a1.toInt + a2.toInt + 10) (by omega) (by omega) v460 ((eA_c (gA_sI)).trans hv460) ?_
            refine r_istore_n ([(3, .int v460), (0, .ref 231), (1, .int v459), (2, .int a3)]) rfl ?_
            refine r_aload_n rfl ?_
            refine q_getR (Sh.ref hI293.1 kx_231 rfl) ?_
            refine r_iload_n rfl ?_
            refine r_iload_n rfl ?_
            refine q_iast (Sh.arr hI293.1 ka_233) ((3 * a1.toInt + a2.toInt + 10)) (by omega) (by omega) ?_
            have hI461 := HI.ws hI293 (j := (3 * a1.toInt + a2.toInt + 10)) (v := a3) (a1.toInt) 2 (by omega) (by decide) (by omega) (by omega)
            have hF462 := Fr.wA (p := 233) (j := (3 * a1.toInt + a2.toInt + 10)) (v := a3) hF294 rfl
            refine r_aload_n rfl ?_
            refine r_iload_n rfl ?_
            refine q_inlV 19 rfl [.ref 231, .int v460] [] (Nat.le_of_ble_eq_true rfl) rfl ?_
            refine Ev.mk rfl rfl ⟨Nat.le_of_ble_eq_true rfl, Or.inr (q_rc hI461.1 kx_231 rfl)⟩ ?_
            show At _ none _ _ (0, [(0, .ref 231), (1, .int v460)], [], (_, _)) _
            refine At.enter rfl ?_
            refine r_aload_n rfl ?_
            refine r_iconst 0 rfl ?_
            refine q_putI (Sh.int hI461.1 kx_231 rfl) rfl ?_
            have hI463 := HI.wI0 hI461 kx_231 rfl (p := 231) (b := 1) (v := 0) rfl
            have hF464 := Fr.wI (p := 231) (b := 1) (v := 0) hF462 rfl
            refine r_iload_n rfl ?_
            refine q_ireti ?_
            refine At.enter rfl ?_
            refine q_ireti ?_
            refine At.enter rfl ?_
            refine r_goto ?_
            refine At.enter rfl ?_
            refine r_ireti ?_
            have x465 := HI.eqA hI463 (p := 233) (j := 0) ((((eA_c gA_sI).trans ((eA_sA_ne hI293.1 ka_233 (by first | decide | omega) (by first | decide | omega) (by first | decide | omega)).trans (eA_c gA_sI))).trans hv434))
            have x466 := HI.eqA hI0 (p := 233) (j := 0) (hv434)
            exact ⟨_, rfl, hI463, hF464, _, rfl, by omega, (by omega)⟩
  have c467 : a2.toInt < 0 ∨ 2 < a2.toInt := by omega
  refine r_tsw 60 (by unfold en_sw; rw [if_pos c467]; rfl) ?_
  refine At.enter rfl ?_
  refine r_iconst 0 rfl ?_
  refine q_iretz (by decide) ?_
  refine At.enter rfl ?_
  refine r_iff 13 rfl (by decide) ?_
  refine At.enter rfl ?_
  refine r_aload_n rfl ?_
  refine r_iconst (-1) rfl ?_
  refine r_callV 18 rfl [.ref 231, .int (-1)] [] (Nat.le_of_ble_eq_true rfl) rfl (T_X11_tell_231 _ hI293 (-1) (by decide)) ?_
  rintro _ _ ⟨g468, rfl, hI469, hF470, v471, rfl, hr472⟩
  refine At.sti ?_
  have hF473 := Fr.tr hF294 hF470 rfl rfl
  have zv474 : ((-1) : Int32).toInt = (-1) := rfl
  refine At.enter rfl ?_
  refine r_ireti ?_
  obtain ⟨v475, hv475⟩ : ∃ v, eA g0 233 0 = v := ⟨_, rfl⟩
  have tv475 := congrArg Int32.toInt hv475
  have wv475 := HI.t0 hI0
  rw [hv475] at wv475
  have tv475 := congrArg Int32.toInt hv475
  have x476 := HI.eqA hI469 (p := 233) (j := 0) ((((eA_c (hF470.2.1 233 (by decide))).trans (eA_c gA_sI)).trans hv475))
  have x477 := HI.eqA hI0 (p := 233) (j := 0) (hv475)
  exact ⟨_, rfl, hI469, hF473, _, rfl, by omega, (by omega)⟩

def F_X11_load_231 : List (Nat × Nat) := [(231, 0), (231, 1)]
def A_X11_load_231 : List Nat := [232, 233]
set_option maxRecDepth 100000 in
set_option maxHeartbeats 4000000 in
theorem T_X11_load_231 (d : Nat) {N : Nat} {g0 : List en_E} (hI0 : HI g0) (a1 : Int32) (a2 : Int32) (a3 : Int32) (a4 : Int32) (a5 : Int32) (a6 : Int32) : Ev (d + 3) 178 [.ref 231, .int a1, .int a2, .int a3, .int a4, .int a5, .int a6] (g0, N) (fun w h' => ∃ g', h' = (g', N) ∧ HI g' ∧ Fr F_X11_load_231 A_X11_load_231 g0 g' ∧ ∃ r : Int32, w = some (.int r) ∧ ((-5) ≤ r.toInt ∧ r.toInt ≤ 7) ∧ ((eA g' 233 0).toInt = (eA g0 233 0).toInt)) := by
  have hF0 : Fr F_X11_load_231 A_X11_load_231 g0 g0 := Fr.rf
  refine Ev.mk rfl rfl ⟨Nat.le_of_ble_eq_true rfl, Or.inr (q_rc hI0.1 kx_231 rfl)⟩ ?_
  show At _ none _ _ (0, [(0, .ref 231), (1, .int a1), (2, .int a2), (3, .int a3), (4, .int a4), (5, .int a5), (6, .int a6)], [], (_, _)) _
  refine At.enter rfl ?_
  refine r_aload_n rfl ?_
  refine r_iconst 0 rfl ?_
  refine q_putI (Sh.int hI0.1 kx_231 rfl) rfl ?_
  have hI305 := HI.wI0 hI0 kx_231 rfl (p := 231) (b := 0) (v := 0) rfl
  have hF306 := Fr.wI (p := 231) (b := 0) (v := 0) hF0 rfl
  refine r_iload_n rfl ?_
  refine r_iload rfl ?_
  refine r_iload rfl ?_
  refine r_iload rfl ?_
  refine q_inlS 15 rfl [.int a1, .int a4, .int a5, .int a6] [] (Nat.le_of_ble_eq_true rfl) rfl ?_
  refine Ev.mk rfl rfl ⟨Nat.le_of_ble_eq_true rfl, Or.inl rfl⟩ ?_
  show At _ none _ _ (0, [(0, .int a1), (1, .int a4), (2, .int a5), (3, .int a6)], [], (_, _)) _
  refine At.enter rfl ?_
  refine r_iload_n rfl ?_
  refine q_i2l (fun v307 hv307 => ?_)
  refine r_lconst 1 rfl ?_
  refine r_ldc2 9 rfl ?_
  refine q_inlS 9 rfl [.long v307, .long 1, .long 9] [] (Nat.le_of_ble_eq_true rfl) rfl ?_
  refine Ev.mk rfl rfl ⟨Nat.le_of_ble_eq_true rfl, Or.inl rfl⟩ ?_
  show At _ none _ _ (0, [(0, .long v307), (2, .long 1), (4, .long 9)], [], (_, _)) _
  refine At.enter rfl ?_
  refine r_lload_n rfl ?_
  refine r_lload_n rfl ?_
  refine r_lcmp _ rfl ?_
  refine r_ifs 6 rfl (fun c308 => ?_) (fun c308 => ?_)
  · have c308_ : v307.toInt < 1 := en_j_lt_t c308
    refine At.enter rfl ?_
    refine r_iconst 0 rfl ?_
    refine Ar.fall 18 rfl ?_
    refine At.enter rfl ?_
    refine q_iretz (by decide) ?_
    refine At.enter rfl ?_
    refine r_ift (by decide) ?_
    refine At.enter rfl ?_
    refine r_iconst 0 rfl ?_
    refine Ar.fall 53 rfl ?_
    refine At.enter rfl ?_
    refine q_iretz (by decide) ?_
    refine At.enter rfl ?_
    refine r_iff 18 rfl (by decide) ?_
    refine At.enter rfl ?_
    refine r_aload_n rfl ?_
    refine r_iconst (-1) rfl ?_
    refine r_callV 23 rfl [.ref 231, .int (-1)] [] (Nat.le_of_ble_eq_true rfl) rfl (T_X11_tell_231 _ hI305 (-1) (by decide)) ?_
    rintro _ _ ⟨g309, rfl, hI310, hF311, v312, rfl, hr313⟩
    refine At.sti ?_
    have hF314 := Fr.tr hF306 hF311 rfl rfl
    have zv315 : ((-1) : Int32).toInt = (-1) := rfl
    refine At.enter rfl ?_
    refine r_ireti ?_
    obtain ⟨v316, hv316⟩ : ∃ v, eA g0 233 0 = v := ⟨_, rfl⟩
    have tv316 := congrArg Int32.toInt hv316
    have wv316 := HI.t0 hI0
    rw [hv316] at wv316
    have tv316 := congrArg Int32.toInt hv316
    have x317 := HI.eqA hI310 (p := 233) (j := 0) ((((eA_c (hF311.2.1 233 (by decide))).trans (eA_c gA_sI)).trans hv316))
    have x318 := HI.eqA hI0 (p := 233) (j := 0) (hv316)
    exact ⟨_, rfl, hI310, hF314, _, rfl, by omega, (by omega)⟩
  · have c308_ : v307.toInt ≥ 1 := en_j_lt_f c308
    refine At.enter rfl ?_
    refine r_lload_n rfl ?_
    refine r_lload rfl ?_
    refine r_lcmp _ rfl ?_
    refine r_ifs 13 rfl (fun c319 => ?_) (fun c319 => ?_)
    · have c319_ : v307.toInt > 9 := en_j_gt_t c319
      refine At.enter rfl ?_
      refine r_iconst 0 rfl ?_
      refine Ar.fall 18 rfl ?_
      refine At.enter rfl ?_
      refine q_iretz (by decide) ?_
      refine At.enter rfl ?_
      refine r_ift (by decide) ?_
      refine At.enter rfl ?_
      refine r_iconst 0 rfl ?_
      refine Ar.fall 53 rfl ?_
      refine At.enter rfl ?_
      refine q_iretz (by decide) ?_
      refine At.enter rfl ?_
      refine r_iff 18 rfl (by decide) ?_
      refine At.enter rfl ?_
      refine r_aload_n rfl ?_
      refine r_iconst (-1) rfl ?_
      refine r_callV 23 rfl [.ref 231, .int (-1)] [] (Nat.le_of_ble_eq_true rfl) rfl (T_X11_tell_231 _ hI305 (-1) (by decide)) ?_
      rintro _ _ ⟨g320, rfl, hI321, hF322, v323, rfl, hr324⟩
      refine At.sti ?_
      have hF325 := Fr.tr hF306 hF322 rfl rfl
      have zv326 : ((-1) : Int32).toInt = (-1) := rfl
      refine At.enter rfl ?_
      refine r_ireti ?_
      obtain ⟨v327, hv327⟩ : ∃ v, eA g0 233 0 = v := ⟨_, rfl⟩
      have tv327 := congrArg Int32.toInt hv327
      have wv327 := HI.t0 hI0
      rw [hv327] at wv327
      have tv327 := congrArg Int32.toInt hv327
      have x328 := HI.eqA hI321 (p := 233) (j := 0) ((((eA_c (hF322.2.1 233 (by decide))).trans (eA_c gA_sI)).trans hv327))
      have x329 := HI.eqA hI0 (p := 233) (j := 0) (hv327)
      exact ⟨_, rfl, hI321, hF325, _, rfl, by omega, (by omega)⟩
    · have c319_ : v307.toInt ≤ 9 := en_j_gt_f c319
      refine At.enter rfl ?_
      refine r_iconst 1 rfl ?_
      refine r_goto ?_
      refine At.enter rfl ?_
      refine q_iretz (by decide) ?_
      refine At.enter rfl ?_
      refine r_iff 12 rfl (by decide) ?_
      refine At.enter rfl ?_
      refine r_iload_n rfl ?_
      refine q_i2l (fun v330 hv330 => ?_)
      refine r_lconst 0 rfl ?_
      refine r_ldc2 99 rfl ?_
      refine q_inlS 21 rfl [.long v330, .long 0, .long 99] [] (Nat.le_of_ble_eq_true rfl) rfl ?_
      refine Ev.mk rfl rfl ⟨Nat.le_of_ble_eq_true rfl, Or.inl rfl⟩ ?_
      show At _ none _ _ (0, [(0, .long v330), (2, .long 0), (4, .long 99)], [], (_, _)) _
      refine At.enter rfl ?_
      refine r_lload_n rfl ?_
      refine r_lload_n rfl ?_
      refine r_lcmp _ rfl ?_
      refine r_ifs 6 rfl (fun c331 => ?_) (fun c331 => ?_)
      · have c331_ : v330.toInt < 0 := en_j_lt_t c331
        refine At.enter rfl ?_
        refine r_iconst 0 rfl ?_
        refine Ar.fall 18 rfl ?_
        refine At.enter rfl ?_
        refine q_iretz (by decide) ?_
        refine At.enter rfl ?_
        refine r_ift (by decide) ?_
        refine At.enter rfl ?_
        refine r_iconst 0 rfl ?_
        refine Ar.fall 53 rfl ?_
        refine At.enter rfl ?_
        refine q_iretz (by decide) ?_
        refine At.enter rfl ?_
        refine r_iff 18 rfl (by decide) ?_
        refine At.enter rfl ?_
        refine r_aload_n rfl ?_
        refine r_iconst (-1) rfl ?_
        refine r_callV 23 rfl [.ref 231, .int (-1)] [] (Nat.le_of_ble_eq_true rfl) rfl (T_X11_tell_231 _ hI305 (-1) (by decide)) ?_
        rintro _ _ ⟨g332, rfl, hI333, hF334, v335, rfl, hr336⟩
        refine At.sti ?_
        have hF337 := Fr.tr hF306 hF334 rfl rfl
        have zv338 : ((-1) : Int32).toInt = (-1) := rfl
        refine At.enter rfl ?_
        refine r_ireti ?_
        obtain ⟨v339, hv339⟩ : ∃ v, eA g0 233 0 = v := ⟨_, rfl⟩
        have tv339 := congrArg Int32.toInt hv339
        have wv339 := HI.t0 hI0
        rw [hv339] at wv339
        have tv339 := congrArg Int32.toInt hv339
        have x340 := HI.eqA hI333 (p := 233) (j := 0) ((((eA_c (hF334.2.1 233 (by decide))).trans (eA_c gA_sI)).trans hv339))
        have x341 := HI.eqA hI0 (p := 233) (j := 0) (hv339)
        exact ⟨_, rfl, hI333, hF337, _, rfl, by omega, (by omega)⟩
      · have c331_ : v330.toInt ≥ 0 := en_j_lt_f c331
        refine At.enter rfl ?_
        refine r_lload_n rfl ?_
        refine r_lload rfl ?_
        refine r_lcmp _ rfl ?_
        refine r_ifs 13 rfl (fun c342 => ?_) (fun c342 => ?_)
        · have c342_ : v330.toInt > 99 := en_j_gt_t c342
          refine At.enter rfl ?_
          refine r_iconst 0 rfl ?_
          refine Ar.fall 18 rfl ?_
          refine At.enter rfl ?_
          refine q_iretz (by decide) ?_
          refine At.enter rfl ?_
          refine r_ift (by decide) ?_
          refine At.enter rfl ?_
          refine r_iconst 0 rfl ?_
          refine Ar.fall 53 rfl ?_
          refine At.enter rfl ?_
          refine q_iretz (by decide) ?_
          refine At.enter rfl ?_
          refine r_iff 18 rfl (by decide) ?_
          refine At.enter rfl ?_
          refine r_aload_n rfl ?_
          refine r_iconst (-1) rfl ?_
          refine r_callV 23 rfl [.ref 231, .int (-1)] [] (Nat.le_of_ble_eq_true rfl) rfl (T_X11_tell_231 _ hI305 (-1) (by decide)) ?_
          rintro _ _ ⟨g343, rfl, hI344, hF345, v346, rfl, hr347⟩
          refine At.sti ?_
          have hF348 := Fr.tr hF306 hF345 rfl rfl
          have zv349 : ((-1) : Int32).toInt = (-1) := rfl
          refine At.enter rfl ?_
          refine r_ireti ?_
          obtain ⟨v350, hv350⟩ : ∃ v, eA g0 233 0 = v := ⟨_, rfl⟩
          have tv350 := congrArg Int32.toInt hv350
          have wv350 := HI.t0 hI0
          rw [hv350] at wv350
          have tv350 := congrArg Int32.toInt hv350
          have x351 := HI.eqA hI344 (p := 233) (j := 0) ((((eA_c (hF345.2.1 233 (by decide))).trans (eA_c gA_sI)).trans hv350))
          have x352 := HI.eqA hI0 (p := 233) (j := 0) (hv350)
          exact ⟨_, rfl, hI344, hF348, _, rfl, by omega, (by omega)⟩
        · have c342_ : v330.toInt ≤ 99 := en_j_gt_f c342
          refine At.enter rfl ?_
          refine r_iconst 1 rfl ?_
          refine r_goto ?_
          refine At.enter rfl ?_
          refine q_iretz (by decide) ?_
          refine At.enter rfl ?_
          refine r_iff 24 rfl (by decide) ?_
          refine At.enter rfl ?_
          refine r_iload_n rfl ?_
          refine q_i2l (fun v353 hv353 => ?_)
          refine r_lconst 0 rfl ?_
          refine r_ldc2 9 rfl ?_
          refine q_inlS 33 rfl [.long v353, .long 0, .long 9] [] (Nat.le_of_ble_eq_true rfl) rfl ?_
          refine Ev.mk rfl rfl ⟨Nat.le_of_ble_eq_true rfl, Or.inl rfl⟩ ?_
          show At _ none _ _ (0, [(0, .long v353), (2, .long 0), (4, .long 9)], [], (_, _)) _
          refine At.enter rfl ?_
          refine r_lload_n rfl ?_
          refine r_lload_n rfl ?_
          refine r_lcmp _ rfl ?_
          refine r_ifs 6 rfl (fun c354 => ?_) (fun c354 => ?_)
          · have c354_ : v353.toInt < 0 := en_j_lt_t c354
            refine At.enter rfl ?_
            refine r_iconst 0 rfl ?_
            refine Ar.fall 18 rfl ?_
            refine At.enter rfl ?_
            refine q_iretz (by decide) ?_
            refine At.enter rfl ?_
            refine r_ift (by decide) ?_
            refine At.enter rfl ?_
            refine r_iconst 0 rfl ?_
            refine Ar.fall 53 rfl ?_
            refine At.enter rfl ?_
            refine q_iretz (by decide) ?_
            refine At.enter rfl ?_
            refine r_iff 18 rfl (by decide) ?_
            refine At.enter rfl ?_
            refine r_aload_n rfl ?_
            refine r_iconst (-1) rfl ?_
            refine r_callV 23 rfl [.ref 231, .int (-1)] [] (Nat.le_of_ble_eq_true rfl) rfl (T_X11_tell_231 _ hI305 (-1) (by decide)) ?_
            rintro _ _ ⟨g355, rfl, hI356, hF357, v358, rfl, hr359⟩
            refine At.sti ?_
            have hF360 := Fr.tr hF306 hF357 rfl rfl
            have zv361 : ((-1) : Int32).toInt = (-1) := rfl
            refine At.enter rfl ?_
            refine r_ireti ?_
            obtain ⟨v362, hv362⟩ : ∃ v, eA g0 233 0 = v := ⟨_, rfl⟩
            have tv362 := congrArg Int32.toInt hv362
            have wv362 := HI.t0 hI0
            rw [hv362] at wv362
            have tv362 := congrArg Int32.toInt hv362
            have x363 := HI.eqA hI356 (p := 233) (j := 0) ((((eA_c (hF357.2.1 233 (by decide))).trans (eA_c gA_sI)).trans hv362))
            have x364 := HI.eqA hI0 (p := 233) (j := 0) (hv362)
            exact ⟨_, rfl, hI356, hF360, _, rfl, by omega, (by omega)⟩
          · have c354_ : v353.toInt ≥ 0 := en_j_lt_f c354
            refine At.enter rfl ?_
            refine r_lload_n rfl ?_
            refine r_lload rfl ?_
            refine r_lcmp _ rfl ?_
            refine r_ifs 13 rfl (fun c365 => ?_) (fun c365 => ?_)
            · have c365_ : v353.toInt > 9 := en_j_gt_t c365
              refine At.enter rfl ?_
              refine r_iconst 0 rfl ?_
              refine Ar.fall 18 rfl ?_
              refine At.enter rfl ?_
              refine q_iretz (by decide) ?_
              refine At.enter rfl ?_
              refine r_ift (by decide) ?_
              refine At.enter rfl ?_
              refine r_iconst 0 rfl ?_
              refine Ar.fall 53 rfl ?_
              refine At.enter rfl ?_
              refine q_iretz (by decide) ?_
              refine At.enter rfl ?_
              refine r_iff 18 rfl (by decide) ?_
              refine At.enter rfl ?_
              refine r_aload_n rfl ?_
              refine r_iconst (-1) rfl ?_
              refine r_callV 23 rfl [.ref 231, .int (-1)] [] (Nat.le_of_ble_eq_true rfl) rfl (T_X11_tell_231 _ hI305 (-1) (by decide)) ?_
              rintro _ _ ⟨g366, rfl, hI367, hF368, v369, rfl, hr370⟩
              refine At.sti ?_
              have hF371 := Fr.tr hF306 hF368 rfl rfl
              have zv372 : ((-1) : Int32).toInt = (-1) := rfl
              refine At.enter rfl ?_
              refine r_ireti ?_
              obtain ⟨v373, hv373⟩ : ∃ v, eA g0 233 0 = v := ⟨_, rfl⟩
              have tv373 := congrArg Int32.toInt hv373
              have wv373 := HI.t0 hI0
              rw [hv373] at wv373
              have tv373 := congrArg Int32.toInt hv373
              have x374 := HI.eqA hI367 (p := 233) (j := 0) ((((eA_c (hF368.2.1 233 (by decide))).trans (eA_c gA_sI)).trans hv373))
              have x375 := HI.eqA hI0 (p := 233) (j := 0) (hv373)
              exact ⟨_, rfl, hI367, hF371, _, rfl, by omega, (by omega)⟩
            · have c365_ : v353.toInt ≤ 9 := en_j_gt_f c365
              refine At.enter rfl ?_
              refine r_iconst 1 rfl ?_
              refine r_goto ?_
              refine At.enter rfl ?_
              refine q_iretz (by decide) ?_
              refine At.enter rfl ?_
              refine r_iff 36 rfl (by decide) ?_
              refine At.enter rfl ?_
              refine r_iload_n rfl ?_
              refine q_i2l (fun v376 hv376 => ?_)
              refine r_lconst 0 rfl ?_
              refine r_ldc2 9999 rfl ?_
              refine q_inlS 45 rfl [.long v376, .long 0, .long 9999] [] (Nat.le_of_ble_eq_true rfl) rfl ?_
              refine Ev.mk rfl rfl ⟨Nat.le_of_ble_eq_true rfl, Or.inl rfl⟩ ?_
              show At _ none _ _ (0, [(0, .long v376), (2, .long 0), (4, .long 9999)], [], (_, _)) _
              refine At.enter rfl ?_
              refine r_lload_n rfl ?_
              refine r_lload_n rfl ?_
              refine r_lcmp _ rfl ?_
              refine r_ifs 6 rfl (fun c377 => ?_) (fun c377 => ?_)
              · have c377_ : v376.toInt < 0 := en_j_lt_t c377
                refine At.enter rfl ?_
                refine r_iconst 0 rfl ?_
                refine Ar.fall 18 rfl ?_
                refine At.enter rfl ?_
                refine q_iretz (by decide) ?_
                refine At.enter rfl ?_
                refine r_ift (by decide) ?_
                refine At.enter rfl ?_
                refine r_iconst 0 rfl ?_
                refine Ar.fall 53 rfl ?_
                refine At.enter rfl ?_
                refine q_iretz (by decide) ?_
                refine At.enter rfl ?_
                refine r_iff 18 rfl (by decide) ?_
                refine At.enter rfl ?_
                refine r_aload_n rfl ?_
                refine r_iconst (-1) rfl ?_
                refine r_callV 23 rfl [.ref 231, .int (-1)] [] (Nat.le_of_ble_eq_true rfl) rfl (T_X11_tell_231 _ hI305 (-1) (by decide)) ?_
                rintro _ _ ⟨g378, rfl, hI379, hF380, v381, rfl, hr382⟩
                refine At.sti ?_
                have hF383 := Fr.tr hF306 hF380 rfl rfl
                have zv384 : ((-1) : Int32).toInt = (-1) := rfl
                refine At.enter rfl ?_
                refine r_ireti ?_
                obtain ⟨v385, hv385⟩ : ∃ v, eA g0 233 0 = v := ⟨_, rfl⟩
                have tv385 := congrArg Int32.toInt hv385
                have wv385 := HI.t0 hI0
                rw [hv385] at wv385
                have tv385 := congrArg Int32.toInt hv385
                have x386 := HI.eqA hI379 (p := 233) (j := 0) ((((eA_c (hF380.2.1 233 (by decide))).trans (eA_c gA_sI)).trans hv385))
                have x387 := HI.eqA hI0 (p := 233) (j := 0) (hv385)
                exact ⟨_, rfl, hI379, hF383, _, rfl, by omega, (by omega)⟩
              · have c377_ : v376.toInt ≥ 0 := en_j_lt_f c377
                refine At.enter rfl ?_
                refine r_lload_n rfl ?_
                refine r_lload rfl ?_
                refine r_lcmp _ rfl ?_
                refine r_ifs 13 rfl (fun c388 => ?_) (fun c388 => ?_)
                · have c388_ : v376.toInt > 9999 := en_j_gt_t c388
                  refine At.enter rfl ?_
                  refine r_iconst 0 rfl ?_
                  refine Ar.fall 18 rfl ?_
                  refine At.enter rfl ?_
                  refine q_iretz (by decide) ?_
                  refine At.enter rfl ?_
                  refine r_ift (by decide) ?_
                  refine At.enter rfl ?_
                  refine r_iconst 0 rfl ?_
                  refine Ar.fall 53 rfl ?_
                  refine At.enter rfl ?_
                  refine q_iretz (by decide) ?_
                  refine At.enter rfl ?_
                  refine r_iff 18 rfl (by decide) ?_
                  refine At.enter rfl ?_
                  refine r_aload_n rfl ?_
                  refine r_iconst (-1) rfl ?_
                  refine r_callV 23 rfl [.ref 231, .int (-1)] [] (Nat.le_of_ble_eq_true rfl) rfl (T_X11_tell_231 _ hI305 (-1) (by decide)) ?_
                  rintro _ _ ⟨g389, rfl, hI390, hF391, v392, rfl, hr393⟩
                  refine At.sti ?_
                  have hF394 := Fr.tr hF306 hF391 rfl rfl
                  have zv395 : ((-1) : Int32).toInt = (-1) := rfl
                  refine At.enter rfl ?_
                  refine r_ireti ?_
                  obtain ⟨v396, hv396⟩ : ∃ v, eA g0 233 0 = v := ⟨_, rfl⟩
                  have tv396 := congrArg Int32.toInt hv396
                  have wv396 := HI.t0 hI0
                  rw [hv396] at wv396
                  have tv396 := congrArg Int32.toInt hv396
                  have x397 := HI.eqA hI390 (p := 233) (j := 0) ((((eA_c (hF391.2.1 233 (by decide))).trans (eA_c gA_sI)).trans hv396))
                  have x398 := HI.eqA hI0 (p := 233) (j := 0) (hv396)
                  exact ⟨_, rfl, hI390, hF394, _, rfl, by omega, (by omega)⟩
                · have c388_ : v376.toInt ≤ 9999 := en_j_gt_f c388
                  refine At.enter rfl ?_
                  refine r_iconst 1 rfl ?_
                  refine r_goto ?_
                  refine At.enter rfl ?_
                  refine q_iretz (by decide) ?_
                  refine At.enter rfl ?_
                  refine r_iff 48 rfl (by decide) ?_
                  refine At.enter rfl ?_
                  refine r_iconst 1 rfl ?_
                  refine r_goto ?_
                  refine At.enter rfl ?_
                  refine q_iretz (by decide) ?_
                  refine At.enter rfl ?_
                  refine r_ift (by decide) ?_
                  refine At.enter rfl ?_
                  refine r_aload_n rfl ?_
                  refine r_iload_n rfl ?_
                  refine q_inlV 29 rfl [.ref 231, .int a2] [] (Nat.le_of_ble_eq_true rfl) rfl ?_
                  refine Ev.mk rfl rfl ⟨Nat.le_of_ble_eq_true rfl, Or.inr (q_rc hI305.1 kx_231 rfl)⟩ ?_
                  show At _ none _ _ (0, [(0, .ref 231), (1, .int a2)], [], (_, _)) _
                  refine At.enter rfl ?_
                  refine r_iload_n rfl ?_
                  refine q_i2l (fun v399 hv399 => ?_)
                  refine r_lconst 0 rfl ?_
                  refine r_aload_n rfl ?_
                  refine q_getR (Sh.ref hI305.1 kx_231 rfl) ?_
                  refine r_iconst 0 rfl ?_
                  obtain ⟨v400, hv400⟩ : ∃ v, eA g0 233 0 = v := ⟨_, rfl⟩
                  have tv400 := congrArg Int32.toInt hv400
                  have wv400 := HI.t0 hI0
                  rw [hv400] at wv400
                  refine q_iald (Sh.arr hI305.1 ka_233) 0 rfl (by decide) v400 ((eA_c (gA_sI)).trans hv400) ?_
                  refine q_i2l (fun v401 hv401 => ?_)
                  refine r_lconst 1 rfl ?_
                  refine q_lsub (v401.toInt - 1) rfl (by omega) (fun v402 hv402 => ?_)
                  refine q_inlS 15 rfl [.long v399, .long 0, .long v402] [] (Nat.le_of_ble_eq_true rfl) rfl ?_
                  refine Ev.mk rfl rfl ⟨Nat.le_of_ble_eq_true rfl, Or.inl rfl⟩ ?_
                  show At _ none _ _ (0, [(0, .long v399), (2, .long 0), (4, .long v402)], [], (_, _)) _
                  refine At.enter rfl ?_
                  refine r_lload_n rfl ?_
                  refine r_lload_n rfl ?_
                  refine r_lcmp _ rfl ?_
                  refine r_ifs 6 rfl (fun c403 => ?_) (fun c403 => ?_)
                  · have c403_ : v399.toInt < 0 := en_j_lt_t c403
                    refine At.enter rfl ?_
                    refine r_iconst 0 rfl ?_
                    refine Ar.fall 18 rfl ?_
                    refine At.enter rfl ?_
                    refine q_iretz (by decide) ?_
                    refine At.enter rfl ?_
                    refine q_iretz (by decide) ?_
                    refine At.enter rfl ?_
                    refine r_ift (by decide) ?_
                    refine At.enter rfl ?_
                    refine r_aload_n rfl ?_
                    refine r_bipush (-2) rfl ?_
                    refine r_callV 46 rfl [.ref 231, .int (-2)] [] (Nat.le_of_ble_eq_true rfl) rfl (T_X11_tell_231 _ hI305 (-2) (by decide)) ?_
                    rintro _ _ ⟨g404, rfl, hI405, hF406, v407, rfl, hr408⟩
                    refine At.sti ?_
                    have hF409 := Fr.tr hF306 hF406 rfl rfl
                    have zv410 : ((-2) : Int32).toInt = (-2) := rfl
                    refine At.enter rfl ?_
                    refine r_ireti ?_
                    have x411 := HI.eqA hI405 (p := 233) (j := 0) ((((eA_c (hF406.2.1 233 (by decide))).trans (eA_c gA_sI)).trans hv400))
                    have x412 := HI.eqA hI0 (p := 233) (j := 0) (hv400)
                    exact ⟨_, rfl, hI405, hF409, _, rfl, by omega, (by omega)⟩
                  · have c403_ : v399.toInt ≥ 0 := en_j_lt_f c403
                    refine At.enter rfl ?_
                    refine r_lload_n rfl ?_
                    refine r_lload rfl ?_
                    refine r_lcmp _ rfl ?_
                    refine r_ifs 13 rfl (fun c413 => ?_) (fun c413 => ?_)
                    · have c413_ : v399.toInt > v402.toInt := en_j_gt_t c413
                      refine At.enter rfl ?_
                      refine r_iconst 0 rfl ?_
                      refine Ar.fall 18 rfl ?_
                      refine At.enter rfl ?_
                      refine q_iretz (by decide) ?_
                      refine At.enter rfl ?_
                      refine q_iretz (by decide) ?_
                      refine At.enter rfl ?_
                      refine r_ift (by decide) ?_
                      refine At.enter rfl ?_
                      refine r_aload_n rfl ?_
                      refine r_bipush (-2) rfl ?_
                      refine r_callV 46 rfl [.ref 231, .int (-2)] [] (Nat.le_of_ble_eq_true rfl) rfl (T_X11_tell_231 _ hI305 (-2) (by decide)) ?_
                      rintro _ _ ⟨g414, rfl, hI415, hF416, v417, rfl, hr418⟩
                      refine At.sti ?_
                      have hF419 := Fr.tr hF306 hF416 rfl rfl
                      have zv420 : ((-2) : Int32).toInt = (-2) := rfl
                      refine At.enter rfl ?_
                      refine r_ireti ?_
                      have x421 := HI.eqA hI415 (p := 233) (j := 0) ((((eA_c (hF416.2.1 233 (by decide))).trans (eA_c gA_sI)).trans hv400))
                      have x422 := HI.eqA hI0 (p := 233) (j := 0) (hv400)
                      exact ⟨_, rfl, hI415, hF419, _, rfl, by omega, (by omega)⟩
                    · have c413_ : v399.toInt ≤ v402.toInt := en_j_gt_f c413
                      refine At.enter rfl ?_
                      refine r_iconst 1 rfl ?_
                      refine r_goto ?_
                      refine At.enter rfl ?_
                      refine q_iretz (by decide) ?_
                      refine At.enter rfl ?_
                      refine q_iretz (by decide) ?_
                      refine At.enter rfl ?_
                      refine r_iff 32 rfl (by decide) ?_
                      refine At.enter rfl ?_
                      refine r_aload_n rfl ?_
                      refine r_iload_n rfl ?_
                      refine q_inlV 37 rfl [.ref 231, .int a3] [] (Nat.le_of_ble_eq_true rfl) rfl ?_
                      refine Ev.mk rfl rfl ⟨Nat.le_of_ble_eq_true rfl, Or.inr (q_rc hI305.1 kx_231 rfl)⟩ ?_
                      show At _ none _ _ (0, [(0, .ref 231), (1, .int a3)], [], (_, _)) _
                      refine At.enter rfl ?_
                      refine r_iload_n rfl ?_
                      refine q_i2l (fun v423 hv423 => ?_)
                      refine r_lconst 0 rfl ?_
                      refine r_aload_n rfl ?_
                      refine q_getR (Sh.ref hI305.1 kx_231 rfl) ?_
                      refine r_iconst 0 rfl ?_
                      refine q_iald (Sh.arr hI305.1 ka_233) 0 rfl (by decide) v400 ((eA_c (gA_sI)).trans hv400) ?_
                      refine q_i2l (fun v424 hv424 => ?_)
                      refine r_lconst 1 rfl ?_
                      refine q_lsub (v424.toInt - 1) rfl (by omega) (fun v425 hv425 => ?_)
                      refine q_inlS 15 rfl [.long v423, .long 0, .long v425] [] (Nat.le_of_ble_eq_true rfl) rfl ?_
                      refine Ev.mk rfl rfl ⟨Nat.le_of_ble_eq_true rfl, Or.inl rfl⟩ ?_
                      show At _ none _ _ (0, [(0, .long v423), (2, .long 0), (4, .long v425)], [], (_, _)) _
                      refine At.enter rfl ?_
                      refine r_lload_n rfl ?_
                      refine r_lload_n rfl ?_
                      refine r_lcmp _ rfl ?_
                      refine r_ifs 6 rfl (fun c426 => ?_) (fun c426 => ?_)
                      · have c426_ : v423.toInt < 0 := en_j_lt_t c426
                        refine At.enter rfl ?_
                        refine r_iconst 0 rfl ?_
                        refine Ar.fall 18 rfl ?_
                        refine At.enter rfl ?_
                        refine q_iretz (by decide) ?_
                        refine At.enter rfl ?_
                        refine q_iretz (by decide) ?_
                        refine At.enter rfl ?_
                        refine r_iff 40 rfl (by decide) ?_
                        refine At.enter rfl ?_
                        refine r_aload_n rfl ?_
                        refine r_bipush (-2) rfl ?_
                        refine r_callV 46 rfl [.ref 231, .int (-2)] [] (Nat.le_of_ble_eq_true rfl) rfl (T_X11_tell_231 _ hI305 (-2) (by decide)) ?_
                        rintro _ _ ⟨g427, rfl, hI428, hF429, v430, rfl, hr431⟩
                        refine At.sti ?_
                        have hF432 := Fr.tr hF306 hF429 rfl rfl
                        have zv433 : ((-2) : Int32).toInt = (-2) := rfl
                        refine At.enter rfl ?_
                        refine r_ireti ?_
                        have x434 := HI.eqA hI428 (p := 233) (j := 0) ((((eA_c (hF429.2.1 233 (by decide))).trans (eA_c gA_sI)).trans hv400))
                        have x435 := HI.eqA hI0 (p := 233) (j := 0) (hv400)
                        exact ⟨_, rfl, hI428, hF432, _, rfl, by omega, (by omega)⟩
                      · have c426_ : v423.toInt ≥ 0 := en_j_lt_f c426
                        refine At.enter rfl ?_
                        refine r_lload_n rfl ?_
                        refine r_lload rfl ?_
                        refine r_lcmp _ rfl ?_
                        refine r_ifs 13 rfl (fun c436 => ?_) (fun c436 => ?_)
                        · have c436_ : v423.toInt > v425.toInt := en_j_gt_t c436
                          refine At.enter rfl ?_
                          refine r_iconst 0 rfl ?_
                          refine Ar.fall 18 rfl ?_
                          refine At.enter rfl ?_
                          refine q_iretz (by decide) ?_
                          refine At.enter rfl ?_
                          refine q_iretz (by decide) ?_
                          refine At.enter rfl ?_
                          refine r_iff 40 rfl (by decide) ?_
                          refine At.enter rfl ?_
                          refine r_aload_n rfl ?_
                          refine r_bipush (-2) rfl ?_
                          refine r_callV 46 rfl [.ref 231, .int (-2)] [] (Nat.le_of_ble_eq_true rfl) rfl (T_X11_tell_231 _ hI305 (-2) (by decide)) ?_
                          rintro _ _ ⟨g437, rfl, hI438, hF439, v440, rfl, hr441⟩
                          refine At.sti ?_
                          have hF442 := Fr.tr hF306 hF439 rfl rfl
                          have zv443 : ((-2) : Int32).toInt = (-2) := rfl
                          refine At.enter rfl ?_
                          refine r_ireti ?_
                          have x444 := HI.eqA hI438 (p := 233) (j := 0) ((((eA_c (hF439.2.1 233 (by decide))).trans (eA_c gA_sI)).trans hv400))
                          have x445 := HI.eqA hI0 (p := 233) (j := 0) (hv400)
                          exact ⟨_, rfl, hI438, hF442, _, rfl, by omega, (by omega)⟩
                        · have c436_ : v423.toInt ≤ v425.toInt := en_j_gt_f c436
                          refine At.enter rfl ?_
                          refine r_iconst 1 rfl ?_
                          refine r_goto ?_
                          refine At.enter rfl ?_
                          refine q_iretz (by decide) ?_
                          refine At.enter rfl ?_
                          refine q_iretz (by decide) ?_
                          refine At.enter rfl ?_
                          refine r_ift (by decide) ?_
                          refine At.enter rfl ?_
                          refine r_aload_n rfl ?_
                          refine q_getR (Sh.ref hI305.1 kx_231 rfl) ?_
                          refine r_iconst 1 rfl ?_
                          obtain ⟨v446, hv446⟩ : ∃ v, eA g0 233 1 = v := ⟨_, rfl⟩
                          have tv446 := congrArg Int32.toInt hv446
                          have wv446 := HI.t1 hI0
                          rw [hv446] at wv446
                          refine q_iald (Sh.arr hI305.1 ka_233) 1 rfl (by decide) v446 ((eA_c (gA_sI)).trans hv446) ?_
                          refine r_bipush 8 rfl ?_
                          refine r_ics 58 rfl (fun c447 => ?_) (fun c447 => ?_)
                          · have c447_ : v446.toInt ≠ 8 := en_i_ne_t c447
                            refine At.enter rfl ?_
                            refine r_aload_n rfl ?_
                            refine r_iload_n rfl ?_
                            refine r_iload_n rfl ?_
                            refine r_iload_n rfl ?_
                            refine r_iload rfl ?_
                            refine r_iload rfl ?_
                            refine r_iload rfl ?_
                            refine q_inlV 78 rfl [.ref 231, .int a1, .int a2, .int a3, .int a4, .int a5, .int a6] [] (Nat.le_of_ble_eq_true rfl) rfl ?_
                            refine Ev.mk rfl rfl ⟨Nat.le_of_ble_eq_true rfl, Or.inr (q_rc hI305.1 kx_231 rfl)⟩ ?_
                            show At _ none _ _ (0, [(0, .ref 231), (1, .int a1), (2, .int a2), (3, .int a3), (4, .int a4), (5, .int a5), (6, .int a6)], [], (_, _)) _
                            refine At.enter rfl ?_
                            refine r_bipush 46 rfl ?_
                            refine r_bipush 6 rfl ?_
                            refine r_aload_n rfl ?_
                            refine q_getR (Sh.ref hI305.1 kx_231 rfl) ?_
                            refine r_iconst 1 rfl ?_
                            refine q_iald (Sh.arr hI305.1 ka_233) 1 rfl (by decide) v446 ((eA_c (gA_sI)).trans hv446) ?_
                            refine q_imul (6 * v446.toInt) rfl (by omega) (fun v448 hv448 => ?_)
                            refine q_iadd (46 + v448.toInt) rfl (by omega) (fun v449 hv449 => ?_)
                            refine r_istore ([(7, .int v449), (0, .ref 231), (1, .int a1), (2, .int a2), (3, .int a3), (4, .int a4), (5, .int a5), (6, .int a6)]) rfl ?_
                            refine r_aload_n rfl ?_
                            refine q_getR (Sh.ref hI305.1 kx_231 rfl) ?_
                            refine r_iload rfl ?_
                            refine r_iload_n rfl ?_
                            refine q_iast (Sh.arr hI305.1 ka_233) ((6 * v446.toInt + 46)) (by omega) (by omega) ?_
                            have hI450 := HI.wl hI305 (j := (6 * v446.toInt + 46)) (v := a1) (v446.toInt) 0 (by omega) (by decide) (by omega) (by omega)
                            have hF451 := Fr.wA (p := 233) (j := (6 * v446.toInt + 46)) (v := a1) hF306 rfl
                            refine r_aload_n rfl ?_
                            refine q_getR (Sh.ref hI450.1 kx_231 rfl) ?_
                            refine r_iload rfl ?_
                            refine r_iconst 1 rfl ?_
                            refine q_iadd (v449.toInt + 1) rfl (by omega) (fun v452 hv452 => ?_)
                            refine r_iload_n rfl ?_
                            refine q_iast (Sh.arr hI450.1 ka_233) ((6 * v446.toInt + 47)) (by omega) (by omega) ?_
                            have x455 := HI.eqA hI450 (p := 233) (j := 0) ((((eA_sA_ne hI305.1 ka_233 (by first | decide | omega) (by first | decide | omega) (by first | decide | omega)).trans (eA_c gA_sI)).trans hv400))
                            have hI453 := HI.wl hI450 (j := (6 * v446.toInt + 47)) (v := a2) (v446.toInt) 1 (by omega) (by decide) (by omega) (by omega)
                            have hF454 := Fr.wA (p := 233) (j := (6 * v446.toInt + 47)) (v := a2) hF451 rfl
                            refine r_aload_n rfl ?_
                            refine q_getR (Sh.ref hI453.1 kx_231 rfl) ?_
                            refine r_iload rfl ?_
                            refine r_iconst 2 rfl ?_
                            refine q_iadd (v449.toInt + 2) rfl (by omega) (fun v456 hv456 => ?_)
                            refine r_iload_n rfl ?_
                            refine q_iast (Sh.arr hI453.1 ka_233) ((6 * v446.toInt + 48)) (by omega) (by omega) ?_
                            have x459 := HI.eqA hI453 (p := 233) (j := 0) ((((eA_sA_ne hI450.1 ka_233 (by first | decide | omega) (by first | decide | omega) (by first | decide | omega)).trans ((eA_sA_ne hI305.1 ka_233 (by first | decide | omega) (by first | decide | omega) (by first | decide | omega)).trans (eA_c gA_sI))).trans hv400))
                            have hI457 := HI.wl hI453 (j := (6 * v446.toInt + 48)) (v := a3) (v446.toInt) 2 (by omega) (by decide) (by omega) (by omega)
                            have hF458 := Fr.wA (p := 233) (j := (6 * v446.toInt + 48)) (v := a3) hF454 rfl
                            refine r_aload_n rfl ?_
                            refine q_getR (Sh.ref hI457.1 kx_231 rfl) ?_
                            refine r_iload rfl ?_
                            refine r_iconst 3 rfl ?_
                            refine q_iadd (v449.toInt + 3) rfl (by omega) (fun v460 hv460 => ?_)
                            refine r_iload rfl ?_
                            refine q_iast (Sh.arr hI457.1 ka_233) ((6 * v446.toInt + 49)) (by omega) (by omega) ?_
                            have hI461 := HI.wl hI457 (j := (6 * v446.toInt + 49)) (v := a4) (v446.toInt) 3 (by omega) (by decide) (by omega) (by omega)
                            have hF462 := Fr.wA (p := 233) (j := (6 * v446.toInt + 49)) (v := a4) hF458 rfl
                            refine r_aload_n rfl ?_
                            refine q_getR (Sh.ref hI461.1 kx_231 rfl) ?_
                            refine r_iload rfl ?_
                            refine r_iconst 4 rfl ?_
                            refine q_iadd (v449.toInt + 4) rfl (by omega) (fun v463 hv463 => ?_)
                            refine r_iload rfl ?_
                            refine q_iast (Sh.arr hI461.1 ka_233) ((6 * v446.toInt + 50)) (by omega) (by omega) ?_
                            have hI464 := HI.wl hI461 (j := (6 * v446.toInt + 50)) (v := a5) (v446.toInt) 4 (by omega) (by decide) (by omega) (by omega)
                            have hF465 := Fr.wA (p := 233) (j := (6 * v446.toInt + 50)) (v := a5) hF462 rfl
                            refine r_aload_n rfl ?_
                            refine q_getR (Sh.ref hI464.1 kx_231 rfl) ?_
                            refine r_iload rfl ?_
                            refine r_iconst 5 rfl ?_
                            refine q_iadd (v449.toInt + 5) rfl (by omega) (fun v466 hv466 => ?_)
                            refine r_iload rfl ?_
                            refine q_iast (Sh.arr hI464.1 ka_233) ((6 * v446.toInt + 51)) (by omega) (by omega) ?_
                            have hI467 := HI.wl hI464 (j := (6 * v446.toInt + 51)) (v := a6) (v446.toInt) 5 (by omega) (by decide) (by omega) (by omega)
                            have hF468 := Fr.wA (p := 233) (j := (6 * v446.toInt + 51)) (v := a6) hF465 rfl
                            refine r_aload_n rfl ?_
                            refine q_getR (Sh.ref hI467.1 kx_231 rfl) ?_
                            refine r_iconst 1 rfl ?_
                            refine r_dup2 ⟨rfl, rfl⟩ ?_
                            refine q_iald (Sh.arr hI467.1 ka_233) 1 rfl (by decide) v446 (((eA_sA_ne hI464.1 ka_233 (by first | decide | omega) (by first | decide | omega) (by first | decide | omega)).trans ((eA_sA_ne hI461.1 ka_233 (by first | decide | omega) (by first | decide | omega) (by first | decide | omega)).trans ((eA_sA_ne hI457.1 ka_233 (by first | decide | omega) (by first | decide | omega) (by first | decide | omega)).trans ((eA_sA_ne hI453.1 ka_233 (by first | decide | omega) (by first | decide | omega) (by first | decide | omega)).trans ((eA_sA_ne hI450.1 ka_233 (by first | decide | omega) (by first | decide | omega) (by first | decide | omega)).trans ((eA_sA_ne hI305.1 ka_233 (by first | decide | omega) (by first | decide | omega) (by first | decide | omega)).trans (eA_c gA_sI))))))).trans hv446) ?_
                            refine r_iconst 1 rfl ?_
                            refine q_iadd (v446.toInt + 1) rfl (by omega) (fun v469 hv469 => ?_)
                            refine q_iast (Sh.arr hI467.1 ka_233) (1) rfl (by decide) ?_
                            have x472 := HI.eqA hI467 (p := 233) (j := 0) ((((eA_sA_ne hI464.1 ka_233 (by first | decide | omega) (by first | decide | omega) (by first | decide | omega)).trans ((eA_sA_ne hI461.1 ka_233 (by first | decide | omega) (by first | decide | omega) (by first | decide | omega)).trans ((eA_sA_ne hI457.1 ka_233 (by first | decide | omega) (by first | decide | omega) (by first | decide | omega)).trans ((eA_sA_ne hI453.1 ka_233 (by first | decide | omega) (by first | decide | omega) (by first | decide | omega)).trans ((eA_sA_ne hI450.1 ka_233 (by first | decide | omega) (by first | decide | omega) (by first | decide | omega)).trans ((eA_sA_ne hI305.1 ka_233 (by first | decide | omega) (by first | decide | omega) (by first | decide | omega)).trans (eA_c gA_sI))))))).trans hv400))
                            have x473 := HI.eqA hI467 (p := 233) (j := 1) ((((eA_sA_ne hI464.1 ka_233 (by first | decide | omega) (by first | decide | omega) (by first | decide | omega)).trans ((eA_sA_ne hI461.1 ka_233 (by first | decide | omega) (by first | decide | omega) (by first | decide | omega)).trans ((eA_sA_ne hI457.1 ka_233 (by first | decide | omega) (by first | decide | omega) (by first | decide | omega)).trans ((eA_sA_ne hI453.1 ka_233 (by first | decide | omega) (by first | decide | omega) (by first | decide | omega)).trans ((eA_sA_ne hI450.1 ka_233 (by first | decide | omega) (by first | decide | omega) (by first | decide | omega)).trans ((eA_sA_ne hI305.1 ka_233 (by first | decide | omega) (by first | decide | omega) (by first | decide | omega)).trans (eA_c gA_sI))))))).trans hv446))
                            have yv474 := HI.lt hI467
                            have hI470 := HI.wt hI467 (j := 1) (v := v469) (by omega) (by omega)
                            have hF471 := Fr.wA (p := 233) (j := 1) (v := v469) hF468 rfl
                            refine q_vret ?_
                            refine At.enter rfl ?_
                            refine r_aload_n rfl ?_
                            refine r_aload_n rfl ?_
                            refine q_getR (Sh.ref hI470.1 kx_231 rfl) ?_
                            refine r_iconst 1 rfl ?_
                            refine q_iald (Sh.arr hI470.1 ka_233) 1 rfl (by decide) v469 (eA_sA_eq hI467.1 ka_233 (by first | rfl | omega) (by first | decide | omega) (by first | decide | omega)) ?_
                            refine r_iconst 1 rfl ?_
                            refine q_isub (v469.toInt - 1) rfl (by omega) (fun v475 hv475 => ?_)
                            refine r_callV 90 rfl [.ref 231, .int v475] [] (Nat.le_of_ble_eq_true rfl) rfl (T_X11_tell_231 _ hI470 v475 (by omega)) ?_
                            rintro _ _ ⟨g476, rfl, hI477, hF478, v479, rfl, hr480⟩
                            refine At.sti ?_
                            have hF481 := Fr.tr hF471 hF478 rfl rfl
                            refine At.enter rfl ?_
                            refine r_ireti ?_
                            have x482 := HI.eqA hI477 (p := 233) (j := 0) ((((eA_c (hF478.2.1 233 (by decide))).trans ((eA_sA_ne hI467.1 ka_233 (by first | decide | omega) (by first | decide | omega) (by first | decide | omega)).trans ((eA_sA_ne hI464.1 ka_233 (by first | decide | omega) (by first | decide | omega) (by first | decide | omega)).trans ((eA_sA_ne hI461.1 ka_233 (by first | decide | omega) (by first | decide | omega) (by first | decide | omega)).trans ((eA_sA_ne hI457.1 ka_233 (by first | decide | omega) (by first | decide | omega) (by first | decide | omega)).trans ((eA_sA_ne hI453.1 ka_233 (by first | decide | omega) (by first | decide | omega) (by first | decide | omega)).trans ((eA_sA_ne hI450.1 ka_233 (by first | decide | omega) (by first | decide | omega) (by first | decide | omega)).trans ((eA_sA_ne hI305.1 ka_233 (by first | decide | omega) (by first | decide | omega) (by first | decide | omega)).trans (eA_c gA_sI))))))))).trans hv400))
                            have x483 := HI.eqA hI0 (p := 233) (j := 0) (hv400)
                            exact ⟨_, rfl, hI477, hF481, _, rfl, by omega, (by omega)⟩
                          · have c447_ : v446.toInt = 8 := en_i_ne_f c447
                            refine At.enter rfl ?_
                            refine r_aload_n rfl ?_
                            refine r_bipush (-5) rfl ?_
                            refine r_callV 64 rfl [.ref 231, .int (-5)] [] (Nat.le_of_ble_eq_true rfl) rfl (T_X11_tell_231 _ hI305 (-5) (by decide)) ?_
                            rintro _ _ ⟨g484, rfl, hI485, hF486, v487, rfl, hr488⟩
                            refine At.sti ?_
                            have hF489 := Fr.tr hF306 hF486 rfl rfl
                            have zv490 : ((-5) : Int32).toInt = (-5) := rfl
                            refine At.enter rfl ?_
                            refine r_ireti ?_
                            have x491 := HI.eqA hI485 (p := 233) (j := 0) ((((eA_c (hF486.2.1 233 (by decide))).trans (eA_c gA_sI)).trans hv400))
                            have x492 := HI.eqA hI0 (p := 233) (j := 0) (hv400)
                            exact ⟨_, rfl, hI485, hF489, _, rfl, by omega, (by omega)⟩

def F_X11_drop_231 : List (Nat × Nat) := [(231, 0), (231, 1)]
def A_X11_drop_231 : List Nat := [232, 233]
set_option maxRecDepth 100000 in
set_option maxHeartbeats 4000000 in
theorem T_X11_drop_231 (d : Nat) {N : Nat} {g0 : List en_E} (hI0 : HI g0) (a1 : Int32) : Ev (d + 3) 180 [.ref 231, .int a1] (g0, N) (fun w h' => ∃ g', h' = (g', N) ∧ HI g' ∧ Fr F_X11_drop_231 A_X11_drop_231 g0 g' ∧ ∃ r : Int32, w = some (.int r) ∧ ((-2) ≤ r.toInt ∧ r.toInt ≤ 7) ∧ ((eA g' 233 0).toInt = (eA g0 233 0).toInt)) := by
  have hF0 : Fr F_X11_drop_231 A_X11_drop_231 g0 g0 := Fr.rf
  refine Ev.mk rfl rfl ⟨Nat.le_of_ble_eq_true rfl, Or.inr (q_rc hI0.1 kx_231 rfl)⟩ ?_
  show At _ none _ _ (0, [(0, .ref 231), (1, .int a1)], [], (_, _)) _
  refine At.enter rfl ?_
  refine r_aload_n rfl ?_
  refine r_iconst 0 rfl ?_
  refine q_putI (Sh.int hI0.1 kx_231 rfl) rfl ?_
  have hI159 := HI.wI0 hI0 kx_231 rfl (p := 231) (b := 0) (v := 0) rfl
  have hF160 := Fr.wI (p := 231) (b := 0) (v := 0) hF0 rfl
  refine r_aload_n rfl ?_
  refine r_iload_n rfl ?_
  refine q_inlV 10 rfl [.ref 231, .int a1] [] (Nat.le_of_ble_eq_true rfl) rfl ?_
  refine Ev.mk rfl rfl ⟨Nat.le_of_ble_eq_true rfl, Or.inr (q_rc hI159.1 kx_231 rfl)⟩ ?_
  show At _ none _ _ (0, [(0, .ref 231), (1, .int a1)], [], (_, _)) _
  refine At.enter rfl ?_
  refine r_iload_n rfl ?_
  refine q_i2l (fun v161 hv161 => ?_)
  refine r_lconst 0 rfl ?_
  refine r_aload_n rfl ?_
  refine q_getR (Sh.ref hI159.1 kx_231 rfl) ?_
  refine r_iconst 1 rfl ?_
  obtain ⟨v162, hv162⟩ : ∃ v, eA g0 233 1 = v := ⟨_, rfl⟩
  have tv162 := congrArg Int32.toInt hv162
  have wv162 := HI.t1 hI0
  rw [hv162] at wv162
  refine q_iald (Sh.arr hI159.1 ka_233) 1 rfl (by decide) v162 ((eA_c (gA_sI)).trans hv162) ?_
  refine q_i2l (fun v163 hv163 => ?_)
  refine r_lconst 1 rfl ?_
  refine q_lsub (v163.toInt - 1) rfl (by omega) (fun v164 hv164 => ?_)
  refine q_inlS 15 rfl [.long v161, .long 0, .long v164] [] (Nat.le_of_ble_eq_true rfl) rfl ?_
  refine Ev.mk rfl rfl ⟨Nat.le_of_ble_eq_true rfl, Or.inl rfl⟩ ?_
  show At _ none _ _ (0, [(0, .long v161), (2, .long 0), (4, .long v164)], [], (_, _)) _
  refine At.enter rfl ?_
  refine r_lload_n rfl ?_
  refine r_lload_n rfl ?_
  refine r_lcmp _ rfl ?_
  refine r_ifs 6 rfl (fun c165 => ?_) (fun c165 => ?_)
  · have c165_ : v161.toInt < 0 := en_j_lt_t c165
    refine At.enter rfl ?_
    refine r_iconst 0 rfl ?_
    refine Ar.fall 18 rfl ?_
    refine At.enter rfl ?_
    refine q_iretz (by decide) ?_
    refine At.enter rfl ?_
    refine q_iretz (by decide) ?_
    refine At.enter rfl ?_
    refine r_iff 13 rfl (by decide) ?_
    refine At.enter rfl ?_
    refine r_aload_n rfl ?_
    refine r_bipush (-2) rfl ?_
    refine r_callV 19 rfl [.ref 231, .int (-2)] [] (Nat.le_of_ble_eq_true rfl) rfl (T_X11_tell_231 _ hI159 (-2) (by decide)) ?_
    rintro _ _ ⟨g166, rfl, hI167, hF168, v169, rfl, hr170⟩
    refine At.sti ?_
    have hF171 := Fr.tr hF160 hF168 rfl rfl
    have zv172 : ((-2) : Int32).toInt = (-2) := rfl
    refine At.enter rfl ?_
    refine r_ireti ?_
    obtain ⟨v173, hv173⟩ : ∃ v, eA g0 233 0 = v := ⟨_, rfl⟩
    have tv173 := congrArg Int32.toInt hv173
    have wv173 := HI.t0 hI0
    rw [hv173] at wv173
    have tv173 := congrArg Int32.toInt hv173
    have x174 := HI.eqA hI167 (p := 233) (j := 0) ((((eA_c (hF168.2.1 233 (by decide))).trans (eA_c gA_sI)).trans hv173))
    have x175 := HI.eqA hI0 (p := 233) (j := 0) (hv173)
    exact ⟨_, rfl, hI167, hF171, _, rfl, by omega, (by omega)⟩
  · have c165_ : v161.toInt ≥ 0 := en_j_lt_f c165
    refine At.enter rfl ?_
    refine r_lload_n rfl ?_
    refine r_lload rfl ?_
    refine r_lcmp _ rfl ?_
    refine r_ifs 13 rfl (fun c176 => ?_) (fun c176 => ?_)
    · have c176_ : v161.toInt > v164.toInt := en_j_gt_t c176
      refine At.enter rfl ?_
      refine r_iconst 0 rfl ?_
      refine Ar.fall 18 rfl ?_
      refine At.enter rfl ?_
      refine q_iretz (by decide) ?_
      refine At.enter rfl ?_
      refine q_iretz (by decide) ?_
      refine At.enter rfl ?_
      refine r_iff 13 rfl (by decide) ?_
      refine At.enter rfl ?_
      refine r_aload_n rfl ?_
      refine r_bipush (-2) rfl ?_
      refine r_callV 19 rfl [.ref 231, .int (-2)] [] (Nat.le_of_ble_eq_true rfl) rfl (T_X11_tell_231 _ hI159 (-2) (by decide)) ?_
      rintro _ _ ⟨g177, rfl, hI178, hF179, v180, rfl, hr181⟩
      refine At.sti ?_
      have hF182 := Fr.tr hF160 hF179 rfl rfl
      have zv183 : ((-2) : Int32).toInt = (-2) := rfl
      refine At.enter rfl ?_
      refine r_ireti ?_
      obtain ⟨v184, hv184⟩ : ∃ v, eA g0 233 0 = v := ⟨_, rfl⟩
      have tv184 := congrArg Int32.toInt hv184
      have wv184 := HI.t0 hI0
      rw [hv184] at wv184
      have tv184 := congrArg Int32.toInt hv184
      have x185 := HI.eqA hI178 (p := 233) (j := 0) ((((eA_c (hF179.2.1 233 (by decide))).trans (eA_c gA_sI)).trans hv184))
      have x186 := HI.eqA hI0 (p := 233) (j := 0) (hv184)
      exact ⟨_, rfl, hI178, hF182, _, rfl, by omega, (by omega)⟩
    · have c176_ : v161.toInt ≤ v164.toInt := en_j_gt_f c176
      refine At.enter rfl ?_
      refine r_iconst 1 rfl ?_
      refine r_goto ?_
      refine At.enter rfl ?_
      refine q_iretz (by decide) ?_
      refine At.enter rfl ?_
      refine q_iretz (by decide) ?_
      refine At.enter rfl ?_
      refine r_ift (by decide) ?_
      refine At.enter rfl ?_
      refine r_bipush 46 rfl ?_
      refine r_bipush 6 rfl ?_
      refine r_iload_n rfl ?_
      refine q_imul (6 * a1.toInt) rfl (by omega) (fun v187 hv187 => ?_)
      refine q_iadd (46 + v187.toInt) rfl (by omega) (fun v188 hv188 => ?_)
      refine r_istore_n ([(2, .int v188), (0, .ref 231), (1, .int a1)]) rfl ?_
      refine Ar.fall 28 rfl ?_
      obtain ⟨v189, hv189⟩ : ∃ v, eA g0 233 0 = v := ⟨_, rfl⟩
      have tv189 := congrArg Int32.toInt hv189
      have wv189 := HI.t0 hI0
      rw [hv189] at wv189
      have tv189 := congrArg Int32.toInt hv189
      refine w_loopI (fun n_ l_ g_ => ∃ x210 : Int32, n_ = 88 - x210.toInt ∧ HI g_ ∧ Fr F_X11_drop_231 A_X11_drop_231 g0 g_ ∧ eA g_ 233 0 = v189 ∧ eA g_ 233 1 = v162 ∧ en_get 0 l_ = some (.ref 231) ∧ en_get 1 l_ = some (.int a1) ∧ en_get 2 l_ = some (.int x210) ∧ (46 ≤ x210.toInt ∧ x210.toInt ≤ 88)) ?_ (88 - v188.toInt) ⟨v188, by first | rfl | omega, hI159, hF160, ((eA_c gA_sI).trans hv189), ((eA_c gA_sI).trans hv162), rfl, rfl, rfl, by omega⟩
      rintro n215 l214 g211 ⟨x210, hm223, hI212, hF213, e217, e218, e219, e220, e221, r222⟩ ih216
      have tv224 := congrArg Int32.toInt e217
      have tv225 := congrArg Int32.toInt e218
      refine At.enter rfl ?_
      refine r_iload_n e221 ?_
      refine r_bipush 88 rfl ?_
      refine r_ics 34 rfl (fun c226 => ?_) (fun c226 => ?_)
      · have c226_ : x210.toInt ≥ 88 := en_i_ge_t c226
        refine At.enter rfl ?_
        refine r_aload_n e219 ?_
        refine q_getR (Sh.ref hI212.1 kx_231 rfl) ?_
        refine r_iconst 1 rfl ?_
        refine r_dup2 ⟨rfl, rfl⟩ ?_
        refine q_iald (Sh.arr hI212.1 ka_233) 1 rfl (by decide) v162 e218 ?_
        refine r_iconst 1 rfl ?_
        refine q_isub (v162.toInt - 1) rfl (by omega) (fun v227 hv227 => ?_)
        refine q_iast (Sh.arr hI212.1 ka_233) (1) rfl (by decide) ?_
        have x230 := HI.eqA hI212 (p := 233) (j := 0) (e217)
        have x231 := HI.eqA hI212 (p := 233) (j := 1) (e218)
        have yv232 := HI.lt hI212
        have hI228 := HI.wt hI212 (j := 1) (v := v227) (by omega) (by omega)
        have hF229 := Fr.wA (p := 233) (j := 1) (v := v227) hF213 rfl
        refine r_aload_n e219 ?_
        refine r_aload_n e219 ?_
        refine q_getR (Sh.ref hI228.1 kx_231 rfl) ?_
        refine r_iconst 1 rfl ?_
        refine q_iald (Sh.arr hI228.1 ka_233) 1 rfl (by decide) v227 (eA_sA_eq hI212.1 ka_233 (by first | rfl | omega) (by first | decide | omega) (by first | decide | omega)) ?_
        refine r_callV 75 rfl [.ref 231, .int v227] [] (Nat.le_of_ble_eq_true rfl) rfl (T_X11_tell_231 _ hI228 v227 (by omega)) ?_
        rintro _ _ ⟨g233, rfl, hI234, hF235, v236, rfl, hr237⟩
        refine At.sti ?_
        have hF238 := Fr.tr hF229 hF235 rfl rfl
        refine At.enter rfl ?_
        refine r_ireti ?_
        have x239 := HI.eqA hI234 (p := 233) (j := 0) ((((eA_c (hF235.2.1 233 (by decide))).trans (eA_sA_ne hI212.1 ka_233 (by first | decide | omega) (by first | decide | omega) (by first | decide | omega))).trans e217))
        have x240 := HI.eqA hI0 (p := 233) (j := 0) (hv189)
        exact ⟨_, rfl, hI234, hF238, _, rfl, by omega, (by omega)⟩
      · have c226_ : x210.toInt < 88 := en_i_ge_f c226
        refine At.enter rfl ?_
        refine r_aload_n e219 ?_
        refine q_getR (Sh.ref hI212.1 kx_231 rfl) ?_
        refine r_iload_n e221 ?_
        refine r_aload_n e219 ?_
        refine q_getR (Sh.ref hI212.1 kx_231 rfl) ?_
        refine r_iload_n e221 ?_
        refine r_bipush 6 rfl ?_
        refine q_iadd (x210.toInt + 6) rfl (by omega) (fun v241 hv241 => ?_)
        obtain ⟨v242, hv242⟩ : ∃ v, eA g211 233 (x210.toInt + 6) = v := ⟨_, rfl⟩
        refine q_iald (Sh.arr hI212.1 ka_233) (x210.toInt + 6) (by omega) (by omega) v242 hv242 ?_
        refine q_iast (Sh.arr hI212.1 ka_233) (x210.toInt) rfl (by omega) ?_
        have hI243 := HI.wcp hI212 (k := x210.toInt) (by omega) (by omega) hv242
        have hF244 := Fr.wA (p := 233) (j := x210.toInt) (v := v242) hF213 rfl
        refine q_iinc e221 (x210.toInt + 1) rfl (by omega) (fun v245 hv245 => ?_)
        refine r_goto ?_
        exact ih216 (88 - v245.toInt) _ _ ⟨v245, by first | rfl | omega, hI243, hF244, ((eA_sA_ne hI212.1 ka_233 (by first | decide | omega) (by first | decide | omega) (by first | decide | omega)).trans e217), ((eA_sA_ne hI212.1 ka_233 (by first | decide | omega) (by first | decide | omega) (by first | decide | omega)).trans e218), (w_p1 (by decide) (Or.inr rfl) e219), (w_p1 (by decide) (Or.inr rfl) e220), (w_e1 _ _ _), by omega⟩ ⟨by omega, by omega⟩

def F_X11_terms_231 : List (Nat × Nat) := [(231, 0), (231, 1)]
def A_X11_terms_231 : List Nat := [232, 233]
set_option maxRecDepth 100000 in
set_option maxHeartbeats 4000000 in
theorem T_X11_terms_231 (d : Nat) {N : Nat} {g0 : List en_E} (hI0 : HI g0) (a1 : Int32) (a2 : Int32) : Ev (d + 3) 181 [.ref 231, .int a1, .int a2] (g0, N) (fun w h' => ∃ g', h' = (g', N) ∧ HI g' ∧ Fr F_X11_terms_231 A_X11_terms_231 g0 g' ∧ ∃ r : Int32, w = some (.int r) ∧ ((-1) ≤ r.toInt ∧ r.toInt ≤ 99) ∧ ((eA g' 233 0).toInt = (eA g0 233 0).toInt)) := by
  have hF0 : Fr F_X11_terms_231 A_X11_terms_231 g0 g0 := Fr.rf
  refine Ev.mk rfl rfl ⟨Nat.le_of_ble_eq_true rfl, Or.inr (q_rc hI0.1 kx_231 rfl)⟩ ?_
  show At _ none _ _ (0, [(0, .ref 231), (1, .int a1), (2, .int a2)], [], (_, _)) _
  refine At.enter rfl ?_
  refine r_aload_n rfl ?_
  refine r_iconst 0 rfl ?_
  refine q_putI (Sh.int hI0.1 kx_231 rfl) rfl ?_
  have hI115 := HI.wI0 hI0 kx_231 rfl (p := 231) (b := 0) (v := 0) rfl
  have hF116 := Fr.wI (p := 231) (b := 0) (v := 0) hF0 rfl
  refine r_iload_n rfl ?_
  refine r_ifs 9 rfl (fun c117 => ?_) (fun c117 => ?_)
  · have c117_ : a1.toInt ≠ 0 := en_k_ne_t c117
    refine At.enter rfl ?_
    refine r_iload_n rfl ?_
    refine r_iconst 1 rfl ?_
    refine r_ics 26 rfl (fun c118 => ?_) (fun c118 => ?_)
    · have c118_ : a1.toInt ≠ 1 := en_i_ne_t c118
      refine At.enter rfl ?_
      refine r_iconst 0 rfl ?_
      refine Ar.fall 43 rfl ?_
      refine At.enter rfl ?_
      refine r_istore_n ([(3, .int 0), (0, .ref 231), (1, .int a1), (2, .int a2)]) rfl ?_
      refine r_iload_n rfl ?_
      refine r_ift (by decide) ?_
      refine At.enter rfl ?_
      refine r_aload_n rfl ?_
      refine r_iconst (-1) rfl ?_
      refine r_callV 64 rfl [.ref 231, .int (-1)] [] (Nat.le_of_ble_eq_true rfl) rfl (T_X11_tell_231 _ hI115 (-1) (by decide)) ?_
      rintro _ _ ⟨g119, rfl, hI120, hF121, v122, rfl, hr123⟩
      refine At.sti ?_
      have hF124 := Fr.tr hF116 hF121 rfl rfl
      have zv125 : ((-1) : Int32).toInt = (-1) := rfl
      refine At.enter rfl ?_
      refine r_ireti ?_
      obtain ⟨v126, hv126⟩ : ∃ v, eA g0 233 0 = v := ⟨_, rfl⟩
      have tv126 := congrArg Int32.toInt hv126
      have wv126 := HI.t0 hI0
      rw [hv126] at wv126
      have tv126 := congrArg Int32.toInt hv126
      have x127 := HI.eqA hI120 (p := 233) (j := 0) ((((eA_c (hF121.2.1 233 (by decide))).trans (eA_c gA_sI)).trans hv126))
      have x128 := HI.eqA hI0 (p := 233) (j := 0) (hv126)
      exact ⟨_, rfl, hI120, hF124, _, rfl, by omega, (by omega)⟩
    · have c118_ : a1.toInt = 1 := en_i_ne_f c118
      refine At.enter rfl ?_
      refine r_iload_n rfl ?_
      refine q_i2l (fun v129 hv129 => ?_)
      refine r_lconst 1 rfl ?_
      refine r_ldc2 4 rfl ?_
      refine q_inlS 35 rfl [.long v129, .long 1, .long 4] [] (Nat.le_of_ble_eq_true rfl) rfl ?_
      refine Ev.mk rfl rfl ⟨Nat.le_of_ble_eq_true rfl, Or.inl rfl⟩ ?_
      show At _ none _ _ (0, [(0, .long v129), (2, .long 1), (4, .long 4)], [], (_, _)) _
      refine At.enter rfl ?_
      refine r_lload_n rfl ?_
      refine r_lload_n rfl ?_
      refine r_lcmp _ rfl ?_
      refine r_ifs 6 rfl (fun c130 => ?_) (fun c130 => ?_)
      · have c130_ : v129.toInt < 1 := en_j_lt_t c130
        refine At.enter rfl ?_
        refine r_iconst 0 rfl ?_
        refine Ar.fall 18 rfl ?_
        refine At.enter rfl ?_
        refine q_iretz (by decide) ?_
        refine At.enter rfl ?_
        refine r_ift (by decide) ?_
        refine At.enter rfl ?_
        refine r_iconst 0 rfl ?_
        refine Ar.fall 43 rfl ?_
        refine At.enter rfl ?_
        refine r_istore_n ([(3, .int 0), (0, .ref 231), (1, .int a1), (2, .int a2)]) rfl ?_
        refine r_iload_n rfl ?_
        refine r_ift (by decide) ?_
        refine At.enter rfl ?_
        refine r_aload_n rfl ?_
        refine r_iconst (-1) rfl ?_
        refine r_callV 64 rfl [.ref 231, .int (-1)] [] (Nat.le_of_ble_eq_true rfl) rfl (T_X11_tell_231 _ hI115 (-1) (by decide)) ?_
        rintro _ _ ⟨g131, rfl, hI132, hF133, v134, rfl, hr135⟩
        refine At.sti ?_
        have hF136 := Fr.tr hF116 hF133 rfl rfl
        have zv137 : ((-1) : Int32).toInt = (-1) := rfl
        refine At.enter rfl ?_
        refine r_ireti ?_
        obtain ⟨v138, hv138⟩ : ∃ v, eA g0 233 0 = v := ⟨_, rfl⟩
        have tv138 := congrArg Int32.toInt hv138
        have wv138 := HI.t0 hI0
        rw [hv138] at wv138
        have tv138 := congrArg Int32.toInt hv138
        have x139 := HI.eqA hI132 (p := 233) (j := 0) ((((eA_c (hF133.2.1 233 (by decide))).trans (eA_c gA_sI)).trans hv138))
        have x140 := HI.eqA hI0 (p := 233) (j := 0) (hv138)
        exact ⟨_, rfl, hI132, hF136, _, rfl, by omega, (by omega)⟩
      · have c130_ : v129.toInt ≥ 1 := en_j_lt_f c130
        refine At.enter rfl ?_
        refine r_lload_n rfl ?_
        refine r_lload rfl ?_
        refine r_lcmp _ rfl ?_
        refine r_ifs 13 rfl (fun c141 => ?_) (fun c141 => ?_)
        · have c141_ : v129.toInt > 4 := en_j_gt_t c141
          refine At.enter rfl ?_
          refine r_iconst 0 rfl ?_
          refine Ar.fall 18 rfl ?_
          refine At.enter rfl ?_
          refine q_iretz (by decide) ?_
          refine At.enter rfl ?_
          refine r_ift (by decide) ?_
          refine At.enter rfl ?_
          refine r_iconst 0 rfl ?_
          refine Ar.fall 43 rfl ?_
          refine At.enter rfl ?_
          refine r_istore_n ([(3, .int 0), (0, .ref 231), (1, .int a1), (2, .int a2)]) rfl ?_
          refine r_iload_n rfl ?_
          refine r_ift (by decide) ?_
          refine At.enter rfl ?_
          refine r_aload_n rfl ?_
          refine r_iconst (-1) rfl ?_
          refine r_callV 64 rfl [.ref 231, .int (-1)] [] (Nat.le_of_ble_eq_true rfl) rfl (T_X11_tell_231 _ hI115 (-1) (by decide)) ?_
          rintro _ _ ⟨g142, rfl, hI143, hF144, v145, rfl, hr146⟩
          refine At.sti ?_
          have hF147 := Fr.tr hF116 hF144 rfl rfl
          have zv148 : ((-1) : Int32).toInt = (-1) := rfl
          refine At.enter rfl ?_
          refine r_ireti ?_
          obtain ⟨v149, hv149⟩ : ∃ v, eA g0 233 0 = v := ⟨_, rfl⟩
          have tv149 := congrArg Int32.toInt hv149
          have wv149 := HI.t0 hI0
          rw [hv149] at wv149
          have tv149 := congrArg Int32.toInt hv149
          have x150 := HI.eqA hI143 (p := 233) (j := 0) ((((eA_c (hF144.2.1 233 (by decide))).trans (eA_c gA_sI)).trans hv149))
          have x151 := HI.eqA hI0 (p := 233) (j := 0) (hv149)
          exact ⟨_, rfl, hI143, hF147, _, rfl, by omega, (by omega)⟩
        · have c141_ : v129.toInt ≤ 4 := en_j_gt_f c141
          refine At.enter rfl ?_
          refine r_iconst 1 rfl ?_
          refine r_goto ?_
          refine At.enter rfl ?_
          refine q_iretz (by decide) ?_
          refine At.enter rfl ?_
          refine r_iff 38 rfl (by decide) ?_
          refine At.enter rfl ?_
          refine r_iconst 1 rfl ?_
          refine r_goto ?_
          refine At.enter rfl ?_
          refine r_istore_n ([(3, .int 1), (0, .ref 231), (1, .int a1), (2, .int a2)]) rfl ?_
          refine r_iload_n rfl ?_
          refine r_iff 48 rfl (by decide) ?_
          refine At.enter rfl ?_
          refine r_aload_n rfl ?_
          refine r_iconst 5 rfl ?_
          refine r_iload_n rfl ?_
          refine q_iadd (5 + a1.toInt) rfl (by omega) (fun v152 hv152 => ?_)
          refine r_iload_n rfl ?_
          refine q_inlV 56 rfl [.ref 231, .int v152, .int a2] [] (Nat.le_of_ble_eq_true rfl) rfl ?_
          refine Ev.mk rfl rfl ⟨Nat.le_of_ble_eq_true rfl, Or.inr (q_rc hI115.1 kx_231 rfl)⟩ ?_
          show At _ none _ _ (0, [(0, .ref 231), (1, .int v152), (2, .int a2)], [], (_, _)) _
          refine At.enter rfl ?_
          refine r_aload_n rfl ?_
          refine q_getR (Sh.ref hI115.1 kx_231 rfl) ?_
          refine r_iload_n rfl ?_
          obtain ⟨v153, hv153⟩ : ∃ v, eA g0 233 (a1.toInt + 5) = v := ⟨_, rfl⟩
          have wv153 : 1 ≤ v153.toInt ∧ v153.toInt ≤ 4 := by have z := HI.t6 hI0; rw [← hv153, show (a1.toInt + 5) = 6 by omega]; exact z
          refine q_iald (Sh.arr hI115.1 ka_233) (a1.toInt + 5) (by omega) (by omega) v153 ((eA_c (gA_sI)).trans hv153) ?_
          refine r_istore_n ([(3, .int v153), (0, .ref 231), (1, .int v152), (2, .int a2)]) rfl ?_
          refine r_aload_n rfl ?_
          refine q_getR (Sh.ref hI115.1 kx_231 rfl) ?_
          refine r_iload_n rfl ?_
          refine r_iload_n rfl ?_
          refine q_iast (Sh.arr hI115.1 ka_233) ((a1.toInt + 5)) (by omega) (by omega) ?_
          have hI154 := HI.wt hI115 (j := (a1.toInt + 5)) (v := a2) (by omega) (by omega)
          have hF155 := Fr.wA (p := 233) (j := (a1.toInt + 5)) (v := a2) hF116 rfl
          refine r_aload_n rfl ?_
          refine r_iload_n rfl ?_
          refine q_inlV 19 rfl [.ref 231, .int v153] [] (Nat.le_of_ble_eq_true rfl) rfl ?_
          refine Ev.mk rfl rfl ⟨Nat.le_of_ble_eq_true rfl, Or.inr (q_rc hI154.1 kx_231 rfl)⟩ ?_
          show At _ none _ _ (0, [(0, .ref 231), (1, .int v153)], [], (_, _)) _
          refine At.enter rfl ?_
          refine r_aload_n rfl ?_
          refine r_iconst 0 rfl ?_
          refine q_putI (Sh.int hI154.1 kx_231 rfl) rfl ?_
          have hI156 := HI.wI0 hI154 kx_231 rfl (p := 231) (b := 1) (v := 0) rfl
          have hF157 := Fr.wI (p := 231) (b := 1) (v := 0) hF155 rfl
          refine r_iload_n rfl ?_
          refine q_ireti ?_
          refine At.enter rfl ?_
          refine q_ireti ?_
          refine At.enter rfl ?_
          refine r_goto ?_
          refine At.enter rfl ?_
          refine r_ireti ?_
          obtain ⟨v158, hv158⟩ : ∃ v, eA g0 233 0 = v := ⟨_, rfl⟩
          have tv158 := congrArg Int32.toInt hv158
          have wv158 := HI.t0 hI0
          rw [hv158] at wv158
          have tv158 := congrArg Int32.toInt hv158
          have x159 := HI.eqA hI156 (p := 233) (j := 0) ((((eA_c gA_sI).trans ((eA_sA_ne hI115.1 ka_233 (by first | decide | omega) (by first | decide | omega) (by first | decide | omega)).trans (eA_c gA_sI))).trans hv158))
          have x160 := HI.eqA hI0 (p := 233) (j := 0) (hv158)
          exact ⟨_, rfl, hI156, hF157, _, rfl, by omega, (by omega)⟩
  · have c117_ : a1.toInt = 0 := en_k_ne_f c117
    refine At.enter rfl ?_
    refine r_iload_n rfl ?_
    refine q_i2l (fun v161 hv161 => ?_)
    refine r_lconst 0 rfl ?_
    refine r_ldc2 99 rfl ?_
    refine q_inlS 18 rfl [.long v161, .long 0, .long 99] [] (Nat.le_of_ble_eq_true rfl) rfl ?_
    refine Ev.mk rfl rfl ⟨Nat.le_of_ble_eq_true rfl, Or.inl rfl⟩ ?_
    show At _ none _ _ (0, [(0, .long v161), (2, .long 0), (4, .long 99)], [], (_, _)) _
    refine At.enter rfl ?_
    refine r_lload_n rfl ?_
    refine r_lload_n rfl ?_
    refine r_lcmp _ rfl ?_
    refine r_ifs 6 rfl (fun c162 => ?_) (fun c162 => ?_)
    · have c162_ : v161.toInt < 0 := en_j_lt_t c162
      refine At.enter rfl ?_
      refine r_iconst 0 rfl ?_
      refine Ar.fall 18 rfl ?_
      refine At.enter rfl ?_
      refine q_iretz (by decide) ?_
      refine At.enter rfl ?_
      refine r_goto ?_
      refine At.enter rfl ?_
      refine r_istore_n ([(3, .int 0), (0, .ref 231), (1, .int a1), (2, .int a2)]) rfl ?_
      refine r_iload_n rfl ?_
      refine r_ift (by decide) ?_
      refine At.enter rfl ?_
      refine r_aload_n rfl ?_
      refine r_iconst (-1) rfl ?_
      refine r_callV 64 rfl [.ref 231, .int (-1)] [] (Nat.le_of_ble_eq_true rfl) rfl (T_X11_tell_231 _ hI115 (-1) (by decide)) ?_
      rintro _ _ ⟨g163, rfl, hI164, hF165, v166, rfl, hr167⟩
      refine At.sti ?_
      have hF168 := Fr.tr hF116 hF165 rfl rfl
      have zv169 : ((-1) : Int32).toInt = (-1) := rfl
      refine At.enter rfl ?_
      refine r_ireti ?_
      obtain ⟨v170, hv170⟩ : ∃ v, eA g0 233 0 = v := ⟨_, rfl⟩
      have tv170 := congrArg Int32.toInt hv170
      have wv170 := HI.t0 hI0
      rw [hv170] at wv170
      have tv170 := congrArg Int32.toInt hv170
      have x171 := HI.eqA hI164 (p := 233) (j := 0) ((((eA_c (hF165.2.1 233 (by decide))).trans (eA_c gA_sI)).trans hv170))
      have x172 := HI.eqA hI0 (p := 233) (j := 0) (hv170)
      exact ⟨_, rfl, hI164, hF168, _, rfl, by omega, (by omega)⟩
    · have c162_ : v161.toInt ≥ 0 := en_j_lt_f c162
      refine At.enter rfl ?_
      refine r_lload_n rfl ?_
      refine r_lload rfl ?_
      refine r_lcmp _ rfl ?_
      refine r_ifs 13 rfl (fun c173 => ?_) (fun c173 => ?_)
      · have c173_ : v161.toInt > 99 := en_j_gt_t c173
        refine At.enter rfl ?_
        refine r_iconst 0 rfl ?_
        refine Ar.fall 18 rfl ?_
        refine At.enter rfl ?_
        refine q_iretz (by decide) ?_
        refine At.enter rfl ?_
        refine r_goto ?_
        refine At.enter rfl ?_
        refine r_istore_n ([(3, .int 0), (0, .ref 231), (1, .int a1), (2, .int a2)]) rfl ?_
        refine r_iload_n rfl ?_
        refine r_ift (by decide) ?_
        refine At.enter rfl ?_
        refine r_aload_n rfl ?_
        refine r_iconst (-1) rfl ?_
        refine r_callV 64 rfl [.ref 231, .int (-1)] [] (Nat.le_of_ble_eq_true rfl) rfl (T_X11_tell_231 _ hI115 (-1) (by decide)) ?_
        rintro _ _ ⟨g174, rfl, hI175, hF176, v177, rfl, hr178⟩
        refine At.sti ?_
        have hF179 := Fr.tr hF116 hF176 rfl rfl
        have zv180 : ((-1) : Int32).toInt = (-1) := rfl
        refine At.enter rfl ?_
        refine r_ireti ?_
        obtain ⟨v181, hv181⟩ : ∃ v, eA g0 233 0 = v := ⟨_, rfl⟩
        have tv181 := congrArg Int32.toInt hv181
        have wv181 := HI.t0 hI0
        rw [hv181] at wv181
        have tv181 := congrArg Int32.toInt hv181
        have x182 := HI.eqA hI175 (p := 233) (j := 0) ((((eA_c (hF176.2.1 233 (by decide))).trans (eA_c gA_sI)).trans hv181))
        have x183 := HI.eqA hI0 (p := 233) (j := 0) (hv181)
        exact ⟨_, rfl, hI175, hF179, _, rfl, by omega, (by omega)⟩
      · have c173_ : v161.toInt ≤ 99 := en_j_gt_f c173
        refine At.enter rfl ?_
        refine r_iconst 1 rfl ?_
        refine r_goto ?_
        refine At.enter rfl ?_
        refine q_iretz (by decide) ?_
        refine At.enter rfl ?_
        refine r_goto ?_
        refine At.enter rfl ?_
        refine r_istore_n ([(3, .int 1), (0, .ref 231), (1, .int a1), (2, .int a2)]) rfl ?_
        refine r_iload_n rfl ?_
        refine r_iff 48 rfl (by decide) ?_
        refine At.enter rfl ?_
        refine r_aload_n rfl ?_
        refine r_iconst 5 rfl ?_
        refine r_iload_n rfl ?_
        refine q_iadd (5 + a1.toInt) rfl (by omega) (fun v184 hv184 => ?_)
        refine r_iload_n rfl ?_
        refine q_inlV 56 rfl [.ref 231, .int v184, .int a2] [] (Nat.le_of_ble_eq_true rfl) rfl ?_
        refine Ev.mk rfl rfl ⟨Nat.le_of_ble_eq_true rfl, Or.inr (q_rc hI115.1 kx_231 rfl)⟩ ?_
        show At _ none _ _ (0, [(0, .ref 231), (1, .int v184), (2, .int a2)], [], (_, _)) _
        refine At.enter rfl ?_
        refine r_aload_n rfl ?_
        refine q_getR (Sh.ref hI115.1 kx_231 rfl) ?_
        refine r_iload_n rfl ?_
        obtain ⟨v185, hv185⟩ : ∃ v, eA g0 233 (a1.toInt + 5) = v := ⟨_, rfl⟩
        have wv185 : 0 ≤ v185.toInt ∧ v185.toInt ≤ 99 := by have z := HI.t5 hI0; rw [← hv185, show (a1.toInt + 5) = 5 by omega]; exact z
        refine q_iald (Sh.arr hI115.1 ka_233) (a1.toInt + 5) (by omega) (by omega) v185 ((eA_c (gA_sI)).trans hv185) ?_
        refine r_istore_n ([(3, .int v185), (0, .ref 231), (1, .int v184), (2, .int a2)]) rfl ?_
        refine r_aload_n rfl ?_
        refine q_getR (Sh.ref hI115.1 kx_231 rfl) ?_
        refine r_iload_n rfl ?_
        refine r_iload_n rfl ?_
        refine q_iast (Sh.arr hI115.1 ka_233) ((a1.toInt + 5)) (by omega) (by omega) ?_
        have hI186 := HI.wt hI115 (j := (a1.toInt + 5)) (v := a2) (by omega) (by omega)
        have hF187 := Fr.wA (p := 233) (j := (a1.toInt + 5)) (v := a2) hF116 rfl
        refine r_aload_n rfl ?_
        refine r_iload_n rfl ?_
        refine q_inlV 19 rfl [.ref 231, .int v185] [] (Nat.le_of_ble_eq_true rfl) rfl ?_
        refine Ev.mk rfl rfl ⟨Nat.le_of_ble_eq_true rfl, Or.inr (q_rc hI186.1 kx_231 rfl)⟩ ?_
        show At _ none _ _ (0, [(0, .ref 231), (1, .int v185)], [], (_, _)) _
        refine At.enter rfl ?_
        refine r_aload_n rfl ?_
        refine r_iconst 0 rfl ?_
        refine q_putI (Sh.int hI186.1 kx_231 rfl) rfl ?_
        have hI188 := HI.wI0 hI186 kx_231 rfl (p := 231) (b := 1) (v := 0) rfl
        have hF189 := Fr.wI (p := 231) (b := 1) (v := 0) hF187 rfl
        refine r_iload_n rfl ?_
        refine q_ireti ?_
        refine At.enter rfl ?_
        refine q_ireti ?_
        refine At.enter rfl ?_
        refine r_goto ?_
        refine At.enter rfl ?_
        refine r_ireti ?_
        obtain ⟨v190, hv190⟩ : ∃ v, eA g0 233 0 = v := ⟨_, rfl⟩
        have tv190 := congrArg Int32.toInt hv190
        have wv190 := HI.t0 hI0
        rw [hv190] at wv190
        have tv190 := congrArg Int32.toInt hv190
        have x191 := HI.eqA hI188 (p := 233) (j := 0) ((((eA_c gA_sI).trans ((eA_sA_ne hI115.1 ka_233 (by first | decide | omega) (by first | decide | omega) (by first | decide | omega)).trans (eA_c gA_sI))).trans hv190))
        have x192 := HI.eqA hI0 (p := 233) (j := 0) (hv190)
        exact ⟨_, rfl, hI188, hF189, _, rfl, by omega, (by omega)⟩

def F_X11_four_231 : List (Nat × Nat) := [(231, 8)]
def A_X11_four_231 : List Nat := [236]
set_option maxRecDepth 100000 in
set_option maxHeartbeats 4000000 in
theorem T_X11_four_231 (d : Nat) {N : Nat} {g0 : List en_E} (hI0 : HI g0) (a1 : Int32) (h4 : (gI g0 231 8).toInt ≤ 396) : Ev (d + 1) 184 [.ref 231, .int a1] (g0, N) (fun w h' => ∃ g', h' = (g', N) ∧ HI g' ∧ Fr F_X11_four_231 A_X11_four_231 g0 g' ∧ w = none ∧ ((gI g' 231 8).toInt = (gI g0 231 8).toInt + 4)) := by
  have hF0 : Fr F_X11_four_231 A_X11_four_231 g0 g0 := Fr.rf
  refine Ev.mk rfl rfl ⟨Nat.le_of_ble_eq_true rfl, Or.inr (q_rc hI0.1 kx_231 rfl)⟩ ?_
  show At _ none _ _ (0, [(0, .ref 231), (1, .int a1)], [], (_, _)) _
  refine At.enter rfl ?_
  refine r_bipush 24 rfl ?_
  refine r_istore_n ([(2, .int 24), (0, .ref 231), (1, .int a1)]) rfl ?_
  refine Ar.fall 3 rfl ?_
  obtain ⟨v271, hv271⟩ : ∃ v, gI g0 231 8 = v := ⟨_, rfl⟩
  have rv271 := RgF.at hI0.2.1 (p := 231) (b := 8) rfl
  rw [hv271] at rv271
  dsimp only at rv271
  have tv271 := congrArg Int32.toInt hv271
  have z_395 : (24 : Int32).toInt = 24 := rfl
  refine w_loopI (fun n_ l_ g_ => ∃ x380 : Int32, ∃ x381 : Int32, n_ = x380.toInt + 8 ∧ HI g_ ∧ Fr F_X11_four_231 A_X11_four_231 g0 g_ ∧ gI g_ 231 8 = x381 ∧ en_get 0 l_ = some (.ref 231) ∧ en_get 1 l_ = some (.int a1) ∧ en_get 2 l_ = some (.int x380) ∧ ((-8) ≤ x380.toInt ∧ x380.toInt ≤ 24) ∧ (0 ≤ x381.toInt ∧ x381.toInt ≤ 400) ∧ (8 * x381.toInt + x380.toInt = 8 * (gI g0 231 8).toInt + 24)) ?_ (24 + 8) ⟨24, v271, by first | rfl | omega, hI0, hF0, hv271, rfl, rfl, rfl, by decide, by omega, by omega⟩
  rintro n386 l385 g382 ⟨x380, x381, hm396, hI383, hF384, e388, e389, e390, e391, r392, r393, q394⟩ ih387
  refine At.enter rfl ?_
  refine r_iload_n e391 ?_
  refine r_ifs 7 rfl (fun c397 => ?_) (fun c397 => ?_)
  · have c397_ : x380.toInt < 0 := en_k_lt_t c397
    refine At.enter rfl ?_
    refine r_vret ?_
    exact ⟨_, rfl, hI383, hF384, rfl, (by rw [e388]; omega)⟩
  · have c397_ : x380.toInt ≥ 0 := en_k_lt_f c397
    refine At.enter rfl ?_
    refine r_aload_n e389 ?_
    refine q_getR (Sh.ref hI383.1 kx_231 rfl) ?_
    refine r_aload_n e389 ?_
    refine q_getI (Sh.int hI383.1 kx_231 rfl) x381 e388 ?_
    refine r_iload_n e390 ?_
    refine r_iload_n e391 ?_
    refine q_ishrO (fun v398 hv398 => ?_)
    refine r_sipush 255 rfl ?_
    refine q_iandO (fun v399 hv399 => ?_)
    refine q_iast (Sh.arr hI383.1 ka_236) (x381.toInt) rfl (by omega) ?_
    have hI400 := HI.wA0 hI383 ka_236 (p := 236) rfl rfl (x381.toInt) (v399)
    have hF401 := Fr.wA (p := 236) (j := x381.toInt) (v := v399) hF384 rfl
    refine r_aload_n e389 ?_
    refine r_dup rfl ?_
    refine q_getI (Sh.int hI400.1 kx_231 rfl) x381 ((gI_sW).trans e388) ?_
    refine r_iconst 1 rfl ?_
    refine q_iadd (x381.toInt + 1) rfl (by omega) (fun v402 hv402 => ?_)
    refine q_putI (Sh.int hI400.1 kx_231 rfl) rfl ?_
    have hI403 := HI.wI1 hI400 kx_231 rfl (p := 231) (b := 8) (v := v402) rfl (by dsimp only; omega)
    have hF404 := Fr.wI (p := 231) (b := 8) (v := v402) hF401 rfl
    refine q_iinc e391 (x380.toInt + (-8)) rfl (by omega) (fun v405 hv405 => ?_)
    refine r_goto ?_
    exact ih387 (v405.toInt + 8) _ _ ⟨v405, v402, by first | rfl | omega, hI403, hF404, (gI_sI_eq hI400.1 kx_231 rfl _), (w_p1 (by decide) (Or.inr rfl) e389), (w_p1 (by decide) (Or.inr rfl) e390), (w_e1 _ _ _), by omega, by omega, by omega⟩ ⟨by omega, by omega⟩

def F_X11_feed_231 : List (Nat × Nat) := [(231, 0), (231, 8)]
def A_X11_feed_231 : List Nat := [236]
set_option maxRecDepth 100000 in
set_option maxHeartbeats 4000000 in
theorem T_X11_feed_231 (d : Nat) {N : Nat} {g0 : List en_E} (hI0 : HI g0) (a1 : Int32) (a2 : Int32) (a3 : Int32) (a4 : Int32) (a5 : Int32) : Ev (d + 2) 185 [.ref 231, .int a1, .int a2, .int a3, .int a4, .int a5] (g0, N) (fun w h' => ∃ g', h' = (g', N) ∧ HI g' ∧ Fr F_X11_feed_231 A_X11_feed_231 g0 g' ∧ ∃ r : Int32, w = some (.int r) ∧ ((-1) ≤ r.toInt ∧ r.toInt ≤ 400)) := by
  have hF0 : Fr F_X11_feed_231 A_X11_feed_231 g0 g0 := Fr.rf
  refine Ev.mk rfl rfl ⟨Nat.le_of_ble_eq_true rfl, Or.inr (q_rc hI0.1 kx_231 rfl)⟩ ?_
  show At _ none _ _ (0, [(0, .ref 231), (1, .int a1), (2, .int a2), (3, .int a3), (4, .int a4), (5, .int a5)], [], (_, _)) _
  refine At.enter rfl ?_
  refine r_aload_n rfl ?_
  refine r_iconst 0 rfl ?_
  refine q_putI (Sh.int hI0.1 kx_231 rfl) rfl ?_
  have hI81 := HI.wI0 hI0 kx_231 rfl (p := 231) (b := 0) (v := 0) rfl
  have hF82 := Fr.wI (p := 231) (b := 0) (v := 0) hF0 rfl
  refine r_aload_n rfl ?_
  obtain ⟨v83, hv83⟩ : ∃ v, gI g0 231 8 = v := ⟨_, rfl⟩
  have rv83 := RgF.at hI0.2.1 (p := 231) (b := 8) rfl
  rw [hv83] at rv83
  dsimp only at rv83
  refine q_getI (Sh.int hI81.1 kx_231 rfl) v83 ((gI_sI_ne (by decide)).trans hv83) ?_
  refine r_bipush 20 rfl ?_
  refine q_iadd (v83.toInt + 20) rfl (by omega) (fun v84 hv84 => ?_)
  refine r_sipush 400 rfl ?_
  refine r_ics 18 rfl (fun c85 => ?_) (fun c85 => ?_)
  · have c85_ : v84.toInt ≤ 400 := en_i_le_t c85
    refine At.enter rfl ?_
    refine r_aload_n rfl ?_
    refine r_iload_n rfl ?_
    refine r_callV 25 rfl [.ref 231, .int a1] [] (Nat.le_of_ble_eq_true rfl) rfl (T_X11_four_231 _ hI81 a1 (by rw [((gI_sI_ne (by decide)).trans hv83)]; omega)) ?_
    rintro _ _ ⟨g86, rfl, hI87, hF88, rfl, hr90⟩
    refine At.stn ?_
    have hF91 := Fr.tr hF82 hF88 rfl rfl
    rw [((gI_sI_ne (by decide)).trans hv83)] at hr90
    obtain ⟨v92, hv92⟩ : ∃ v, gI g86 231 8 = v := ⟨_, rfl⟩
    rw [hv92] at hr90
    refine At.enter rfl ?_
    refine r_aload_n rfl ?_
    refine r_iload_n rfl ?_
    refine r_callV 30 rfl [.ref 231, .int a2] [] (Nat.le_of_ble_eq_true rfl) rfl (T_X11_four_231 _ hI87 a2 (by rw [hv92]; omega)) ?_
    rintro _ _ ⟨g93, rfl, hI94, hF95, rfl, hr97⟩
    refine At.stn ?_
    have hF98 := Fr.tr hF91 hF95 rfl rfl
    rw [hv92] at hr97
    obtain ⟨v99, hv99⟩ : ∃ v, gI g93 231 8 = v := ⟨_, rfl⟩
    rw [hv99] at hr97
    refine At.enter rfl ?_
    refine r_aload_n rfl ?_
    refine r_iload_n rfl ?_
    refine r_callV 35 rfl [.ref 231, .int a3] [] (Nat.le_of_ble_eq_true rfl) rfl (T_X11_four_231 _ hI94 a3 (by rw [hv99]; omega)) ?_
    rintro _ _ ⟨g100, rfl, hI101, hF102, rfl, hr104⟩
    refine At.stn ?_
    have hF105 := Fr.tr hF98 hF102 rfl rfl
    rw [hv99] at hr104
    obtain ⟨v106, hv106⟩ : ∃ v, gI g100 231 8 = v := ⟨_, rfl⟩
    rw [hv106] at hr104
    refine At.enter rfl ?_
    refine r_aload_n rfl ?_
    refine r_iload rfl ?_
    refine r_callV 41 rfl [.ref 231, .int a4] [] (Nat.le_of_ble_eq_true rfl) rfl (T_X11_four_231 _ hI101 a4 (by rw [hv106]; omega)) ?_
    rintro _ _ ⟨g107, rfl, hI108, hF109, rfl, hr111⟩
    refine At.stn ?_
    have hF112 := Fr.tr hF105 hF109 rfl rfl
    rw [hv106] at hr111
    obtain ⟨v113, hv113⟩ : ∃ v, gI g107 231 8 = v := ⟨_, rfl⟩
    rw [hv113] at hr111
    refine At.enter rfl ?_
    refine r_aload_n rfl ?_
    refine r_iload rfl ?_
    refine r_callV 47 rfl [.ref 231, .int a5] [] (Nat.le_of_ble_eq_true rfl) rfl (T_X11_four_231 _ hI108 a5 (by rw [hv113]; omega)) ?_
    rintro _ _ ⟨g114, rfl, hI115, hF116, rfl, hr118⟩
    refine At.stn ?_
    have hF119 := Fr.tr hF112 hF116 rfl rfl
    rw [hv113] at hr118
    obtain ⟨v120, hv120⟩ : ∃ v, gI g114 231 8 = v := ⟨_, rfl⟩
    rw [hv120] at hr118
    refine At.enter rfl ?_
    refine r_aload_n rfl ?_
    refine q_getI (Sh.int hI115.1 kx_231 rfl) v120 hv120 ?_
    refine r_ireti ?_
    exact ⟨_, rfl, hI115, hF119, _, rfl, by omega⟩
  · have c85_ : v84.toInt > 400 := en_i_le_f c85
    refine At.enter rfl ?_
    refine r_iconst (-1) rfl ?_
    refine r_ireti ?_
    exact ⟨_, rfl, hI81, hF82, _, rfl, by decide⟩
