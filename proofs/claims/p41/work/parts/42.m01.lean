def F_X11_of_231 : List (Nat × Nat) := [(231, 0)]
def A_X11_of_231 : List Nat := []
set_option maxRecDepth 100000 in
set_option maxHeartbeats 4000000 in
theorem T_X11_of_231 (d : Nat) {N : Nat} {g0 : List en_E} (hI0 : HI g0) (a1 : Int32) (a2 : Int32) : Ev (d + 4) 175 [.ref 231, .int a1, .int a2] (g0, N) (fun w h' => ∃ g', h' = (g', N) ∧ HI g' ∧ Fr F_X11_of_231 A_X11_of_231 g0 g' ∧ ∃ r : Int32, w = some (.int r) ∧ True ∧ ((¬ (0 ≤ a1.toInt ∧ a1.toInt < (eA g0 233 0).toInt) ∨ a2.toInt < 0 ∨ 3 < a2.toInt → r.toInt = -1) ∧ (0 ≤ a1.toInt ∧ a1.toInt < (eA g0 233 0).toInt ∧ a2.toInt = 3 → r.toInt = NM g0 a1.toInt) ∧ (0 ≤ a1.toInt ∧ a1.toInt < (eA g0 233 0).toInt ∧ 0 ≤ a2.toInt ∧ a2.toInt ≤ 2 → r.toInt = (eA g0 233 (10 + 3 * a1.toInt + a2.toInt)).toInt))) := by
  have hF0 : Fr F_X11_of_231 A_X11_of_231 g0 g0 := Fr.rf
  refine Ev.mk rfl rfl ⟨Nat.le_of_ble_eq_true rfl, Or.inr (q_rc hI0.1 kx_231 rfl)⟩ ?_
  show At _ none _ _ (0, [(0, .ref 231), (1, .int a1), (2, .int a2)], [], (_, _)) _
  refine At.enter rfl ?_
  refine r_aload_n rfl ?_
  refine r_iconst 0 rfl ?_
  refine q_putI (Sh.int hI0.1 kx_231 rfl) rfl ?_
  have hI47 := HI.wI0 hI0 kx_231 rfl (p := 231) (b := 0) (v := 0) rfl
  have hF48 := Fr.wI (p := 231) (b := 0) (v := 0) hF0 rfl
  refine r_aload_n rfl ?_
  refine r_iload_n rfl ?_
  refine q_inlV 10 rfl [.ref 231, .int a1] [] (Nat.le_of_ble_eq_true rfl) rfl ?_
  refine Ev.mk rfl rfl ⟨Nat.le_of_ble_eq_true rfl, Or.inr (q_rc hI47.1 kx_231 rfl)⟩ ?_
  show At _ none _ _ (0, [(0, .ref 231), (1, .int a1)], [], (_, _)) _
  refine At.enter rfl ?_
  refine r_iload_n rfl ?_
  refine q_i2l (fun v49 hv49 => ?_)
  refine r_lconst 0 rfl ?_
  refine r_aload_n rfl ?_
  refine q_getR (Sh.ref hI47.1 kx_231 rfl) ?_
  refine r_iconst 0 rfl ?_
  obtain ⟨v50, hv50⟩ : ∃ v, eA g0 233 0 = v := ⟨_, rfl⟩
  have tv50 := congrArg Int32.toInt hv50
  have wv50 := HI.t0 hI0
  rw [hv50] at wv50
  refine q_iald (Sh.arr hI47.1 ka_233) 0 rfl (by decide) v50 ((eA_c (gA_sI)).trans hv50) ?_
  refine q_i2l (fun v51 hv51 => ?_)
  refine r_lconst 1 rfl ?_
  refine q_lsub (v51.toInt - 1) rfl (by omega) (fun v52 hv52 => ?_)
  refine q_inlS 15 rfl [.long v49, .long 0, .long v52] [] (Nat.le_of_ble_eq_true rfl) rfl ?_
  refine Ev.mk rfl rfl ⟨Nat.le_of_ble_eq_true rfl, Or.inl rfl⟩ ?_
  show At _ none _ _ (0, [(0, .long v49), (2, .long 0), (4, .long v52)], [], (_, _)) _
  refine At.enter rfl ?_
  refine r_lload_n rfl ?_
  refine r_lload_n rfl ?_
  refine r_lcmp _ rfl ?_
  refine r_ifs 6 rfl (fun c53 => ?_) (fun c53 => ?_)
  · have c53_ : v49.toInt < 0 := en_j_lt_t c53
    refine At.enter rfl ?_
    refine r_iconst 0 rfl ?_
    refine Ar.fall 18 rfl ?_
    refine At.enter rfl ?_
    refine q_iretz (by decide) ?_
    refine At.enter rfl ?_
    refine q_iretz (by decide) ?_
    refine At.enter rfl ?_
    refine r_ift (by decide) ?_
    refine At.enter rfl ?_
    refine r_iconst (-1) rfl ?_
    refine r_ireti ?_
    have zv54 : ((-1) : Int32).toInt = (-1) := rfl
    have x55 := HI.eqA hI0 (p := 233) (j := 0) (hv50)
    have y56 := congrArg Int32.toInt hv50
    have nme : 0 ≤ a1.toInt → a1.toInt < (eA g0 233 0).toInt → _ := fun h0 h1 => NMo.eq (g := g0) (s := a1.toInt) ⟨h0, h1⟩
    exact ⟨_, rfl, hI47, hF48, _, rfl, trivial, ⟨by omega, by omega, by omega⟩⟩
  · have c53_ : v49.toInt ≥ 0 := en_j_lt_f c53
    refine At.enter rfl ?_
    refine r_lload_n rfl ?_
    refine r_lload rfl ?_
    refine r_lcmp _ rfl ?_
    refine r_ifs 13 rfl (fun c57 => ?_) (fun c57 => ?_)
    · have c57_ : v49.toInt > v52.toInt := en_j_gt_t c57
      refine At.enter rfl ?_
      refine r_iconst 0 rfl ?_
      refine Ar.fall 18 rfl ?_
      refine At.enter rfl ?_
      refine q_iretz (by decide) ?_
      refine At.enter rfl ?_
      refine q_iretz (by decide) ?_
      refine At.enter rfl ?_
      refine r_ift (by decide) ?_
      refine At.enter rfl ?_
      refine r_iconst (-1) rfl ?_
      refine r_ireti ?_
      have zv58 : ((-1) : Int32).toInt = (-1) := rfl
      have x59 := HI.eqA hI0 (p := 233) (j := 0) (hv50)
      have y60 := congrArg Int32.toInt hv50
      have nme : 0 ≤ a1.toInt → a1.toInt < (eA g0 233 0).toInt → _ := fun h0 h1 => NMo.eq (g := g0) (s := a1.toInt) ⟨h0, h1⟩
      exact ⟨_, rfl, hI47, hF48, _, rfl, trivial, ⟨by omega, by omega, by omega⟩⟩
    · have c57_ : v49.toInt ≤ v52.toInt := en_j_gt_f c57
      refine At.enter rfl ?_
      refine r_iconst 1 rfl ?_
      refine r_goto ?_
      refine At.enter rfl ?_
      refine q_iretz (by decide) ?_
      refine At.enter rfl ?_
      refine q_iretz (by decide) ?_
      refine At.enter rfl ?_
      refine r_iff 13 rfl (by decide) ?_
      refine At.enter rfl ?_
      refine r_iload_n rfl ?_
      refine q_i2l (fun v61 hv61 => ?_)
      refine r_lconst 0 rfl ?_
      refine r_ldc2 3 rfl ?_
      refine q_inlS 22 rfl [.long v61, .long 0, .long 3] [] (Nat.le_of_ble_eq_true rfl) rfl ?_
      refine Ev.mk rfl rfl ⟨Nat.le_of_ble_eq_true rfl, Or.inl rfl⟩ ?_
      show At _ none _ _ (0, [(0, .long v61), (2, .long 0), (4, .long 3)], [], (_, _)) _
      refine At.enter rfl ?_
      refine r_lload_n rfl ?_
      refine r_lload_n rfl ?_
      refine r_lcmp _ rfl ?_
      refine r_ifs 6 rfl (fun c62 => ?_) (fun c62 => ?_)
      · have c62_ : v61.toInt < 0 := en_j_lt_t c62
        refine At.enter rfl ?_
        refine r_iconst 0 rfl ?_
        refine Ar.fall 18 rfl ?_
        refine At.enter rfl ?_
        refine q_iretz (by decide) ?_
        refine At.enter rfl ?_
        refine r_iff 25 rfl (by decide) ?_
        refine At.enter rfl ?_
        refine r_iconst (-1) rfl ?_
        refine r_ireti ?_
        have zv63 : ((-1) : Int32).toInt = (-1) := rfl
        have x64 := HI.eqA hI0 (p := 233) (j := 0) (hv50)
        have y65 := congrArg Int32.toInt hv50
        have nme : 0 ≤ a1.toInt → a1.toInt < (eA g0 233 0).toInt → _ := fun h0 h1 => NMo.eq (g := g0) (s := a1.toInt) ⟨h0, h1⟩
        exact ⟨_, rfl, hI47, hF48, _, rfl, trivial, ⟨by omega, by omega, by omega⟩⟩
      · have c62_ : v61.toInt ≥ 0 := en_j_lt_f c62
        refine At.enter rfl ?_
        refine r_lload_n rfl ?_
        refine r_lload rfl ?_
        refine r_lcmp _ rfl ?_
        refine r_ifs 13 rfl (fun c66 => ?_) (fun c66 => ?_)
        · have c66_ : v61.toInt > 3 := en_j_gt_t c66
          refine At.enter rfl ?_
          refine r_iconst 0 rfl ?_
          refine Ar.fall 18 rfl ?_
          refine At.enter rfl ?_
          refine q_iretz (by decide) ?_
          refine At.enter rfl ?_
          refine r_iff 25 rfl (by decide) ?_
          refine At.enter rfl ?_
          refine r_iconst (-1) rfl ?_
          refine r_ireti ?_
          have zv67 : ((-1) : Int32).toInt = (-1) := rfl
          have x68 := HI.eqA hI0 (p := 233) (j := 0) (hv50)
          have y69 := congrArg Int32.toInt hv50
          have nme : 0 ≤ a1.toInt → a1.toInt < (eA g0 233 0).toInt → _ := fun h0 h1 => NMo.eq (g := g0) (s := a1.toInt) ⟨h0, h1⟩
          exact ⟨_, rfl, hI47, hF48, _, rfl, trivial, ⟨by omega, by omega, by omega⟩⟩
        · have c66_ : v61.toInt ≤ 3 := en_j_gt_f c66
          refine At.enter rfl ?_
          refine r_iconst 1 rfl ?_
          refine r_goto ?_
          refine At.enter rfl ?_
          refine q_iretz (by decide) ?_
          refine At.enter rfl ?_
          refine r_ift (by decide) ?_
          refine At.enter rfl ?_
          refine r_iload_n rfl ?_
          refine r_iconst 3 rfl ?_
          refine r_ics 32 rfl (fun c70 => ?_) (fun c70 => ?_)
          · have c70_ : a2.toInt ≠ 3 := en_i_ne_t c70
            refine At.enter rfl ?_
            refine r_aload_n rfl ?_
            refine r_iload_n rfl ?_
            refine r_iload_n rfl ?_
            refine q_inlV 47 rfl [.ref 231, .int a1, .int a2] [] (Nat.le_of_ble_eq_true rfl) rfl ?_
            refine Ev.mk rfl rfl ⟨Nat.le_of_ble_eq_true rfl, Or.inr (q_rc hI47.1 kx_231 rfl)⟩ ?_
            show At _ none _ _ (0, [(0, .ref 231), (1, .int a1), (2, .int a2)], [], (_, _)) _
            refine At.enter rfl ?_
            refine r_aload_n rfl ?_
            refine q_getR (Sh.ref hI47.1 kx_231 rfl) ?_
            refine r_bipush 10 rfl ?_
            refine r_iconst 3 rfl ?_
            refine r_iload_n rfl ?_
            refine q_imul (3 * a1.toInt) rfl (by omega) (fun v71 hv71 => ?_)
            refine q_iadd (10 + v71.toInt) rfl (by omega) (fun v72 hv72 => ?_)
            refine r_iload_n rfl ?_
            refine q_iadd (v72.toInt + a2.toInt) rfl (by omega) (fun v73 hv73 => ?_)
            obtain ⟨v74, hv74⟩ : ∃ v, eA g0 233 (3 * a1.toInt + a2.toInt + 10) = v := ⟨_, rfl⟩
            refine q_iald (Sh.arr hI47.1 ka_233) (3 * a1.toInt + a2.toInt + 10) (by omega) (by omega) v74 ((eA_c (gA_sI)).trans hv74) ?_
            refine q_ireti ?_
            refine At.enter rfl ?_
            refine r_ireti ?_
            have x75 := HI.eqA hI0 (p := 233) (j := 0) (hv50)
            have y76 := congrArg Int32.toInt hv50
            have y77 := (eA_ix (g := g0) (p := 233) (show 10 + 3 * a1.toInt + a2.toInt = (3 * a1.toInt + a2.toInt + 10) from by omega)).trans (congrArg Int32.toInt hv74)
            have nme : 0 ≤ a1.toInt → a1.toInt < (eA g0 233 0).toInt → _ := fun h0 h1 => NMo.eq (g := g0) (s := a1.toInt) ⟨h0, h1⟩
            exact ⟨_, rfl, hI47, hF48, _, rfl, trivial, ⟨by omega, by omega, by omega⟩⟩
          · have c70_ : a2.toInt = 3 := en_i_ne_f c70
            refine At.enter rfl ?_
            refine r_aload_n rfl ?_
            refine r_iload_n rfl ?_
            refine r_iconst 0 rfl ?_
            refine r_callV 38 rfl [.ref 231, .int a1, .int 0] [] (Nat.le_of_ble_eq_true rfl) rfl (T_X11_nextOf0_231 _ hI47 a1 (by omega)) ?_
            rintro _ _ ⟨g78, rfl, hI79, hF80, v81, rfl, hr82⟩
            refine At.sti ?_
            have hF83 := Fr.tr hF48 hF80 rfl rfl
            have zv84 : (0 : Int32).toInt = 0 := rfl
            rw [eA_c ((gA_sI))] at hr82
            rw [NMo.c ((gA_sI))] at hr82
            refine At.enter rfl ?_
            refine r_goto ?_
            refine At.enter rfl ?_
            refine r_ireti ?_
            have x85 := HI.eqA hI0 (p := 233) (j := 0) (hv50)
            have y86 := congrArg Int32.toInt hv50
            have nme : 0 ≤ a1.toInt → a1.toInt < (eA g0 233 0).toInt → _ := fun h0 h1 => NMo.eq (g := g0) (s := a1.toInt) ⟨h0, h1⟩
            exact ⟨_, rfl, hI79, hF83, _, rfl, trivial, ⟨by omega, by omega, by omega⟩⟩

def F_X11_fact_231 : List (Nat × Nat) := [(231, 0)]
def A_X11_fact_231 : List Nat := []
set_option maxRecDepth 100000 in
set_option maxHeartbeats 4000000 in
theorem T_X11_fact_231 (d : Nat) {N : Nat} {g0 : List en_E} (hI0 : HI g0) (a1 : Int32) (a2 : Int32) : Ev (d + 3) 179 [.ref 231, .int a1, .int a2] (g0, N) (fun w h' => ∃ g', h' = (g', N) ∧ HI g' ∧ Fr F_X11_fact_231 A_X11_fact_231 g0 g' ∧ ∃ r : Int32, w = some (.int r) ∧ True ∧ ((0 ≤ a1.toInt ∧ a1.toInt < (eA g0 233 1).toInt ∧ 0 ≤ a2.toInt ∧ a2.toInt < 6 → r.toInt = (eA g0 233 (46 + (6 * a1.toInt + a2.toInt))).toInt) ∧ (¬ (0 ≤ a1.toInt ∧ a1.toInt < (eA g0 233 1).toInt ∧ 0 ≤ a2.toInt ∧ a2.toInt < 6) → r.toInt = -1))) := by
  have hF0 : Fr F_X11_fact_231 A_X11_fact_231 g0 g0 := Fr.rf
  refine Ev.mk rfl rfl ⟨Nat.le_of_ble_eq_true rfl, Or.inr (q_rc hI0.1 kx_231 rfl)⟩ ?_
  show At _ none _ _ (0, [(0, .ref 231), (1, .int a1), (2, .int a2)], [], (_, _)) _
  refine At.enter rfl ?_
  refine r_aload_n rfl ?_
  refine r_iconst 0 rfl ?_
  refine q_putI (Sh.int hI0.1 kx_231 rfl) rfl ?_
  have hI31 := HI.wI0 hI0 kx_231 rfl (p := 231) (b := 0) (v := 0) rfl
  have hF32 := Fr.wI (p := 231) (b := 0) (v := 0) hF0 rfl
  refine r_aload_n rfl ?_
  refine r_iload_n rfl ?_
  refine q_inlV 10 rfl [.ref 231, .int a1] [] (Nat.le_of_ble_eq_true rfl) rfl ?_
  refine Ev.mk rfl rfl ⟨Nat.le_of_ble_eq_true rfl, Or.inr (q_rc hI31.1 kx_231 rfl)⟩ ?_
  show At _ none _ _ (0, [(0, .ref 231), (1, .int a1)], [], (_, _)) _
  refine At.enter rfl ?_
  refine r_iload_n rfl ?_
  refine q_i2l (fun v33 hv33 => ?_)
  refine r_lconst 0 rfl ?_
  refine r_aload_n rfl ?_
  refine q_getR (Sh.ref hI31.1 kx_231 rfl) ?_
  refine r_iconst 1 rfl ?_
  obtain ⟨v34, hv34⟩ : ∃ v, eA g0 233 1 = v := ⟨_, rfl⟩
  have tv34 := congrArg Int32.toInt hv34
  have wv34 := HI.t1 hI0
  rw [hv34] at wv34
  refine q_iald (Sh.arr hI31.1 ka_233) 1 rfl (by decide) v34 ((eA_c (gA_sI)).trans hv34) ?_
  refine q_i2l (fun v35 hv35 => ?_)
  refine r_lconst 1 rfl ?_
  refine q_lsub (v35.toInt - 1) rfl (by omega) (fun v36 hv36 => ?_)
  refine q_inlS 15 rfl [.long v33, .long 0, .long v36] [] (Nat.le_of_ble_eq_true rfl) rfl ?_
  refine Ev.mk rfl rfl ⟨Nat.le_of_ble_eq_true rfl, Or.inl rfl⟩ ?_
  show At _ none _ _ (0, [(0, .long v33), (2, .long 0), (4, .long v36)], [], (_, _)) _
  refine At.enter rfl ?_
  refine r_lload_n rfl ?_
  refine r_lload_n rfl ?_
  refine r_lcmp _ rfl ?_
  refine r_ifs 6 rfl (fun c37 => ?_) (fun c37 => ?_)
  · have c37_ : v33.toInt < 0 := en_j_lt_t c37
    refine At.enter rfl ?_
    refine r_iconst 0 rfl ?_
    refine Ar.fall 18 rfl ?_
    refine At.enter rfl ?_
    refine q_iretz (by decide) ?_
    refine At.enter rfl ?_
    refine q_iretz (by decide) ?_
    refine At.enter rfl ?_
    refine r_ift (by decide) ?_
    refine At.enter rfl ?_
    refine r_iconst (-1) rfl ?_
    refine Ar.fall 35 rfl ?_
    refine At.enter rfl ?_
    refine r_ireti ?_
    have zv38 : ((-1) : Int32).toInt = (-1) := rfl
    have x39 := HI.eqA hI0 (p := 233) (j := 1) (hv34)
    have y40 := congrArg Int32.toInt hv34
    exact ⟨_, rfl, hI31, hF32, _, rfl, trivial, ⟨by omega, by omega⟩⟩
  · have c37_ : v33.toInt ≥ 0 := en_j_lt_f c37
    refine At.enter rfl ?_
    refine r_lload_n rfl ?_
    refine r_lload rfl ?_
    refine r_lcmp _ rfl ?_
    refine r_ifs 13 rfl (fun c41 => ?_) (fun c41 => ?_)
    · have c41_ : v33.toInt > v36.toInt := en_j_gt_t c41
      refine At.enter rfl ?_
      refine r_iconst 0 rfl ?_
      refine Ar.fall 18 rfl ?_
      refine At.enter rfl ?_
      refine q_iretz (by decide) ?_
      refine At.enter rfl ?_
      refine q_iretz (by decide) ?_
      refine At.enter rfl ?_
      refine r_ift (by decide) ?_
      refine At.enter rfl ?_
      refine r_iconst (-1) rfl ?_
      refine Ar.fall 35 rfl ?_
      refine At.enter rfl ?_
      refine r_ireti ?_
      have zv42 : ((-1) : Int32).toInt = (-1) := rfl
      have x43 := HI.eqA hI0 (p := 233) (j := 1) (hv34)
      have y44 := congrArg Int32.toInt hv34
      exact ⟨_, rfl, hI31, hF32, _, rfl, trivial, ⟨by omega, by omega⟩⟩
    · have c41_ : v33.toInt ≤ v36.toInt := en_j_gt_f c41
      refine At.enter rfl ?_
      refine r_iconst 1 rfl ?_
      refine r_goto ?_
      refine At.enter rfl ?_
      refine q_iretz (by decide) ?_
      refine At.enter rfl ?_
      refine q_iretz (by decide) ?_
      refine At.enter rfl ?_
      refine r_iff 13 rfl (by decide) ?_
      refine At.enter rfl ?_
      refine r_iload_n rfl ?_
      refine q_i2l (fun v45 hv45 => ?_)
      refine r_lconst 0 rfl ?_
      refine r_ldc2 5 rfl ?_
      refine q_inlS 22 rfl [.long v45, .long 0, .long 5] [] (Nat.le_of_ble_eq_true rfl) rfl ?_
      refine Ev.mk rfl rfl ⟨Nat.le_of_ble_eq_true rfl, Or.inl rfl⟩ ?_
      show At _ none _ _ (0, [(0, .long v45), (2, .long 0), (4, .long 5)], [], (_, _)) _
      refine At.enter rfl ?_
      refine r_lload_n rfl ?_
      refine r_lload_n rfl ?_
      refine r_lcmp _ rfl ?_
      refine r_ifs 6 rfl (fun c46 => ?_) (fun c46 => ?_)
      · have c46_ : v45.toInt < 0 := en_j_lt_t c46
        refine At.enter rfl ?_
        refine r_iconst 0 rfl ?_
        refine Ar.fall 18 rfl ?_
        refine At.enter rfl ?_
        refine q_iretz (by decide) ?_
        refine At.enter rfl ?_
        refine r_ift (by decide) ?_
        refine At.enter rfl ?_
        refine r_iconst (-1) rfl ?_
        refine Ar.fall 35 rfl ?_
        refine At.enter rfl ?_
        refine r_ireti ?_
        have zv47 : ((-1) : Int32).toInt = (-1) := rfl
        have x48 := HI.eqA hI0 (p := 233) (j := 1) (hv34)
        have y49 := congrArg Int32.toInt hv34
        exact ⟨_, rfl, hI31, hF32, _, rfl, trivial, ⟨by omega, by omega⟩⟩
      · have c46_ : v45.toInt ≥ 0 := en_j_lt_f c46
        refine At.enter rfl ?_
        refine r_lload_n rfl ?_
        refine r_lload rfl ?_
        refine r_lcmp _ rfl ?_
        refine r_ifs 13 rfl (fun c50 => ?_) (fun c50 => ?_)
        · have c50_ : v45.toInt > 5 := en_j_gt_t c50
          refine At.enter rfl ?_
          refine r_iconst 0 rfl ?_
          refine Ar.fall 18 rfl ?_
          refine At.enter rfl ?_
          refine q_iretz (by decide) ?_
          refine At.enter rfl ?_
          refine r_ift (by decide) ?_
          refine At.enter rfl ?_
          refine r_iconst (-1) rfl ?_
          refine Ar.fall 35 rfl ?_
          refine At.enter rfl ?_
          refine r_ireti ?_
          have zv51 : ((-1) : Int32).toInt = (-1) := rfl
          have x52 := HI.eqA hI0 (p := 233) (j := 1) (hv34)
          have y53 := congrArg Int32.toInt hv34
          exact ⟨_, rfl, hI31, hF32, _, rfl, trivial, ⟨by omega, by omega⟩⟩
        · have c50_ : v45.toInt ≤ 5 := en_j_gt_f c50
          refine At.enter rfl ?_
          refine r_iconst 1 rfl ?_
          refine r_goto ?_
          refine At.enter rfl ?_
          refine q_iretz (by decide) ?_
          refine At.enter rfl ?_
          refine r_iff 25 rfl (by decide) ?_
          refine At.enter rfl ?_
          refine r_aload_n rfl ?_
          refine r_iload_n rfl ?_
          refine r_iload_n rfl ?_
          refine q_inlV 31 rfl [.ref 231, .int a1, .int a2] [] (Nat.le_of_ble_eq_true rfl) rfl ?_
          refine Ev.mk rfl rfl ⟨Nat.le_of_ble_eq_true rfl, Or.inr (q_rc hI31.1 kx_231 rfl)⟩ ?_
          show At _ none _ _ (0, [(0, .ref 231), (1, .int a1), (2, .int a2)], [], (_, _)) _
          refine At.enter rfl ?_
          refine r_aload_n rfl ?_
          refine q_getR (Sh.ref hI31.1 kx_231 rfl) ?_
          refine r_bipush 46 rfl ?_
          refine r_bipush 6 rfl ?_
          refine r_iload_n rfl ?_
          refine q_imul (6 * a1.toInt) rfl (by omega) (fun v54 hv54 => ?_)
          refine q_iadd (46 + v54.toInt) rfl (by omega) (fun v55 hv55 => ?_)
          refine r_iload_n rfl ?_
          refine q_iadd (v55.toInt + a2.toInt) rfl (by omega) (fun v56 hv56 => ?_)
          obtain ⟨v57, hv57⟩ : ∃ v, eA g0 233 (6 * a1.toInt + a2.toInt + 46) = v := ⟨_, rfl⟩
          refine q_iald (Sh.arr hI31.1 ka_233) (6 * a1.toInt + a2.toInt + 46) (by omega) (by omega) v57 ((eA_c (gA_sI)).trans hv57) ?_
          refine q_ireti ?_
          refine At.enter rfl ?_
          refine r_goto ?_
          refine At.enter rfl ?_
          refine r_ireti ?_
          have x58 := HI.eqA hI0 (p := 233) (j := 1) (hv34)
          have y59 := congrArg Int32.toInt hv34
          have y60 := (eA_ix (g := g0) (p := 233) (show 46 + (6 * a1.toInt + a2.toInt) = (6 * a1.toInt + a2.toInt + 46) from by omega)).trans (congrArg Int32.toInt hv57)
          exact ⟨_, rfl, hI31, hF32, _, rfl, trivial, ⟨by omega, by omega⟩⟩
