def F_X11_force_231 : List (Nat × Nat) := [(231, 0), (231, 1)]
def A_X11_force_231 : List Nat := [232, 233]
set_option maxRecDepth 100000 in
set_option maxHeartbeats 4000000 in
theorem T_X11_force_231 (d : Nat) {N : Nat} {g0 : List en_E} (hI0 : HI g0) (a1 : Int32) : Ev (d + 3) 211 [.ref 231, .int a1] (g0, N) (fun w h' => ∃ g', h' = (g', N) ∧ HI g' ∧ Fr F_X11_force_231 A_X11_force_231 g0 g' ∧ ∃ r : Int32, w = some (.int r) ∧ ((-2) ≤ r.toInt ∧ r.toInt ≤ 5) ∧ ((eA g' 233 0).toInt = (eA g0 233 0).toInt)) := by
  have hF0 : Fr F_X11_force_231 A_X11_force_231 g0 g0 := Fr.rf
  refine Ev.mk rfl rfl ⟨Nat.le_of_ble_eq_true rfl, Or.inr (q_rc hI0.1 kx_231 rfl)⟩ ?_
  show At _ none _ _ (0, [(0, .ref 231), (1, .int a1)], [], (_, _)) _
  refine At.enter rfl ?_
  refine r_aload_n rfl ?_
  refine r_iconst 0 rfl ?_
  refine q_putI (Sh.int hI0.1 kx_231 rfl) rfl ?_
  have hI73 := HI.wI0 hI0 kx_231 rfl (p := 231) (b := 0) (v := 0) rfl
  have hF74 := Fr.wI (p := 231) (b := 0) (v := 0) hF0 rfl
  refine r_iload_n rfl ?_
  refine r_iconst (-1) rfl ?_
  refine r_ics 10 rfl (fun c75 => ?_) (fun c75 => ?_)
  · have c75_ : a1.toInt = (-1) := en_i_eq_t c75
    refine At.enter rfl ?_
    refine r_aload_n rfl ?_
    refine r_iconst 3 rfl ?_
    refine r_iload_n rfl ?_
    refine q_inlV 34 rfl [.ref 231, .int 3, .int a1] [] (Nat.le_of_ble_eq_true rfl) rfl ?_
    refine Ev.mk rfl rfl ⟨Nat.le_of_ble_eq_true rfl, Or.inr (q_rc hI73.1 kx_231 rfl)⟩ ?_
    show At _ none _ _ (0, [(0, .ref 231), (1, .int 3), (2, .int a1)], [], (_, _)) _
    refine At.enter rfl ?_
    refine r_aload_n rfl ?_
    refine q_getR (Sh.ref hI73.1 kx_231 rfl) ?_
    refine r_iload_n rfl ?_
    obtain ⟨v76, hv76⟩ : ∃ v, eA g0 233 3 = v := ⟨_, rfl⟩
    have wv76 := HI.t3 hI0
    rw [hv76] at wv76
    refine q_iald (Sh.arr hI73.1 ka_233) 3 rfl (by decide) v76 ((eA_c (gA_sI)).trans hv76) ?_
    refine r_istore_n ([(3, .int v76), (0, .ref 231), (1, .int 3), (2, .int a1)]) rfl ?_
    refine r_aload_n rfl ?_
    refine q_getR (Sh.ref hI73.1 kx_231 rfl) ?_
    refine r_iload_n rfl ?_
    refine r_iload_n rfl ?_
    refine q_iast (Sh.arr hI73.1 ka_233) (3) rfl (by decide) ?_
    obtain ⟨v79, hv79⟩ : ∃ v, eA g0 233 2 = v := ⟨_, rfl⟩
    have tv79 := congrArg Int32.toInt hv79
    have wv79 := HI.t2 hI0
    rw [hv79] at wv79
    have tv79 := congrArg Int32.toInt hv79
    have x80 := HI.eqA hI73 (p := 233) (j := 2) (((eA_c gA_sI).trans hv79))
    have hI77 := HI.wt hI73 (j := 3) (v := a1) (by omega) (by omega)
    have hF78 := Fr.wA (p := 233) (j := 3) (v := a1) hF74 rfl
    refine r_aload_n rfl ?_
    refine r_iload_n rfl ?_
    refine q_inlV 19 rfl [.ref 231, .int v76] [] (Nat.le_of_ble_eq_true rfl) rfl ?_
    refine Ev.mk rfl rfl ⟨Nat.le_of_ble_eq_true rfl, Or.inr (q_rc hI77.1 kx_231 rfl)⟩ ?_
    show At _ none _ _ (0, [(0, .ref 231), (1, .int v76)], [], (_, _)) _
    refine At.enter rfl ?_
    refine r_aload_n rfl ?_
    refine r_iconst 0 rfl ?_
    refine q_putI (Sh.int hI77.1 kx_231 rfl) rfl ?_
    have hI81 := HI.wI0 hI77 kx_231 rfl (p := 231) (b := 1) (v := 0) rfl
    have hF82 := Fr.wI (p := 231) (b := 1) (v := 0) hF78 rfl
    refine r_iload_n rfl ?_
    refine q_ireti ?_
    refine At.enter rfl ?_
    refine q_ireti ?_
    refine At.enter rfl ?_
    refine r_goto ?_
    refine At.enter rfl ?_
    refine r_ireti ?_
    obtain ⟨v83, hv83⟩ : ∃ v, eA g0 233 0 = v := ⟨_, rfl⟩
    have tv83 := congrArg Int32.toInt hv83
    have wv83 := HI.t0 hI0
    rw [hv83] at wv83
    have tv83 := congrArg Int32.toInt hv83
    have x84 := HI.eqA hI81 (p := 233) (j := 0) ((((eA_c gA_sI).trans ((eA_sA_ne hI73.1 ka_233 (by first | decide | omega) (by first | decide | omega) (by first | decide | omega)).trans (eA_c gA_sI))).trans hv83))
    have x85 := HI.eqA hI0 (p := 233) (j := 0) (hv83)
    exact ⟨_, rfl, hI81, hF82, _, rfl, by omega, (by omega)⟩
  · have c75_ : a1.toInt ≠ (-1) := en_i_eq_f c75
    refine At.enter rfl ?_
    refine r_iload_n rfl ?_
    refine q_i2l (fun v86 hv86 => ?_)
    refine r_lconst 0 rfl ?_
    refine r_aload_n rfl ?_
    refine q_getR (Sh.ref hI73.1 kx_231 rfl) ?_
    refine r_iconst 2 rfl ?_
    obtain ⟨v87, hv87⟩ : ∃ v, eA g0 233 2 = v := ⟨_, rfl⟩
    have tv87 := congrArg Int32.toInt hv87
    have wv87 := HI.t2 hI0
    rw [hv87] at wv87
    refine q_iald (Sh.arr hI73.1 ka_233) 2 rfl (by decide) v87 ((eA_c (gA_sI)).trans hv87) ?_
    refine q_i2l (fun v88 hv88 => ?_)
    refine r_lconst 1 rfl ?_
    refine q_lsub (v88.toInt - 1) rfl (by omega) (fun v89 hv89 => ?_)
    refine q_inlS 25 rfl [.long v86, .long 0, .long v89] [] (Nat.le_of_ble_eq_true rfl) rfl ?_
    refine Ev.mk rfl rfl ⟨Nat.le_of_ble_eq_true rfl, Or.inl rfl⟩ ?_
    show At _ none _ _ (0, [(0, .long v86), (2, .long 0), (4, .long v89)], [], (_, _)) _
    refine At.enter rfl ?_
    refine r_lload_n rfl ?_
    refine r_lload_n rfl ?_
    refine r_lcmp _ rfl ?_
    refine r_ifs 6 rfl (fun c90 => ?_) (fun c90 => ?_)
    · have c90_ : v86.toInt < 0 := en_j_lt_t c90
      refine At.enter rfl ?_
      refine r_iconst 0 rfl ?_
      refine Ar.fall 18 rfl ?_
      refine At.enter rfl ?_
      refine q_iretz (by decide) ?_
      refine At.enter rfl ?_
      refine r_ift (by decide) ?_
      refine At.enter rfl ?_
      refine r_aload_n rfl ?_
      refine r_bipush (-2) rfl ?_
      refine r_callV 43 rfl [.ref 231, .int (-2)] [] (Nat.le_of_ble_eq_true rfl) rfl (T_X11_tell_231 _ hI73 (-2) (by decide)) ?_
      rintro _ _ ⟨g91, rfl, hI92, hF93, v94, rfl, hr95⟩
      refine At.sti ?_
      have hF96 := Fr.tr hF74 hF93 rfl rfl
      have zv97 : ((-2) : Int32).toInt = (-2) := rfl
      refine At.enter rfl ?_
      refine r_ireti ?_
      obtain ⟨v98, hv98⟩ : ∃ v, eA g0 233 0 = v := ⟨_, rfl⟩
      have tv98 := congrArg Int32.toInt hv98
      have wv98 := HI.t0 hI0
      rw [hv98] at wv98
      have tv98 := congrArg Int32.toInt hv98
      have x99 := HI.eqA hI92 (p := 233) (j := 0) ((((eA_c (hF93.2.1 233 (by decide))).trans (eA_c gA_sI)).trans hv98))
      have x100 := HI.eqA hI0 (p := 233) (j := 0) (hv98)
      exact ⟨_, rfl, hI92, hF96, _, rfl, by omega, (by omega)⟩
    · have c90_ : v86.toInt ≥ 0 := en_j_lt_f c90
      refine At.enter rfl ?_
      refine r_lload_n rfl ?_
      refine r_lload rfl ?_
      refine r_lcmp _ rfl ?_
      refine r_ifs 13 rfl (fun c101 => ?_) (fun c101 => ?_)
      · have c101_ : v86.toInt > v89.toInt := en_j_gt_t c101
        refine At.enter rfl ?_
        refine r_iconst 0 rfl ?_
        refine Ar.fall 18 rfl ?_
        refine At.enter rfl ?_
        refine q_iretz (by decide) ?_
        refine At.enter rfl ?_
        refine r_ift (by decide) ?_
        refine At.enter rfl ?_
        refine r_aload_n rfl ?_
        refine r_bipush (-2) rfl ?_
        refine r_callV 43 rfl [.ref 231, .int (-2)] [] (Nat.le_of_ble_eq_true rfl) rfl (T_X11_tell_231 _ hI73 (-2) (by decide)) ?_
        rintro _ _ ⟨g102, rfl, hI103, hF104, v105, rfl, hr106⟩
        refine At.sti ?_
        have hF107 := Fr.tr hF74 hF104 rfl rfl
        have zv108 : ((-2) : Int32).toInt = (-2) := rfl
        refine At.enter rfl ?_
        refine r_ireti ?_
        obtain ⟨v109, hv109⟩ : ∃ v, eA g0 233 0 = v := ⟨_, rfl⟩
        have tv109 := congrArg Int32.toInt hv109
        have wv109 := HI.t0 hI0
        rw [hv109] at wv109
        have tv109 := congrArg Int32.toInt hv109
        have x110 := HI.eqA hI103 (p := 233) (j := 0) ((((eA_c (hF104.2.1 233 (by decide))).trans (eA_c gA_sI)).trans hv109))
        have x111 := HI.eqA hI0 (p := 233) (j := 0) (hv109)
        exact ⟨_, rfl, hI103, hF107, _, rfl, by omega, (by omega)⟩
      · have c101_ : v86.toInt ≤ v89.toInt := en_j_gt_f c101
        refine At.enter rfl ?_
        refine r_iconst 1 rfl ?_
        refine r_goto ?_
        refine At.enter rfl ?_
        refine q_iretz (by decide) ?_
        refine At.enter rfl ?_
        refine r_iff 28 rfl (by decide) ?_
        refine At.enter rfl ?_
        refine r_aload_n rfl ?_
        refine r_iconst 3 rfl ?_
        refine r_iload_n rfl ?_
        refine q_inlV 34 rfl [.ref 231, .int 3, .int a1] [] (Nat.le_of_ble_eq_true rfl) rfl ?_
        refine Ev.mk rfl rfl ⟨Nat.le_of_ble_eq_true rfl, Or.inr (q_rc hI73.1 kx_231 rfl)⟩ ?_
        show At _ none _ _ (0, [(0, .ref 231), (1, .int 3), (2, .int a1)], [], (_, _)) _
        refine At.enter rfl ?_
        refine r_aload_n rfl ?_
        refine q_getR (Sh.ref hI73.1 kx_231 rfl) ?_
        refine r_iload_n rfl ?_
        obtain ⟨v112, hv112⟩ : ∃ v, eA g0 233 3 = v := ⟨_, rfl⟩
        have wv112 := HI.t3 hI0
        rw [hv112] at wv112
        refine q_iald (Sh.arr hI73.1 ka_233) 3 rfl (by decide) v112 ((eA_c (gA_sI)).trans hv112) ?_
        refine r_istore_n ([(3, .int v112), (0, .ref 231), (1, .int 3), (2, .int a1)]) rfl ?_
        refine r_aload_n rfl ?_
        refine q_getR (Sh.ref hI73.1 kx_231 rfl) ?_
        refine r_iload_n rfl ?_
        refine r_iload_n rfl ?_
        refine q_iast (Sh.arr hI73.1 ka_233) (3) rfl (by decide) ?_
        have x115 := HI.eqA hI73 (p := 233) (j := 2) (((eA_c gA_sI).trans hv87))
        have hI113 := HI.wt hI73 (j := 3) (v := a1) (by omega) (by omega)
        have hF114 := Fr.wA (p := 233) (j := 3) (v := a1) hF74 rfl
        refine r_aload_n rfl ?_
        refine r_iload_n rfl ?_
        refine q_inlV 19 rfl [.ref 231, .int v112] [] (Nat.le_of_ble_eq_true rfl) rfl ?_
        refine Ev.mk rfl rfl ⟨Nat.le_of_ble_eq_true rfl, Or.inr (q_rc hI113.1 kx_231 rfl)⟩ ?_
        show At _ none _ _ (0, [(0, .ref 231), (1, .int v112)], [], (_, _)) _
        refine At.enter rfl ?_
        refine r_aload_n rfl ?_
        refine r_iconst 0 rfl ?_
        refine q_putI (Sh.int hI113.1 kx_231 rfl) rfl ?_
        have hI116 := HI.wI0 hI113 kx_231 rfl (p := 231) (b := 1) (v := 0) rfl
        have hF117 := Fr.wI (p := 231) (b := 1) (v := 0) hF114 rfl
        refine r_iload_n rfl ?_
        refine q_ireti ?_
        refine At.enter rfl ?_
        refine q_ireti ?_
        refine At.enter rfl ?_
        refine r_goto ?_
        refine At.enter rfl ?_
        refine r_ireti ?_
        obtain ⟨v118, hv118⟩ : ∃ v, eA g0 233 0 = v := ⟨_, rfl⟩
        have tv118 := congrArg Int32.toInt hv118
        have wv118 := HI.t0 hI0
        rw [hv118] at wv118
        have tv118 := congrArg Int32.toInt hv118
        have x119 := HI.eqA hI116 (p := 233) (j := 0) ((((eA_c gA_sI).trans ((eA_sA_ne hI73.1 ka_233 (by first | decide | omega) (by first | decide | omega) (by first | decide | omega)).trans (eA_c gA_sI))).trans hv118))
        have x120 := HI.eqA hI0 (p := 233) (j := 0) (hv118)
        exact ⟨_, rfl, hI116, hF117, _, rfl, by omega, (by omega)⟩

def F_X11_swap_231 : List (Nat × Nat) := [(231, 0), (231, 1)]
def A_X11_swap_231 : List Nat := [232, 233]
set_option maxRecDepth 100000 in
set_option maxHeartbeats 4000000 in
theorem T_X11_swap_231 (d : Nat) {N : Nat} {g0 : List en_E} (hI0 : HI g0) (a1 : Int32) (a2 : Int32) : Ev (d + 3) 240 [.ref 231, .int a1, .int a2] (g0, N) (fun w h' => ∃ g', h' = (g', N) ∧ HI g' ∧ Fr F_X11_swap_231 A_X11_swap_231 g0 g' ∧ ∃ r : Int32, w = some (.int r) ∧ ((-3) ≤ r.toInt ∧ r.toInt ≤ 0) ∧ ((eA g' 233 0).toInt = (eA g0 233 0).toInt)) := by
  have hF0 : Fr F_X11_swap_231 A_X11_swap_231 g0 g0 := Fr.rf
  refine Ev.mk rfl rfl ⟨Nat.le_of_ble_eq_true rfl, Or.inr (q_rc hI0.1 kx_231 rfl)⟩ ?_
  show At _ none _ _ (0, [(0, .ref 231), (1, .int a1), (2, .int a2)], [], (_, _)) _
  refine At.enter rfl ?_
  refine r_aload_n rfl ?_
  refine r_iconst 0 rfl ?_
  refine q_putI (Sh.int hI0.1 kx_231 rfl) rfl ?_
  have hI331 := HI.wI0 hI0 kx_231 rfl (p := 231) (b := 0) (v := 0) rfl
  have hF332 := Fr.wI (p := 231) (b := 0) (v := 0) hF0 rfl
  refine r_aload_n rfl ?_
  refine r_iload_n rfl ?_
  refine q_inlV 10 rfl [.ref 231, .int a1] [] (Nat.le_of_ble_eq_true rfl) rfl ?_
  refine Ev.mk rfl rfl ⟨Nat.le_of_ble_eq_true rfl, Or.inr (q_rc hI331.1 kx_231 rfl)⟩ ?_
  show At _ none _ _ (0, [(0, .ref 231), (1, .int a1)], [], (_, _)) _
  refine At.enter rfl ?_
  refine r_iload_n rfl ?_
  refine q_i2l (fun v333 hv333 => ?_)
  refine r_lconst 0 rfl ?_
  refine r_aload_n rfl ?_
  refine q_getR (Sh.ref hI331.1 kx_231 rfl) ?_
  refine r_iconst 0 rfl ?_
  obtain ⟨v334, hv334⟩ : ∃ v, eA g0 233 0 = v := ⟨_, rfl⟩
  have tv334 := congrArg Int32.toInt hv334
  have wv334 := HI.t0 hI0
  rw [hv334] at wv334
  refine q_iald (Sh.arr hI331.1 ka_233) 0 rfl (by decide) v334 ((eA_c (gA_sI)).trans hv334) ?_
  refine q_i2l (fun v335 hv335 => ?_)
  refine r_lconst 1 rfl ?_
  refine q_lsub (v335.toInt - 1) rfl (by omega) (fun v336 hv336 => ?_)
  refine q_inlS 15 rfl [.long v333, .long 0, .long v336] [] (Nat.le_of_ble_eq_true rfl) rfl ?_
  refine Ev.mk rfl rfl ⟨Nat.le_of_ble_eq_true rfl, Or.inl rfl⟩ ?_
  show At _ none _ _ (0, [(0, .long v333), (2, .long 0), (4, .long v336)], [], (_, _)) _
  refine At.enter rfl ?_
  refine r_lload_n rfl ?_
  refine r_lload_n rfl ?_
  refine r_lcmp _ rfl ?_
  refine r_ifs 6 rfl (fun c337 => ?_) (fun c337 => ?_)
  · have c337_ : v333.toInt < 0 := en_j_lt_t c337
    refine At.enter rfl ?_
    refine r_iconst 0 rfl ?_
    refine Ar.fall 18 rfl ?_
    refine At.enter rfl ?_
    refine q_iretz (by decide) ?_
    refine At.enter rfl ?_
    refine q_iretz (by decide) ?_
    refine At.enter rfl ?_
    refine r_ift (by decide) ?_
    refine At.enter rfl ?_
    refine r_aload_n rfl ?_
    refine r_bipush (-2) rfl ?_
    refine r_callV 27 rfl [.ref 231, .int (-2)] [] (Nat.le_of_ble_eq_true rfl) rfl (T_X11_tell_231 _ hI331 (-2) (by decide)) ?_
    rintro _ _ ⟨g338, rfl, hI339, hF340, v341, rfl, hr342⟩
    refine At.sti ?_
    have hF343 := Fr.tr hF332 hF340 rfl rfl
    have zv344 : ((-2) : Int32).toInt = (-2) := rfl
    refine At.enter rfl ?_
    refine r_ireti ?_
    have x345 := HI.eqA hI339 (p := 233) (j := 0) ((((eA_c (hF340.2.1 233 (by decide))).trans (eA_c gA_sI)).trans hv334))
    have x346 := HI.eqA hI0 (p := 233) (j := 0) (hv334)
    exact ⟨_, rfl, hI339, hF343, _, rfl, by omega, (by omega)⟩
  · have c337_ : v333.toInt ≥ 0 := en_j_lt_f c337
    refine At.enter rfl ?_
    refine r_lload_n rfl ?_
    refine r_lload rfl ?_
    refine r_lcmp _ rfl ?_
    refine r_ifs 13 rfl (fun c347 => ?_) (fun c347 => ?_)
    · have c347_ : v333.toInt > v336.toInt := en_j_gt_t c347
      refine At.enter rfl ?_
      refine r_iconst 0 rfl ?_
      refine Ar.fall 18 rfl ?_
      refine At.enter rfl ?_
      refine q_iretz (by decide) ?_
      refine At.enter rfl ?_
      refine q_iretz (by decide) ?_
      refine At.enter rfl ?_
      refine r_ift (by decide) ?_
      refine At.enter rfl ?_
      refine r_aload_n rfl ?_
      refine r_bipush (-2) rfl ?_
      refine r_callV 27 rfl [.ref 231, .int (-2)] [] (Nat.le_of_ble_eq_true rfl) rfl (T_X11_tell_231 _ hI331 (-2) (by decide)) ?_
      rintro _ _ ⟨g348, rfl, hI349, hF350, v351, rfl, hr352⟩
      refine At.sti ?_
      have hF353 := Fr.tr hF332 hF350 rfl rfl
      have zv354 : ((-2) : Int32).toInt = (-2) := rfl
      refine At.enter rfl ?_
      refine r_ireti ?_
      have x355 := HI.eqA hI349 (p := 233) (j := 0) ((((eA_c (hF350.2.1 233 (by decide))).trans (eA_c gA_sI)).trans hv334))
      have x356 := HI.eqA hI0 (p := 233) (j := 0) (hv334)
      exact ⟨_, rfl, hI349, hF353, _, rfl, by omega, (by omega)⟩
    · have c347_ : v333.toInt ≤ v336.toInt := en_j_gt_f c347
      refine At.enter rfl ?_
      refine r_iconst 1 rfl ?_
      refine r_goto ?_
      refine At.enter rfl ?_
      refine q_iretz (by decide) ?_
      refine At.enter rfl ?_
      refine q_iretz (by decide) ?_
      refine At.enter rfl ?_
      refine r_iff 13 rfl (by decide) ?_
      refine At.enter rfl ?_
      refine r_aload_n rfl ?_
      refine r_iload_n rfl ?_
      refine q_inlV 18 rfl [.ref 231, .int a2] [] (Nat.le_of_ble_eq_true rfl) rfl ?_
      refine Ev.mk rfl rfl ⟨Nat.le_of_ble_eq_true rfl, Or.inr (q_rc hI331.1 kx_231 rfl)⟩ ?_
      show At _ none _ _ (0, [(0, .ref 231), (1, .int a2)], [], (_, _)) _
      refine At.enter rfl ?_
      refine r_iload_n rfl ?_
      refine q_i2l (fun v357 hv357 => ?_)
      refine r_lconst 0 rfl ?_
      refine r_aload_n rfl ?_
      refine q_getR (Sh.ref hI331.1 kx_231 rfl) ?_
      refine r_iconst 0 rfl ?_
      refine q_iald (Sh.arr hI331.1 ka_233) 0 rfl (by decide) v334 ((eA_c (gA_sI)).trans hv334) ?_
      refine q_i2l (fun v358 hv358 => ?_)
      refine r_lconst 1 rfl ?_
      refine q_lsub (v358.toInt - 1) rfl (by omega) (fun v359 hv359 => ?_)
      refine q_inlS 15 rfl [.long v357, .long 0, .long v359] [] (Nat.le_of_ble_eq_true rfl) rfl ?_
      refine Ev.mk rfl rfl ⟨Nat.le_of_ble_eq_true rfl, Or.inl rfl⟩ ?_
      show At _ none _ _ (0, [(0, .long v357), (2, .long 0), (4, .long v359)], [], (_, _)) _
      refine At.enter rfl ?_
      refine r_lload_n rfl ?_
      refine r_lload_n rfl ?_
      refine r_lcmp _ rfl ?_
      refine r_ifs 6 rfl (fun c360 => ?_) (fun c360 => ?_)
      · have c360_ : v357.toInt < 0 := en_j_lt_t c360
        refine At.enter rfl ?_
        refine r_iconst 0 rfl ?_
        refine Ar.fall 18 rfl ?_
        refine At.enter rfl ?_
        refine q_iretz (by decide) ?_
        refine At.enter rfl ?_
        refine q_iretz (by decide) ?_
        refine At.enter rfl ?_
        refine r_iff 21 rfl (by decide) ?_
        refine At.enter rfl ?_
        refine r_aload_n rfl ?_
        refine r_bipush (-2) rfl ?_
        refine r_callV 27 rfl [.ref 231, .int (-2)] [] (Nat.le_of_ble_eq_true rfl) rfl (T_X11_tell_231 _ hI331 (-2) (by decide)) ?_
        rintro _ _ ⟨g361, rfl, hI362, hF363, v364, rfl, hr365⟩
        refine At.sti ?_
        have hF366 := Fr.tr hF332 hF363 rfl rfl
        have zv367 : ((-2) : Int32).toInt = (-2) := rfl
        refine At.enter rfl ?_
        refine r_ireti ?_
        have x368 := HI.eqA hI362 (p := 233) (j := 0) ((((eA_c (hF363.2.1 233 (by decide))).trans (eA_c gA_sI)).trans hv334))
        have x369 := HI.eqA hI0 (p := 233) (j := 0) (hv334)
        exact ⟨_, rfl, hI362, hF366, _, rfl, by omega, (by omega)⟩
      · have c360_ : v357.toInt ≥ 0 := en_j_lt_f c360
        refine At.enter rfl ?_
        refine r_lload_n rfl ?_
        refine r_lload rfl ?_
        refine r_lcmp _ rfl ?_
        refine r_ifs 13 rfl (fun c370 => ?_) (fun c370 => ?_)
        · have c370_ : v357.toInt > v359.toInt := en_j_gt_t c370
          refine At.enter rfl ?_
          refine r_iconst 0 rfl ?_
          refine Ar.fall 18 rfl ?_
          refine At.enter rfl ?_
          refine q_iretz (by decide) ?_
          refine At.enter rfl ?_
          refine q_iretz (by decide) ?_
          refine At.enter rfl ?_
          refine r_iff 21 rfl (by decide) ?_
          refine At.enter rfl ?_
          refine r_aload_n rfl ?_
          refine r_bipush (-2) rfl ?_
          refine r_callV 27 rfl [.ref 231, .int (-2)] [] (Nat.le_of_ble_eq_true rfl) rfl (T_X11_tell_231 _ hI331 (-2) (by decide)) ?_
          rintro _ _ ⟨g371, rfl, hI372, hF373, v374, rfl, hr375⟩
          refine At.sti ?_
          have hF376 := Fr.tr hF332 hF373 rfl rfl
          have zv377 : ((-2) : Int32).toInt = (-2) := rfl
          refine At.enter rfl ?_
          refine r_ireti ?_
          have x378 := HI.eqA hI372 (p := 233) (j := 0) ((((eA_c (hF373.2.1 233 (by decide))).trans (eA_c gA_sI)).trans hv334))
          have x379 := HI.eqA hI0 (p := 233) (j := 0) (hv334)
          exact ⟨_, rfl, hI372, hF376, _, rfl, by omega, (by omega)⟩
        · have c370_ : v357.toInt ≤ v359.toInt := en_j_gt_f c370
          refine At.enter rfl ?_
          refine r_iconst 1 rfl ?_
          refine r_goto ?_
          refine At.enter rfl ?_
          refine q_iretz (by decide) ?_
          refine At.enter rfl ?_
          refine q_iretz (by decide) ?_
          refine At.enter rfl ?_
          refine r_ift (by decide) ?_
          refine At.enter rfl ?_
          refine r_iload_n rfl ?_
          refine r_iload_n rfl ?_
          refine r_ics 33 rfl (fun c380 => ?_) (fun c380 => ?_)
          · have c380_ : a1.toInt ≠ a2.toInt := en_i_ne_t c380
            refine At.enter rfl ?_
            refine r_iconst 1 rfl ?_
            refine r_istore_n ([(3, .int 1), (0, .ref 231), (1, .int a1), (2, .int a2)]) rfl ?_
            refine Ar.fall 42 rfl ?_
            have z_467 : (1 : Int32).toInt = 1 := rfl
            refine w_loopI (fun n_ l_ g_ => ∃ x454 : Int32, n_ = 3 - x454.toInt ∧ HI g_ ∧ Fr F_X11_swap_231 A_X11_swap_231 g0 g_ ∧ eA g_ 233 0 = v334 ∧ en_get 0 l_ = some (.ref 231) ∧ en_get 1 l_ = some (.int a1) ∧ en_get 2 l_ = some (.int a2) ∧ en_get 3 l_ = some (.int x454) ∧ (1 ≤ x454.toInt ∧ x454.toInt ≤ 3)) ?_ (3 - 1) ⟨1, by first | rfl | omega, hI331, hF332, ((eA_c gA_sI).trans hv334), rfl, rfl, rfl, rfl, by decide⟩
            rintro n459 l458 g455 ⟨x454, hm468, hI456, hF457, e461, e462, e463, e464, e465, r466⟩ ih460
            have tv469 := congrArg Int32.toInt e461
            refine At.enter rfl ?_
            refine r_iload_n e465 ?_
            refine r_iconst 3 rfl ?_
            refine r_ics 47 rfl (fun c470 => ?_) (fun c470 => ?_)
            · have c470_ : x454.toInt ≥ 3 := en_i_ge_t c470
              refine At.enter rfl ?_
              refine r_aload_n e462 ?_
              refine r_iconst 0 rfl ?_
              refine r_callV 114 rfl [.ref 231, .int 0] [] (Nat.le_of_ble_eq_true rfl) rfl (T_X11_tell_231 _ hI456 0 (by decide)) ?_
              rintro _ _ ⟨g471, rfl, hI472, hF473, v474, rfl, hr475⟩
              refine At.sti ?_
              have hF476 := Fr.tr hF457 hF473 rfl rfl
              have zv477 : (0 : Int32).toInt = 0 := rfl
              refine At.enter rfl ?_
              refine r_ireti ?_
              have x478 := HI.eqA hI472 (p := 233) (j := 0) (((eA_c (hF473.2.1 233 (by decide))).trans e461))
              have x479 := HI.eqA hI0 (p := 233) (j := 0) (hv334)
              exact ⟨_, rfl, hI472, hF476, _, rfl, by omega, (by omega)⟩
            · have c470_ : x454.toInt < 3 := en_i_ge_f c470
              refine At.enter rfl ?_
              refine r_aload_n e462 ?_
              refine q_getR (Sh.ref hI456.1 kx_231 rfl) ?_
              refine r_bipush 10 rfl ?_
              refine r_iconst 3 rfl ?_
              refine r_iload_n e463 ?_
              refine q_imul (3 * a1.toInt) rfl (by omega) (fun v480 hv480 => ?_)
              refine q_iadd (10 + v480.toInt) rfl (by omega) (fun v481 hv481 => ?_)
              refine r_iload_n e465 ?_
              refine q_iadd (v481.toInt + x454.toInt) rfl (by omega) (fun v482 hv482 => ?_)
              obtain ⟨v483, hv483⟩ : ∃ v, eA g455 233 (3 * a1.toInt + x454.toInt + 10) = v := ⟨_, rfl⟩
              have wv483 := HI.s12 hI456 (j := (3 * a1.toInt + x454.toInt + 10)) a1.toInt x454.toInt (by omega) (by omega) (by omega)
              rw [hv483] at wv483
              refine q_iald (Sh.arr hI456.1 ka_233) (3 * a1.toInt + x454.toInt + 10) (by omega) (by omega) v483 hv483 ?_
              refine r_istore _ rfl ?_
              refine r_aload_n (w_p1 (by decide) (Or.inr rfl) e462) ?_
              refine q_getR (Sh.ref hI456.1 kx_231 rfl) ?_
              refine r_bipush 10 rfl ?_
              refine r_iconst 3 rfl ?_
              refine r_iload_n (w_p1 (by decide) (Or.inr rfl) e463) ?_
              refine q_imul (3 * a1.toInt) rfl (by omega) (fun v484 hv484 => ?_)
              refine q_iadd (10 + v484.toInt) rfl (by omega) (fun v485 hv485 => ?_)
              refine r_iload_n (w_p1 (by decide) (Or.inr rfl) e465) ?_
              refine q_iadd (v485.toInt + x454.toInt) rfl (by omega) (fun v486 hv486 => ?_)
              refine r_aload_n (w_p1 (by decide) (Or.inr rfl) e462) ?_
              refine q_getR (Sh.ref hI456.1 kx_231 rfl) ?_
              refine r_bipush 10 rfl ?_
              refine r_iconst 3 rfl ?_
              refine r_iload_n (w_p1 (by decide) (Or.inr rfl) e464) ?_
              refine q_imul (3 * a2.toInt) rfl (by omega) (fun v487 hv487 => ?_)
              refine q_iadd (10 + v487.toInt) rfl (by omega) (fun v488 hv488 => ?_)
              refine r_iload_n (w_p1 (by decide) (Or.inr rfl) e465) ?_
              refine q_iadd (v488.toInt + x454.toInt) rfl (by omega) (fun v489 hv489 => ?_)
              obtain ⟨v490, hv490⟩ : ∃ v, eA g455 233 (3 * a2.toInt + x454.toInt + 10) = v := ⟨_, rfl⟩
              have wv490 := HI.s12 hI456 (j := (3 * a2.toInt + x454.toInt + 10)) a2.toInt x454.toInt (by omega) (by omega) (by omega)
              rw [hv490] at wv490
              refine q_iald (Sh.arr hI456.1 ka_233) (3 * a2.toInt + x454.toInt + 10) (by omega) (by omega) v490 hv490 ?_
              refine q_iast (Sh.arr hI456.1 ka_233) ((3 * a1.toInt + x454.toInt + 10)) (by omega) (by omega) ?_
              have hI491 := HI.ws hI456 (j := (3 * a1.toInt + x454.toInt + 10)) (v := v490) a1.toInt x454.toInt (by omega) (by omega) (by omega) (by omega)
              have hF492 := Fr.wA (p := 233) (j := (3 * a1.toInt + x454.toInt + 10)) (v := v490) hF457 rfl
              refine r_aload_n (w_p1 (by decide) (Or.inr rfl) e462) ?_
              refine q_getR (Sh.ref hI491.1 kx_231 rfl) ?_
              refine r_bipush 10 rfl ?_
              refine r_iconst 3 rfl ?_
              refine r_iload_n (w_p1 (by decide) (Or.inr rfl) e464) ?_
              refine q_imul (3 * a2.toInt) rfl (by omega) (fun v493 hv493 => ?_)
              refine q_iadd (10 + v493.toInt) rfl (by omega) (fun v494 hv494 => ?_)
              refine r_iload_n (w_p1 (by decide) (Or.inr rfl) e465) ?_
              refine q_iadd (v494.toInt + x454.toInt) rfl (by omega) (fun v495 hv495 => ?_)
              refine r_iload (w_e1 _ _ _) ?_
              refine q_iast (Sh.arr hI491.1 ka_233) ((3 * a2.toInt + x454.toInt + 10)) (by omega) (by omega) ?_
              have hI496 := HI.ws hI491 (j := (3 * a2.toInt + x454.toInt + 10)) (v := v483) a2.toInt x454.toInt (by omega) (by omega) (by omega) (by omega)
              have hF497 := Fr.wA (p := 233) (j := (3 * a2.toInt + x454.toInt + 10)) (v := v483) hF492 rfl
              refine q_iinc (w_p1 (by decide) (Or.inr rfl) e465) (x454.toInt + 1) rfl (by omega) (fun v498 hv498 => ?_)
              refine r_goto ?_
              exact ih460 (3 - v498.toInt) _ _ ⟨v498, by first | rfl | omega, hI496, hF497, (((eA_sA_ne hI491.1 ka_233 (by first | decide | omega) (by first | decide | omega) (by first | decide | omega)).trans (eA_sA_ne hI456.1 ka_233 (by first | decide | omega) (by first | decide | omega) (by first | decide | omega))).trans e461), (w_p1 (by decide) (Or.inr rfl) (w_p1 (by decide) (Or.inr rfl) e462)), (w_p1 (by decide) (Or.inr rfl) (w_p1 (by decide) (Or.inr rfl) e463)), (w_p1 (by decide) (Or.inr rfl) (w_p1 (by decide) (Or.inr rfl) e464)), (w_e1 _ _ _), by omega⟩ ⟨by omega, by omega⟩
          · have c380_ : a1.toInt = a2.toInt := en_i_ne_f c380
            refine At.enter rfl ?_
            refine r_aload_n rfl ?_
            refine r_bipush (-3) rfl ?_
            refine r_callV 39 rfl [.ref 231, .int (-3)] [] (Nat.le_of_ble_eq_true rfl) rfl (T_X11_tell_231 _ hI331 (-3) (by decide)) ?_
            rintro _ _ ⟨g499, rfl, hI500, hF501, v502, rfl, hr503⟩
            refine At.sti ?_
            have hF504 := Fr.tr hF332 hF501 rfl rfl
            have zv505 : ((-3) : Int32).toInt = (-3) := rfl
            refine At.enter rfl ?_
            refine r_ireti ?_
            have x506 := HI.eqA hI500 (p := 233) (j := 0) ((((eA_c (hF501.2.1 233 (by decide))).trans (eA_c gA_sI)).trans hv334))
            have x507 := HI.eqA hI0 (p := 233) (j := 0) (hv334)
            exact ⟨_, rfl, hI500, hF504, _, rfl, by omega, (by omega)⟩

def F_X11_sign_231 : List (Nat × Nat) := [(231, 0), (231, 1)]
def A_X11_sign_231 : List Nat := [232, 233]
set_option maxRecDepth 100000 in
set_option maxHeartbeats 4000000 in
theorem T_X11_sign_231 (d : Nat) {N : Nat} {g0 : List en_E} (hI0 : HI g0) (a1 : Int32) (a2 : Int32) : Ev (d + 3) 254 [.ref 231, .int a1, .int a2] (g0, N) (fun w h' => ∃ g', h' = (g', N) ∧ HI g' ∧ Fr F_X11_sign_231 A_X11_sign_231 g0 g' ∧ ∃ r : Int32, w = some (.int r) ∧ ((-5) ≤ r.toInt ∧ r.toInt ≤ 8) ∧ ((eA g' 233 0).toInt = (eA g0 233 0).toInt)) := by
  have hF0 : Fr F_X11_sign_231 A_X11_sign_231 g0 g0 := Fr.rf
  refine Ev.mk rfl rfl ⟨Nat.le_of_ble_eq_true rfl, Or.inr (q_rc hI0.1 kx_231 rfl)⟩ ?_
  show At _ none _ _ (0, [(0, .ref 231), (1, .int a1), (2, .int a2)], [], (_, _)) _
  refine At.enter rfl ?_
  refine r_aload_n rfl ?_
  refine r_iconst 0 rfl ?_
  refine q_putI (Sh.int hI0.1 kx_231 rfl) rfl ?_
  have hI135 := HI.wI0 hI0 kx_231 rfl (p := 231) (b := 0) (v := 0) rfl
  have hF136 := Fr.wI (p := 231) (b := 0) (v := 0) hF0 rfl
  refine r_iload_n rfl ?_
  refine q_i2l (fun v137 hv137 => ?_)
  refine r_lconst 0 rfl ?_
  refine r_ldc2 99 rfl ?_
  refine q_inlS 14 rfl [.long v137, .long 0, .long 99] [] (Nat.le_of_ble_eq_true rfl) rfl ?_
  refine Ev.mk rfl rfl ⟨Nat.le_of_ble_eq_true rfl, Or.inl rfl⟩ ?_
  show At _ none _ _ (0, [(0, .long v137), (2, .long 0), (4, .long 99)], [], (_, _)) _
  refine At.enter rfl ?_
  refine r_lload_n rfl ?_
  refine r_lload_n rfl ?_
  refine r_lcmp _ rfl ?_
  refine r_ifs 6 rfl (fun c138 => ?_) (fun c138 => ?_)
  · have c138_ : v137.toInt < 0 := en_j_lt_t c138
    refine At.enter rfl ?_
    refine r_iconst 0 rfl ?_
    refine Ar.fall 18 rfl ?_
    refine At.enter rfl ?_
    refine q_iretz (by decide) ?_
    refine At.enter rfl ?_
    refine r_iff 17 rfl (by decide) ?_
    refine At.enter rfl ?_
    refine r_aload_n rfl ?_
    refine r_iconst (-1) rfl ?_
    refine r_callV 22 rfl [.ref 231, .int (-1)] [] (Nat.le_of_ble_eq_true rfl) rfl (T_X11_tell_231 _ hI135 (-1) (by decide)) ?_
    rintro _ _ ⟨g139, rfl, hI140, hF141, v142, rfl, hr143⟩
    refine At.sti ?_
    have hF144 := Fr.tr hF136 hF141 rfl rfl
    have zv145 : ((-1) : Int32).toInt = (-1) := rfl
    refine At.enter rfl ?_
    refine r_ireti ?_
    obtain ⟨v146, hv146⟩ : ∃ v, eA g0 233 0 = v := ⟨_, rfl⟩
    have tv146 := congrArg Int32.toInt hv146
    have wv146 := HI.t0 hI0
    rw [hv146] at wv146
    have tv146 := congrArg Int32.toInt hv146
    have x147 := HI.eqA hI140 (p := 233) (j := 0) ((((eA_c (hF141.2.1 233 (by decide))).trans (eA_c gA_sI)).trans hv146))
    have x148 := HI.eqA hI0 (p := 233) (j := 0) (hv146)
    exact ⟨_, rfl, hI140, hF144, _, rfl, by omega, (by omega)⟩
  · have c138_ : v137.toInt ≥ 0 := en_j_lt_f c138
    refine At.enter rfl ?_
    refine r_lload_n rfl ?_
    refine r_lload rfl ?_
    refine r_lcmp _ rfl ?_
    refine r_ifs 13 rfl (fun c149 => ?_) (fun c149 => ?_)
    · have c149_ : v137.toInt > 99 := en_j_gt_t c149
      refine At.enter rfl ?_
      refine r_iconst 0 rfl ?_
      refine Ar.fall 18 rfl ?_
      refine At.enter rfl ?_
      refine q_iretz (by decide) ?_
      refine At.enter rfl ?_
      refine r_iff 17 rfl (by decide) ?_
      refine At.enter rfl ?_
      refine r_aload_n rfl ?_
      refine r_iconst (-1) rfl ?_
      refine r_callV 22 rfl [.ref 231, .int (-1)] [] (Nat.le_of_ble_eq_true rfl) rfl (T_X11_tell_231 _ hI135 (-1) (by decide)) ?_
      rintro _ _ ⟨g150, rfl, hI151, hF152, v153, rfl, hr154⟩
      refine At.sti ?_
      have hF155 := Fr.tr hF136 hF152 rfl rfl
      have zv156 : ((-1) : Int32).toInt = (-1) := rfl
      refine At.enter rfl ?_
      refine r_ireti ?_
      obtain ⟨v157, hv157⟩ : ∃ v, eA g0 233 0 = v := ⟨_, rfl⟩
      have tv157 := congrArg Int32.toInt hv157
      have wv157 := HI.t0 hI0
      rw [hv157] at wv157
      have tv157 := congrArg Int32.toInt hv157
      have x158 := HI.eqA hI151 (p := 233) (j := 0) ((((eA_c (hF152.2.1 233 (by decide))).trans (eA_c gA_sI)).trans hv157))
      have x159 := HI.eqA hI0 (p := 233) (j := 0) (hv157)
      exact ⟨_, rfl, hI151, hF155, _, rfl, by omega, (by omega)⟩
    · have c149_ : v137.toInt ≤ 99 := en_j_gt_f c149
      refine At.enter rfl ?_
      refine r_iconst 1 rfl ?_
      refine r_goto ?_
      refine At.enter rfl ?_
      refine q_iretz (by decide) ?_
      refine At.enter rfl ?_
      refine r_ift (by decide) ?_
      refine At.enter rfl ?_
      refine r_aload_n rfl ?_
      refine r_iload_n rfl ?_
      refine q_inlV 28 rfl [.ref 231, .int a1] [] (Nat.le_of_ble_eq_true rfl) rfl ?_
      refine Ev.mk rfl rfl ⟨Nat.le_of_ble_eq_true rfl, Or.inr (q_rc hI135.1 kx_231 rfl)⟩ ?_
      show At _ none _ _ (0, [(0, .ref 231), (1, .int a1)], [], (_, _)) _
      refine At.enter rfl ?_
      refine r_iload_n rfl ?_
      refine q_i2l (fun v160 hv160 => ?_)
      refine r_lconst 0 rfl ?_
      refine r_aload_n rfl ?_
      refine q_getR (Sh.ref hI135.1 kx_231 rfl) ?_
      refine r_iconst 0 rfl ?_
      obtain ⟨v161, hv161⟩ : ∃ v, eA g0 233 0 = v := ⟨_, rfl⟩
      have tv161 := congrArg Int32.toInt hv161
      have wv161 := HI.t0 hI0
      rw [hv161] at wv161
      refine q_iald (Sh.arr hI135.1 ka_233) 0 rfl (by decide) v161 ((eA_c (gA_sI)).trans hv161) ?_
      refine q_i2l (fun v162 hv162 => ?_)
      refine r_lconst 1 rfl ?_
      refine q_lsub (v162.toInt - 1) rfl (by omega) (fun v163 hv163 => ?_)
      refine q_inlS 15 rfl [.long v160, .long 0, .long v163] [] (Nat.le_of_ble_eq_true rfl) rfl ?_
      refine Ev.mk rfl rfl ⟨Nat.le_of_ble_eq_true rfl, Or.inl rfl⟩ ?_
      show At _ none _ _ (0, [(0, .long v160), (2, .long 0), (4, .long v163)], [], (_, _)) _
      refine At.enter rfl ?_
      refine r_lload_n rfl ?_
      refine r_lload_n rfl ?_
      refine r_lcmp _ rfl ?_
      refine r_ifs 6 rfl (fun c164 => ?_) (fun c164 => ?_)
      · have c164_ : v160.toInt < 0 := en_j_lt_t c164
        refine At.enter rfl ?_
        refine r_iconst 0 rfl ?_
        refine Ar.fall 18 rfl ?_
        refine At.enter rfl ?_
        refine q_iretz (by decide) ?_
        refine At.enter rfl ?_
        refine q_iretz (by decide) ?_
        refine At.enter rfl ?_
        refine r_iff 31 rfl (by decide) ?_
        refine At.enter rfl ?_
        refine r_aload_n rfl ?_
        refine r_bipush (-2) rfl ?_
        refine r_callV 37 rfl [.ref 231, .int (-2)] [] (Nat.le_of_ble_eq_true rfl) rfl (T_X11_tell_231 _ hI135 (-2) (by decide)) ?_
        rintro _ _ ⟨g165, rfl, hI166, hF167, v168, rfl, hr169⟩
        refine At.sti ?_
        have hF170 := Fr.tr hF136 hF167 rfl rfl
        have zv171 : ((-2) : Int32).toInt = (-2) := rfl
        refine At.enter rfl ?_
        refine r_ireti ?_
        have x172 := HI.eqA hI166 (p := 233) (j := 0) ((((eA_c (hF167.2.1 233 (by decide))).trans (eA_c gA_sI)).trans hv161))
        have x173 := HI.eqA hI0 (p := 233) (j := 0) (hv161)
        exact ⟨_, rfl, hI166, hF170, _, rfl, by omega, (by omega)⟩
      · have c164_ : v160.toInt ≥ 0 := en_j_lt_f c164
        refine At.enter rfl ?_
        refine r_lload_n rfl ?_
        refine r_lload rfl ?_
        refine r_lcmp _ rfl ?_
        refine r_ifs 13 rfl (fun c174 => ?_) (fun c174 => ?_)
        · have c174_ : v160.toInt > v163.toInt := en_j_gt_t c174
          refine At.enter rfl ?_
          refine r_iconst 0 rfl ?_
          refine Ar.fall 18 rfl ?_
          refine At.enter rfl ?_
          refine q_iretz (by decide) ?_
          refine At.enter rfl ?_
          refine q_iretz (by decide) ?_
          refine At.enter rfl ?_
          refine r_iff 31 rfl (by decide) ?_
          refine At.enter rfl ?_
          refine r_aload_n rfl ?_
          refine r_bipush (-2) rfl ?_
          refine r_callV 37 rfl [.ref 231, .int (-2)] [] (Nat.le_of_ble_eq_true rfl) rfl (T_X11_tell_231 _ hI135 (-2) (by decide)) ?_
          rintro _ _ ⟨g175, rfl, hI176, hF177, v178, rfl, hr179⟩
          refine At.sti ?_
          have hF180 := Fr.tr hF136 hF177 rfl rfl
          have zv181 : ((-2) : Int32).toInt = (-2) := rfl
          refine At.enter rfl ?_
          refine r_ireti ?_
          have x182 := HI.eqA hI176 (p := 233) (j := 0) ((((eA_c (hF177.2.1 233 (by decide))).trans (eA_c gA_sI)).trans hv161))
          have x183 := HI.eqA hI0 (p := 233) (j := 0) (hv161)
          exact ⟨_, rfl, hI176, hF180, _, rfl, by omega, (by omega)⟩
        · have c174_ : v160.toInt ≤ v163.toInt := en_j_gt_f c174
          refine At.enter rfl ?_
          refine r_iconst 1 rfl ?_
          refine r_goto ?_
          refine At.enter rfl ?_
          refine q_iretz (by decide) ?_
          refine At.enter rfl ?_
          refine q_iretz (by decide) ?_
          refine At.enter rfl ?_
          refine r_ift (by decide) ?_
          refine At.enter rfl ?_
          refine r_aload_n rfl ?_
          refine q_getR (Sh.ref hI135.1 kx_231 rfl) ?_
          refine r_iconst 4 rfl ?_
          obtain ⟨v184, hv184⟩ : ∃ v, eA g0 233 4 = v := ⟨_, rfl⟩
          have wv184 := HI.t4 hI0
          rw [hv184] at wv184
          refine q_iald (Sh.arr hI135.1 ka_233) 4 rfl (by decide) v184 ((eA_c (gA_sI)).trans hv184) ?_
          refine r_istore_n ([(3, .int v184), (0, .ref 231), (1, .int a1), (2, .int a2)]) rfl ?_
          refine r_iload_n rfl ?_
          refine r_bipush 8 rfl ?_
          refine r_ics 51 rfl (fun c185 => ?_) (fun c185 => ?_)
          · have c185_ : v184.toInt ≠ 8 := en_i_ne_t c185
            refine At.enter rfl ?_
            refine r_aload_n rfl ?_
            refine q_getR (Sh.ref hI135.1 kx_231 rfl) ?_
            refine r_bipush 94 rfl ?_
            refine r_iconst 2 rfl ?_
            refine r_iload_n rfl ?_
            refine q_imul (2 * v184.toInt) rfl (by omega) (fun v186 hv186 => ?_)
            refine q_iadd (94 + v186.toInt) rfl (by omega) (fun v187 hv187 => ?_)
            refine r_iload_n rfl ?_
            refine q_iast (Sh.arr hI135.1 ka_233) ((2 * v184.toInt + 94)) (by omega) (by omega) ?_
            have hI188 := HI.wg hI135 (j := (2 * v184.toInt + 94)) (v := a1) (v184.toInt) 0 (by omega) (by decide) (by omega) (by omega)
            have hF189 := Fr.wA (p := 233) (j := (2 * v184.toInt + 94)) (v := a1) hF136 rfl
            refine r_aload_n rfl ?_
            refine q_getR (Sh.ref hI188.1 kx_231 rfl) ?_
            refine r_bipush 94 rfl ?_
            refine r_iconst 2 rfl ?_
            refine r_iload_n rfl ?_
            refine q_imul (2 * v184.toInt) rfl (by omega) (fun v190 hv190 => ?_)
            refine q_iadd (94 + v190.toInt) rfl (by omega) (fun v191 hv191 => ?_)
            refine r_iconst 1 rfl ?_
            refine q_iadd (v191.toInt + 1) rfl (by omega) (fun v192 hv192 => ?_)
            refine r_iload_n rfl ?_
            refine q_iast (Sh.arr hI188.1 ka_233) ((2 * v184.toInt + 95)) (by omega) (by omega) ?_
            have hI193 := HI.wg hI188 (j := (2 * v184.toInt + 95)) (v := a2) (v184.toInt) 1 (by omega) (by decide) (by omega) (by omega)
            have hF194 := Fr.wA (p := 233) (j := (2 * v184.toInt + 95)) (v := a2) hF189 rfl
            refine r_aload_n rfl ?_
            refine q_getR (Sh.ref hI193.1 kx_231 rfl) ?_
            refine r_iconst 4 rfl ?_
            refine r_dup2 ⟨rfl, rfl⟩ ?_
            refine q_iald (Sh.arr hI193.1 ka_233) 4 rfl (by decide) v184 (((eA_sA_ne hI188.1 ka_233 (by first | decide | omega) (by first | decide | omega) (by first | decide | omega)).trans ((eA_sA_ne hI135.1 ka_233 (by first | decide | omega) (by first | decide | omega) (by first | decide | omega)).trans (eA_c gA_sI))).trans hv184) ?_
            refine r_iconst 1 rfl ?_
            refine q_iadd (v184.toInt + 1) rfl (by omega) (fun v195 hv195 => ?_)
            refine q_iast (Sh.arr hI193.1 ka_233) (4) rfl (by decide) ?_
            have hI196 := HI.wt hI193 (j := 4) (v := v195) (by omega) (by omega)
            have hF197 := Fr.wA (p := 233) (j := 4) (v := v195) hF194 rfl
            refine r_aload_n rfl ?_
            refine r_iload_n rfl ?_
            refine r_iconst 1 rfl ?_
            refine q_iadd (v184.toInt + 1) rfl (by omega) (fun v198 hv198 => ?_)
            refine r_callV 101 rfl [.ref 231, .int v198] [] (Nat.le_of_ble_eq_true rfl) rfl (T_X11_tell_231 _ hI196 v198 (by omega)) ?_
            rintro _ _ ⟨g199, rfl, hI200, hF201, v202, rfl, hr203⟩
            refine At.sti ?_
            have hF204 := Fr.tr hF197 hF201 rfl rfl
            refine At.enter rfl ?_
            refine r_ireti ?_
            have x205 := HI.eqA hI200 (p := 233) (j := 0) ((((eA_c (hF201.2.1 233 (by decide))).trans ((eA_sA_ne hI193.1 ka_233 (by first | decide | omega) (by first | decide | omega) (by first | decide | omega)).trans ((eA_sA_ne hI188.1 ka_233 (by first | decide | omega) (by first | decide | omega) (by first | decide | omega)).trans ((eA_sA_ne hI135.1 ka_233 (by first | decide | omega) (by first | decide | omega) (by first | decide | omega)).trans (eA_c gA_sI))))).trans hv161))
            have x206 := HI.eqA hI0 (p := 233) (j := 0) (hv161)
            exact ⟨_, rfl, hI200, hF204, _, rfl, by omega, (by omega)⟩
          · have c185_ : v184.toInt = 8 := en_i_ne_f c185
            refine At.enter rfl ?_
            refine r_aload_n rfl ?_
            refine r_bipush (-5) rfl ?_
            refine r_callV 57 rfl [.ref 231, .int (-5)] [] (Nat.le_of_ble_eq_true rfl) rfl (T_X11_tell_231 _ hI135 (-5) (by decide)) ?_
            rintro _ _ ⟨g207, rfl, hI208, hF209, v210, rfl, hr211⟩
            refine At.sti ?_
            have hF212 := Fr.tr hF136 hF209 rfl rfl
            have zv213 : ((-5) : Int32).toInt = (-5) := rfl
            refine At.enter rfl ?_
            refine r_ireti ?_
            have x214 := HI.eqA hI208 (p := 233) (j := 0) ((((eA_c (hF209.2.1 233 (by decide))).trans (eA_c gA_sI)).trans hv161))
            have x215 := HI.eqA hI0 (p := 233) (j := 0) (hv161)
            exact ⟨_, rfl, hI208, hF212, _, rfl, by omega, (by omega)⟩

def F_X11_clear_231 : List (Nat × Nat) := [(231, 0)]
def A_X11_clear_231 : List Nat := [233]
set_option maxRecDepth 100000 in
set_option maxHeartbeats 4000000 in
theorem T_X11_clear_231 (d : Nat) {N : Nat} {g0 : List en_E} (hI0 : HI g0) : Ev (d + 1) 255 [.ref 231] (g0, N) (fun w h' => ∃ g', h' = (g', N) ∧ HI g' ∧ Fr F_X11_clear_231 A_X11_clear_231 g0 g' ∧ ∃ r : Int32, w = some (.int r) ∧ (0 ≤ r.toInt ∧ r.toInt ≤ 8) ∧ ((eA g' 233 0).toInt = (eA g0 233 0).toInt)) := by
  have hF0 : Fr F_X11_clear_231 A_X11_clear_231 g0 g0 := Fr.rf
  refine Ev.mk rfl rfl ⟨Nat.le_of_ble_eq_true rfl, Or.inr (q_rc hI0.1 kx_231 rfl)⟩ ?_
  show At _ none _ _ (0, [(0, .ref 231)], [], (_, _)) _
  refine At.enter rfl ?_
  refine r_aload_n rfl ?_
  refine r_iconst 0 rfl ?_
  refine q_putI (Sh.int hI0.1 kx_231 rfl) rfl ?_
  have hI13 := HI.wI0 hI0 kx_231 rfl (p := 231) (b := 0) (v := 0) rfl
  have hF14 := Fr.wI (p := 231) (b := 0) (v := 0) hF0 rfl
  refine r_aload_n rfl ?_
  refine q_getR (Sh.ref hI13.1 kx_231 rfl) ?_
  refine r_iconst 4 rfl ?_
  obtain ⟨v15, hv15⟩ : ∃ v, eA g0 233 4 = v := ⟨_, rfl⟩
  have wv15 := HI.t4 hI0
  rw [hv15] at wv15
  refine q_iald (Sh.arr hI13.1 ka_233) 4 rfl (by decide) v15 ((eA_c (gA_sI)).trans hv15) ?_
  refine r_istore_n ([(1, .int v15), (0, .ref 231)]) rfl ?_
  refine r_aload_n rfl ?_
  refine q_getR (Sh.ref hI13.1 kx_231 rfl) ?_
  refine r_iconst 4 rfl ?_
  refine r_iconst 0 rfl ?_
  refine q_iast (Sh.arr hI13.1 ka_233) (4) rfl (by decide) ?_
  have zv18 : (0 : Int32).toInt = 0 := rfl
  have hI16 := HI.wt hI13 (j := 4) (v := 0) (by omega) (by omega)
  have hF17 := Fr.wA (p := 233) (j := 4) (v := 0) hF14 rfl
  refine r_iload_n rfl ?_
  refine r_ireti ?_
  obtain ⟨v19, hv19⟩ : ∃ v, eA g0 233 0 = v := ⟨_, rfl⟩
  have tv19 := congrArg Int32.toInt hv19
  have wv19 := HI.t0 hI0
  rw [hv19] at wv19
  have tv19 := congrArg Int32.toInt hv19
  have x20 := HI.eqA hI16 (p := 233) (j := 0) ((((eA_sA_ne hI13.1 ka_233 (by first | decide | omega) (by first | decide | omega) (by first | decide | omega)).trans (eA_c gA_sI)).trans hv19))
  have x21 := HI.eqA hI0 (p := 233) (j := 0) (hv19)
  exact ⟨_, rfl, hI16, hF17, _, rfl, by omega, (by omega)⟩

def F_X11_row_231 : List (Nat × Nat) := [(231, 0), (231, 1), (231, 6), (231, 8)]
def A_X11_row_231 : List Nat := [232, 233]
set_option maxRecDepth 100000 in
set_option maxHeartbeats 4000000 in
theorem T_X11_row_231 (d : Nat) {N : Nat} {g0 : List en_E} (hI0 : HI g0) : Ev (d + 3) 182 [.ref 231] (g0, N) (fun w h' => ∃ g', h' = (g', N) ∧ HI g' ∧ Fr F_X11_row_231 A_X11_row_231 g0 g' ∧ ∃ r : Int32, w = some (.int r) ∧ ((-6) ≤ r.toInt ∧ r.toInt ≤ 400) ∧ ((eA g' 233 0).toInt = (eA g0 233 0).toInt)) := by
  have hF0 : Fr F_X11_row_231 A_X11_row_231 g0 g0 := Fr.rf
  refine Ev.mk rfl rfl ⟨Nat.le_of_ble_eq_true rfl, Or.inr (q_rc hI0.1 kx_231 rfl)⟩ ?_
  show At _ none _ _ (0, [(0, .ref 231)], [], (_, _)) _
  refine At.enter rfl ?_
  refine r_aload_n rfl ?_
  refine r_iconst 0 rfl ?_
  refine q_putI (Sh.int hI0.1 kx_231 rfl) rfl ?_
  have hI7755 := HI.wI0 hI0 kx_231 rfl (p := 231) (b := 0) (v := 0) rfl
  have hF7756 := Fr.wI (p := 231) (b := 0) (v := 0) hF0 rfl
  refine r_aload_n rfl ?_
  obtain ⟨v7757, hv7757⟩ : ∃ v, gI g0 231 8 = v := ⟨_, rfl⟩
  have rv7757 := RgF.at hI0.2.1 (p := 231) (b := 8) rfl
  rw [hv7757] at rv7757
  dsimp only at rv7757
  refine q_getI (Sh.int hI7755.1 kx_231 rfl) v7757 ((gI_sI_ne (by decide)).trans hv7757) ?_
  refine r_istore_n ([(1, .int v7757), (0, .ref 231)]) rfl ?_
  refine r_aload_n rfl ?_
  refine r_iconst 0 rfl ?_
  refine q_putI (Sh.int hI7755.1 kx_231 rfl) rfl ?_
  have hI7758 := HI.wI1 hI7755 kx_231 rfl (p := 231) (b := 8) (v := 0) rfl (by decide)
  have hF7759 := Fr.wI (p := 231) (b := 8) (v := 0) hF7756 rfl
  refine r_iload_n rfl ?_
  refine r_ifs 19 rfl (fun c7760 => ?_) (fun c7760 => ?_)
  · have c7760_ : v7757.toInt ≠ 0 := en_k_ne_t c7760
    refine At.enter rfl ?_
    refine r_aload_n rfl ?_
    refine r_iconst 0 rfl ?_
    refine q_putI (Sh.int hI7758.1 kx_231 rfl) rfl ?_
    have hI7761 := HI.wI0 hI7758 kx_231 rfl (p := 231) (b := 6) (v := 0) rfl
    have hF7762 := Fr.wI (p := 231) (b := 6) (v := 0) hF7759 rfl
    refine r_iconst 0 rfl ?_
    refine r_istore_n ([(2, .int 0), (1, .int v7757), (0, .ref 231)]) rfl ?_
    refine r_iconst 0 rfl ?_
    refine r_istore_n ([(3, .int 0), (2, .int 0), (1, .int v7757), (0, .ref 231)]) rfl ?_
    refine Ar.fall 35 rfl ?_
    obtain ⟨v7763, hv7763⟩ : ∃ v, eA g0 233 0 = v := ⟨_, rfl⟩
    have tv7763 := congrArg Int32.toInt hv7763
    have wv7763 := HI.t0 hI0
    rw [hv7763] at wv7763
    have tv7763 := congrArg Int32.toInt hv7763
    have z_11470 : (0 : Int32).toInt = 0 := rfl
    have z_11471 : (0 : Int32).toInt = 0 := rfl
    refine w_loopI (fun n_ l_ g_ => ∃ x11454 : Int32, ∃ x11455 : Int32, n_ = 405 - x11455.toInt ∧ HI g_ ∧ Fr F_X11_row_231 A_X11_row_231 g0 g_ ∧ eA g_ 233 0 = v7763 ∧ en_get 0 l_ = some (.ref 231) ∧ en_get 1 l_ = some (.int v7757) ∧ en_get 2 l_ = some (.int x11454) ∧ en_get 3 l_ = some (.int x11455) ∧ (0 ≤ x11454.toInt ∧ x11454.toInt ≤ 400) ∧ (0 ≤ x11455.toInt ∧ x11455.toInt ≤ 405) ∧ (x11454.toInt ≤ x11455.toInt)) ?_ (405 - 0) ⟨0, 0, by first | rfl | omega, hI7761, hF7762, (((eA_c gA_sI).trans ((eA_c gA_sI).trans (eA_c gA_sI))).trans hv7763), rfl, rfl, rfl, rfl, by decide, by decide, by omega⟩
    rintro n11460 l11459 g11456 ⟨x11454, x11455, hm11472, hI11457, hF11458, e11462, e11463, e11464, e11465, e11466, r11467, r11468, q11469⟩ ih11461
    have tv11473 := congrArg Int32.toInt e11462
    refine At.enter rfl ?_
    refine r_iload_n e11466 ?_
    refine r_iload_n e11464 ?_
    have bv11475 := q_bnd x11455
    have bv11476 := q_bnd v7757
    refine r_ics 40 rfl (fun c11474 => ?_) (fun c11474 => ?_)
    · have c11474_ : x11455.toInt ≥ v7757.toInt := en_i_ge_t c11474
      refine At.enter rfl ?_
      refine r_aload_n e11463 ?_
      refine r_iload_n e11465 ?_
      refine r_callV 225 rfl [.ref 231, .int x11454] [] (Nat.le_of_ble_eq_true rfl) rfl (T_X11_tell_231 _ hI11457 x11454 (by omega)) ?_
      rintro _ _ ⟨g11477, rfl, hI11478, hF11479, v11480, rfl, hr11481⟩
      refine At.sti ?_
      have hF11482 := Fr.tr hF11458 hF11479 rfl rfl
      refine At.enter rfl ?_
      refine r_ireti ?_
      have x11483 := HI.eqA hI11478 (p := 233) (j := 0) (((eA_c (hF11479.2.1 233 (by decide))).trans e11462))
      have x11484 := HI.eqA hI0 (p := 233) (j := 0) (hv7763)
      exact ⟨_, rfl, hI11478, hF11482, _, rfl, by omega, (by omega)⟩
    · have c11474_ : x11455.toInt < v7757.toInt := en_i_ge_f c11474
      refine At.enter rfl ?_
      refine r_iload_n e11466 ?_
      refine r_iconst 5 rfl ?_
      refine q_iadd (x11455.toInt + 5) rfl (by omega) (fun v11485 hv11485 => ?_)
      refine r_iload_n e11464 ?_
      have bv11487 := q_bnd v11485
      refine r_ics 47 rfl (fun c11486 => ?_) (fun c11486 => ?_)
      · have c11486_ : v11485.toInt ≥ v7757.toInt := en_i_ge_t c11486
        refine At.enter rfl ?_
        refine r_iconst 0 rfl ?_
        refine Ar.fall 63 rfl ?_
        refine At.enter rfl ?_
        refine r_istore _ rfl ?_
        refine r_iload (w_e1 _ _ _) ?_
        refine r_ift (by decide) ?_
        refine At.enter rfl ?_
        refine r_iconst 0 rfl ?_
        refine Ar.fall 141 rfl ?_
        refine At.enter rfl ?_
        refine r_istore _ rfl ?_
        refine r_iload (w_e1 _ _ _) ?_
        refine r_ift (by decide) ?_
        refine At.enter rfl ?_
        refine r_aload_n (w_p1 (by decide) (Or.inr rfl) (w_p1 (by decide) (Or.inr rfl) e11463)) ?_
        refine r_dup rfl ?_
        obtain ⟨v11488, hv11488⟩ : ∃ v, gI g11456 231 6 = v := ⟨_, rfl⟩
        refine q_getI (Sh.int hI11457.1 kx_231 rfl) v11488 hv11488 ?_
        refine r_iconst 1 rfl ?_
        refine q_iaddO (fun v11489 _ => ?_)
        refine q_putI (Sh.int hI11457.1 kx_231 rfl) rfl ?_
        have hI11490 := HI.wI0 hI11457 kx_231 rfl (p := 231) (b := 6) (v := v11489) rfl
        have hF11491 := Fr.wI (p := 231) (b := 6) (v := v11489) hF11458 rfl
        refine Ar.fall 214 rfl ?_
        refine At.enter rfl ?_
        refine q_iinc (w_p1 (by decide) (Or.inr rfl) (w_p1 (by decide) (Or.inr rfl) e11466)) (x11455.toInt + 6) rfl (by omega) (fun v11492 hv11492 => ?_)
        refine r_goto ?_
        exact ih11461 (405 - v11492.toInt) _ _ ⟨x11454, v11492, by first | rfl | omega, hI11490, hF11491, ((eA_c gA_sI).trans e11462), (w_p1 (by decide) (Or.inr rfl) (w_p1 (by decide) (Or.inr rfl) (w_p1 (by decide) (Or.inr rfl) e11463))), (w_p1 (by decide) (Or.inr rfl) (w_p1 (by decide) (Or.inr rfl) (w_p1 (by decide) (Or.inr rfl) e11464))), (w_p1 (by decide) (Or.inr rfl) (w_p1 (by decide) (Or.inr rfl) (w_p1 (by decide) (Or.inr rfl) e11465))), (w_e1 _ _ _), by omega, by omega, by omega⟩ ⟨by omega, by omega⟩
      · have c11486_ : v11485.toInt < v7757.toInt := en_i_ge_f c11486
        refine At.enter rfl ?_
        refine r_aload_n e11463 ?_
        refine q_getR (Sh.ref hI11457.1 kx_231 rfl) ?_
        refine r_iconst 1 rfl ?_
        obtain ⟨v11493, hv11493⟩ : ∃ v, eA g11456 233 1 = v := ⟨_, rfl⟩
        have tv11493 := congrArg Int32.toInt hv11493
        have wv11493 := HI.t1 hI11457
        rw [hv11493] at wv11493
        refine q_iald (Sh.arr hI11457.1 ka_233) 1 rfl (by decide) v11493 hv11493 ?_
        refine r_bipush 8 rfl ?_
        refine r_ics 58 rfl (fun c11494 => ?_) (fun c11494 => ?_)
        · have c11494_ : v11493.toInt ≥ 8 := en_i_ge_t c11494
          refine At.enter rfl ?_
          refine r_iconst 0 rfl ?_
          refine Ar.fall 63 rfl ?_
          refine At.enter rfl ?_
          refine r_istore _ rfl ?_
          refine r_iload (w_e1 _ _ _) ?_
          refine r_ift (by decide) ?_
          refine At.enter rfl ?_
          refine r_iconst 0 rfl ?_
          refine Ar.fall 141 rfl ?_
          refine At.enter rfl ?_
          refine r_istore _ rfl ?_
          refine r_iload (w_e1 _ _ _) ?_
          refine r_ift (by decide) ?_
          refine At.enter rfl ?_
          refine r_aload_n (w_p1 (by decide) (Or.inr rfl) (w_p1 (by decide) (Or.inr rfl) e11463)) ?_
          refine r_dup rfl ?_
          obtain ⟨v11495, hv11495⟩ : ∃ v, gI g11456 231 6 = v := ⟨_, rfl⟩
          refine q_getI (Sh.int hI11457.1 kx_231 rfl) v11495 hv11495 ?_
          refine r_iconst 1 rfl ?_
          refine q_iaddO (fun v11496 _ => ?_)
          refine q_putI (Sh.int hI11457.1 kx_231 rfl) rfl ?_
          have hI11497 := HI.wI0 hI11457 kx_231 rfl (p := 231) (b := 6) (v := v11496) rfl
          have hF11498 := Fr.wI (p := 231) (b := 6) (v := v11496) hF11458 rfl
          refine Ar.fall 214 rfl ?_
          refine At.enter rfl ?_
          refine q_iinc (w_p1 (by decide) (Or.inr rfl) (w_p1 (by decide) (Or.inr rfl) e11466)) (x11455.toInt + 6) rfl (by omega) (fun v11499 hv11499 => ?_)
          refine r_goto ?_
          exact ih11461 (405 - v11499.toInt) _ _ ⟨x11454, v11499, by first | rfl | omega, hI11497, hF11498, ((eA_c gA_sI).trans e11462), (w_p1 (by decide) (Or.inr rfl) (w_p1 (by decide) (Or.inr rfl) (w_p1 (by decide) (Or.inr rfl) e11463))), (w_p1 (by decide) (Or.inr rfl) (w_p1 (by decide) (Or.inr rfl) (w_p1 (by decide) (Or.inr rfl) e11464))), (w_p1 (by decide) (Or.inr rfl) (w_p1 (by decide) (Or.inr rfl) (w_p1 (by decide) (Or.inr rfl) e11465))), (w_e1 _ _ _), by omega, by omega, by omega⟩ ⟨by omega, by omega⟩
        · have c11494_ : v11493.toInt < 8 := en_i_ge_f c11494
          refine At.enter rfl ?_
          refine r_iconst 1 rfl ?_
          refine r_goto ?_
          refine At.enter rfl ?_
          refine r_istore _ rfl ?_
          refine r_iload (w_e1 _ _ _) ?_
          refine r_iff 70 rfl (by decide) ?_
          refine At.enter rfl ?_
          refine r_aload_n (w_p1 (by decide) (Or.inr rfl) e11463) ?_
          refine q_getR (Sh.ref hI11457.1 kx_231 rfl) ?_
          refine r_iload_n (w_p1 (by decide) (Or.inr rfl) e11466) ?_
          obtain ⟨v11500, hv11500⟩ : ∃ v, eA g0 236 x11455.toInt = v := ⟨_, rfl⟩
          refine q_iald (Sh.arr hI11457.1 ka_236) x11455.toInt rfl (by omega) v11500 ((eA_c (hF11458.2.1 236 (by decide))).trans hv11500) ?_
          refine r_aload_n (w_p1 (by decide) (Or.inr rfl) e11463) ?_
          refine q_getR (Sh.ref hI11457.1 kx_231 rfl) ?_
          refine r_iload_n (w_p1 (by decide) (Or.inr rfl) e11466) ?_
          refine r_iconst 3 rfl ?_
          refine q_iadd (x11455.toInt + 3) rfl (by omega) (fun v11501 hv11501 => ?_)
          obtain ⟨v11502, hv11502⟩ : ∃ v, eA g0 236 (x11455.toInt + 3) = v := ⟨_, rfl⟩
          refine q_iald (Sh.arr hI11457.1 ka_236) (x11455.toInt + 3) (by omega) (by omega) v11502 ((eA_c (hF11458.2.1 236 (by decide))).trans hv11502) ?_
          refine r_aload_n (w_p1 (by decide) (Or.inr rfl) e11463) ?_
          refine q_getR (Sh.ref hI11457.1 kx_231 rfl) ?_
          refine r_iload_n (w_p1 (by decide) (Or.inr rfl) e11466) ?_
          refine r_iconst 4 rfl ?_
          refine q_iadd (x11455.toInt + 4) rfl (by omega) (fun v11503 hv11503 => ?_)
          obtain ⟨v11504, hv11504⟩ : ∃ v, eA g0 236 (x11455.toInt + 4) = v := ⟨_, rfl⟩
          refine q_iald (Sh.arr hI11457.1 ka_236) (x11455.toInt + 4) (by omega) (by omega) v11504 ((eA_c (hF11458.2.1 236 (by decide))).trans hv11504) ?_
          refine r_aload_n (w_p1 (by decide) (Or.inr rfl) e11463) ?_
          refine q_getR (Sh.ref hI11457.1 kx_231 rfl) ?_
          refine r_iload_n (w_p1 (by decide) (Or.inr rfl) e11466) ?_
          refine r_iconst 5 rfl ?_
          refine q_iadd (x11455.toInt + 5) rfl (by omega) (fun v11505 hv11505 => ?_)
          obtain ⟨v11506, hv11506⟩ : ∃ v, eA g0 236 (x11455.toInt + 5) = v := ⟨_, rfl⟩
          refine q_iald (Sh.arr hI11457.1 ka_236) (x11455.toInt + 5) (by omega) (by omega) v11506 ((eA_c (hF11458.2.1 236 (by decide))).trans hv11506) ?_
          refine q_inlS 103 rfl [.int v11500, .int v11502, .int v11504, .int v11506] [] (Nat.le_of_ble_eq_true rfl) rfl ?_
          refine Ev.mk rfl rfl ⟨Nat.le_of_ble_eq_true rfl, Or.inl rfl⟩ ?_
          show At _ none _ _ (0, [(0, .int v11500), (1, .int v11502), (2, .int v11504), (3, .int v11506)], [], (_, _)) _
          refine At.enter rfl ?_
          refine r_iload_n rfl ?_
          refine q_i2l (fun v11507 hv11507 => ?_)
          refine r_lconst 1 rfl ?_
          refine r_ldc2 9 rfl ?_
          refine q_inlS 9 rfl [.long v11507, .long 1, .long 9] [] (Nat.le_of_ble_eq_true rfl) rfl ?_
          refine Ev.mk rfl rfl ⟨Nat.le_of_ble_eq_true rfl, Or.inl rfl⟩ ?_
          show At _ none _ _ (0, [(0, .long v11507), (2, .long 1), (4, .long 9)], [], (_, _)) _
          refine At.enter rfl ?_
          refine r_lload_n rfl ?_
          refine r_lload_n rfl ?_
          refine r_lcmp _ rfl ?_
          refine r_ifs 6 rfl (fun c11508 => ?_) (fun c11508 => ?_)
          · have c11508_ : v11507.toInt < 1 := en_j_lt_t c11508
            refine At.enter rfl ?_
            refine r_iconst 0 rfl ?_
            refine Ar.fall 18 rfl ?_
            refine At.enter rfl ?_
            refine q_iretz (by decide) ?_
            refine At.enter rfl ?_
            refine r_ift (by decide) ?_
            refine At.enter rfl ?_
            refine r_iconst 0 rfl ?_
            refine Ar.fall 53 rfl ?_
            refine At.enter rfl ?_
            refine q_iretz (by decide) ?_
            refine At.enter rfl ?_
            refine r_ift (by decide) ?_
            refine At.enter rfl ?_
            refine r_iconst 0 rfl ?_
            refine Ar.fall 141 rfl ?_
            refine At.enter rfl ?_
            refine r_istore _ rfl ?_
            refine r_iload (w_e1 _ _ _) ?_
            refine r_ift (by decide) ?_
            refine At.enter rfl ?_
            refine r_aload_n (w_p1 (by decide) (Or.inr rfl) (w_p1 (by decide) (Or.inr rfl) e11463)) ?_
            refine r_dup rfl ?_
            obtain ⟨v11509, hv11509⟩ : ∃ v, gI g11456 231 6 = v := ⟨_, rfl⟩
            refine q_getI (Sh.int hI11457.1 kx_231 rfl) v11509 hv11509 ?_
            refine r_iconst 1 rfl ?_
            refine q_iaddO (fun v11510 _ => ?_)
            refine q_putI (Sh.int hI11457.1 kx_231 rfl) rfl ?_
            have hI11511 := HI.wI0 hI11457 kx_231 rfl (p := 231) (b := 6) (v := v11510) rfl
            have hF11512 := Fr.wI (p := 231) (b := 6) (v := v11510) hF11458 rfl
            refine Ar.fall 214 rfl ?_
            refine At.enter rfl ?_
            refine q_iinc (w_p1 (by decide) (Or.inr rfl) (w_p1 (by decide) (Or.inr rfl) e11466)) (x11455.toInt + 6) rfl (by omega) (fun v11513 hv11513 => ?_)
            refine r_goto ?_
            exact ih11461 (405 - v11513.toInt) _ _ ⟨x11454, v11513, by first | rfl | omega, hI11511, hF11512, ((eA_c gA_sI).trans e11462), (w_p1 (by decide) (Or.inr rfl) (w_p1 (by decide) (Or.inr rfl) (w_p1 (by decide) (Or.inr rfl) e11463))), (w_p1 (by decide) (Or.inr rfl) (w_p1 (by decide) (Or.inr rfl) (w_p1 (by decide) (Or.inr rfl) e11464))), (w_p1 (by decide) (Or.inr rfl) (w_p1 (by decide) (Or.inr rfl) (w_p1 (by decide) (Or.inr rfl) e11465))), (w_e1 _ _ _), by omega, by omega, by omega⟩ ⟨by omega, by omega⟩
          · have c11508_ : v11507.toInt ≥ 1 := en_j_lt_f c11508
            refine At.enter rfl ?_
            refine r_lload_n rfl ?_
            refine r_lload rfl ?_
            refine r_lcmp _ rfl ?_
            refine r_ifs 13 rfl (fun c11514 => ?_) (fun c11514 => ?_)
            · have c11514_ : v11507.toInt > 9 := en_j_gt_t c11514
              refine At.enter rfl ?_
              refine r_iconst 0 rfl ?_
              refine Ar.fall 18 rfl ?_
              refine At.enter rfl ?_
              refine q_iretz (by decide) ?_
              refine At.enter rfl ?_
              refine r_ift (by decide) ?_
              refine At.enter rfl ?_
              refine r_iconst 0 rfl ?_
              refine Ar.fall 53 rfl ?_
              refine At.enter rfl ?_
              refine q_iretz (by decide) ?_
              refine At.enter rfl ?_
              refine r_ift (by decide) ?_
              refine At.enter rfl ?_
              refine r_iconst 0 rfl ?_
              refine Ar.fall 141 rfl ?_
              refine At.enter rfl ?_
              refine r_istore _ rfl ?_
              refine r_iload (w_e1 _ _ _) ?_
              refine r_ift (by decide) ?_
              refine At.enter rfl ?_
              refine r_aload_n (w_p1 (by decide) (Or.inr rfl) (w_p1 (by decide) (Or.inr rfl) e11463)) ?_
              refine r_dup rfl ?_
              obtain ⟨v11515, hv11515⟩ : ∃ v, gI g11456 231 6 = v := ⟨_, rfl⟩
              refine q_getI (Sh.int hI11457.1 kx_231 rfl) v11515 hv11515 ?_
              refine r_iconst 1 rfl ?_
              refine q_iaddO (fun v11516 _ => ?_)
              refine q_putI (Sh.int hI11457.1 kx_231 rfl) rfl ?_
              have hI11517 := HI.wI0 hI11457 kx_231 rfl (p := 231) (b := 6) (v := v11516) rfl
              have hF11518 := Fr.wI (p := 231) (b := 6) (v := v11516) hF11458 rfl
              refine Ar.fall 214 rfl ?_
              refine At.enter rfl ?_
              refine q_iinc (w_p1 (by decide) (Or.inr rfl) (w_p1 (by decide) (Or.inr rfl) e11466)) (x11455.toInt + 6) rfl (by omega) (fun v11519 hv11519 => ?_)
              refine r_goto ?_
              exact ih11461 (405 - v11519.toInt) _ _ ⟨x11454, v11519, by first | rfl | omega, hI11517, hF11518, ((eA_c gA_sI).trans e11462), (w_p1 (by decide) (Or.inr rfl) (w_p1 (by decide) (Or.inr rfl) (w_p1 (by decide) (Or.inr rfl) e11463))), (w_p1 (by decide) (Or.inr rfl) (w_p1 (by decide) (Or.inr rfl) (w_p1 (by decide) (Or.inr rfl) e11464))), (w_p1 (by decide) (Or.inr rfl) (w_p1 (by decide) (Or.inr rfl) (w_p1 (by decide) (Or.inr rfl) e11465))), (w_e1 _ _ _), by omega, by omega, by omega⟩ ⟨by omega, by omega⟩
            · have c11514_ : v11507.toInt ≤ 9 := en_j_gt_f c11514
              refine At.enter rfl ?_
              refine r_iconst 1 rfl ?_
              refine r_goto ?_
              refine At.enter rfl ?_
              refine q_iretz (by decide) ?_
              refine At.enter rfl ?_
              refine r_iff 12 rfl (by decide) ?_
              refine At.enter rfl ?_
              refine r_iload_n rfl ?_
              refine q_i2l (fun v11520 hv11520 => ?_)
              refine r_lconst 0 rfl ?_
              refine r_ldc2 99 rfl ?_
              refine q_inlS 21 rfl [.long v11520, .long 0, .long 99] [] (Nat.le_of_ble_eq_true rfl) rfl ?_
              refine Ev.mk rfl rfl ⟨Nat.le_of_ble_eq_true rfl, Or.inl rfl⟩ ?_
              show At _ none _ _ (0, [(0, .long v11520), (2, .long 0), (4, .long 99)], [], (_, _)) _
              refine At.enter rfl ?_
              refine r_lload_n rfl ?_
              refine r_lload_n rfl ?_
              refine r_lcmp _ rfl ?_
              refine r_ifs 6 rfl (fun c11521 => ?_) (fun c11521 => ?_)
              · have c11521_ : v11520.toInt < 0 := en_j_lt_t c11521
                refine At.enter rfl ?_
                refine r_iconst 0 rfl ?_
                refine Ar.fall 18 rfl ?_
                refine At.enter rfl ?_
                refine q_iretz (by decide) ?_
                refine At.enter rfl ?_
                refine r_ift (by decide) ?_
                refine At.enter rfl ?_
                refine r_iconst 0 rfl ?_
                refine Ar.fall 53 rfl ?_
                refine At.enter rfl ?_
                refine q_iretz (by decide) ?_
                refine At.enter rfl ?_
                refine r_ift (by decide) ?_
                refine At.enter rfl ?_
                refine r_iconst 0 rfl ?_
                refine Ar.fall 141 rfl ?_
                refine At.enter rfl ?_
                refine r_istore _ rfl ?_
                refine r_iload (w_e1 _ _ _) ?_
                refine r_ift (by decide) ?_
                refine At.enter rfl ?_
                refine r_aload_n (w_p1 (by decide) (Or.inr rfl) (w_p1 (by decide) (Or.inr rfl) e11463)) ?_
                refine r_dup rfl ?_
                obtain ⟨v11522, hv11522⟩ : ∃ v, gI g11456 231 6 = v := ⟨_, rfl⟩
                refine q_getI (Sh.int hI11457.1 kx_231 rfl) v11522 hv11522 ?_
                refine r_iconst 1 rfl ?_
                refine q_iaddO (fun v11523 _ => ?_)
                refine q_putI (Sh.int hI11457.1 kx_231 rfl) rfl ?_
                have hI11524 := HI.wI0 hI11457 kx_231 rfl (p := 231) (b := 6) (v := v11523) rfl
                have hF11525 := Fr.wI (p := 231) (b := 6) (v := v11523) hF11458 rfl
                refine Ar.fall 214 rfl ?_
                refine At.enter rfl ?_
                refine q_iinc (w_p1 (by decide) (Or.inr rfl) (w_p1 (by decide) (Or.inr rfl) e11466)) (x11455.toInt + 6) rfl (by omega) (fun v11526 hv11526 => ?_)
                refine r_goto ?_
                exact ih11461 (405 - v11526.toInt) _ _ ⟨x11454, v11526, by first | rfl | omega, hI11524, hF11525, ((eA_c gA_sI).trans e11462), (w_p1 (by decide) (Or.inr rfl) (w_p1 (by decide) (Or.inr rfl) (w_p1 (by decide) (Or.inr rfl) e11463))), (w_p1 (by decide) (Or.inr rfl) (w_p1 (by decide) (Or.inr rfl) (w_p1 (by decide) (Or.inr rfl) e11464))), (w_p1 (by decide) (Or.inr rfl) (w_p1 (by decide) (Or.inr rfl) (w_p1 (by decide) (Or.inr rfl) e11465))), (w_e1 _ _ _), by omega, by omega, by omega⟩ ⟨by omega, by omega⟩
              · have c11521_ : v11520.toInt ≥ 0 := en_j_lt_f c11521
                refine At.enter rfl ?_
                refine r_lload_n rfl ?_
                refine r_lload rfl ?_
                refine r_lcmp _ rfl ?_
                refine r_ifs 13 rfl (fun c11527 => ?_) (fun c11527 => ?_)
                · have c11527_ : v11520.toInt > 99 := en_j_gt_t c11527
                  refine At.enter rfl ?_
                  refine r_iconst 0 rfl ?_
                  refine Ar.fall 18 rfl ?_
                  refine At.enter rfl ?_
                  refine q_iretz (by decide) ?_
                  refine At.enter rfl ?_
                  refine r_ift (by decide) ?_
                  refine At.enter rfl ?_
                  refine r_iconst 0 rfl ?_
                  refine Ar.fall 53 rfl ?_
                  refine At.enter rfl ?_
                  refine q_iretz (by decide) ?_
                  refine At.enter rfl ?_
                  refine r_ift (by decide) ?_
                  refine At.enter rfl ?_
                  refine r_iconst 0 rfl ?_
                  refine Ar.fall 141 rfl ?_
                  refine At.enter rfl ?_
                  refine r_istore _ rfl ?_
                  refine r_iload (w_e1 _ _ _) ?_
                  refine r_ift (by decide) ?_
                  refine At.enter rfl ?_
                  refine r_aload_n (w_p1 (by decide) (Or.inr rfl) (w_p1 (by decide) (Or.inr rfl) e11463)) ?_
                  refine r_dup rfl ?_
                  obtain ⟨v11528, hv11528⟩ : ∃ v, gI g11456 231 6 = v := ⟨_, rfl⟩
                  refine q_getI (Sh.int hI11457.1 kx_231 rfl) v11528 hv11528 ?_
                  refine r_iconst 1 rfl ?_
                  refine q_iaddO (fun v11529 _ => ?_)
                  refine q_putI (Sh.int hI11457.1 kx_231 rfl) rfl ?_
                  have hI11530 := HI.wI0 hI11457 kx_231 rfl (p := 231) (b := 6) (v := v11529) rfl
                  have hF11531 := Fr.wI (p := 231) (b := 6) (v := v11529) hF11458 rfl
                  refine Ar.fall 214 rfl ?_
                  refine At.enter rfl ?_
                  refine q_iinc (w_p1 (by decide) (Or.inr rfl) (w_p1 (by decide) (Or.inr rfl) e11466)) (x11455.toInt + 6) rfl (by omega) (fun v11532 hv11532 => ?_)
                  refine r_goto ?_
                  exact ih11461 (405 - v11532.toInt) _ _ ⟨x11454, v11532, by first | rfl | omega, hI11530, hF11531, ((eA_c gA_sI).trans e11462), (w_p1 (by decide) (Or.inr rfl) (w_p1 (by decide) (Or.inr rfl) (w_p1 (by decide) (Or.inr rfl) e11463))), (w_p1 (by decide) (Or.inr rfl) (w_p1 (by decide) (Or.inr rfl) (w_p1 (by decide) (Or.inr rfl) e11464))), (w_p1 (by decide) (Or.inr rfl) (w_p1 (by decide) (Or.inr rfl) (w_p1 (by decide) (Or.inr rfl) e11465))), (w_e1 _ _ _), by omega, by omega, by omega⟩ ⟨by omega, by omega⟩
                · have c11527_ : v11520.toInt ≤ 99 := en_j_gt_f c11527
                  refine At.enter rfl ?_
                  refine r_iconst 1 rfl ?_
                  refine r_goto ?_
                  refine At.enter rfl ?_
                  refine q_iretz (by decide) ?_
                  refine At.enter rfl ?_
                  refine r_iff 24 rfl (by decide) ?_
                  refine At.enter rfl ?_
                  refine r_iload_n rfl ?_
                  refine q_i2l (fun v11533 hv11533 => ?_)
                  refine r_lconst 0 rfl ?_
                  refine r_ldc2 9 rfl ?_
                  refine q_inlS 33 rfl [.long v11533, .long 0, .long 9] [] (Nat.le_of_ble_eq_true rfl) rfl ?_
                  refine Ev.mk rfl rfl ⟨Nat.le_of_ble_eq_true rfl, Or.inl rfl⟩ ?_
                  show At _ none _ _ (0, [(0, .long v11533), (2, .long 0), (4, .long 9)], [], (_, _)) _
                  refine At.enter rfl ?_
                  refine r_lload_n rfl ?_
                  refine r_lload_n rfl ?_
                  refine r_lcmp _ rfl ?_
                  refine r_ifs 6 rfl (fun c11534 => ?_) (fun c11534 => ?_)
                  · have c11534_ : v11533.toInt < 0 := en_j_lt_t c11534
                    refine At.enter rfl ?_
                    refine r_iconst 0 rfl ?_
                    refine Ar.fall 18 rfl ?_
                    refine At.enter rfl ?_
                    refine q_iretz (by decide) ?_
                    refine At.enter rfl ?_
                    refine r_ift (by decide) ?_
                    refine At.enter rfl ?_
                    refine r_iconst 0 rfl ?_
                    refine Ar.fall 53 rfl ?_
                    refine At.enter rfl ?_
                    refine q_iretz (by decide) ?_
                    refine At.enter rfl ?_
                    refine r_ift (by decide) ?_
                    refine At.enter rfl ?_
                    refine r_iconst 0 rfl ?_
                    refine Ar.fall 141 rfl ?_
                    refine At.enter rfl ?_
                    refine r_istore _ rfl ?_
                    refine r_iload (w_e1 _ _ _) ?_
                    refine r_ift (by decide) ?_
                    refine At.enter rfl ?_
                    refine r_aload_n (w_p1 (by decide) (Or.inr rfl) (w_p1 (by decide) (Or.inr rfl) e11463)) ?_
                    refine r_dup rfl ?_
                    obtain ⟨v11535, hv11535⟩ : ∃ v, gI g11456 231 6 = v := ⟨_, rfl⟩
                    refine q_getI (Sh.int hI11457.1 kx_231 rfl) v11535 hv11535 ?_
                    refine r_iconst 1 rfl ?_
                    refine q_iaddO (fun v11536 _ => ?_)
                    refine q_putI (Sh.int hI11457.1 kx_231 rfl) rfl ?_
                    have hI11537 := HI.wI0 hI11457 kx_231 rfl (p := 231) (b := 6) (v := v11536) rfl
                    have hF11538 := Fr.wI (p := 231) (b := 6) (v := v11536) hF11458 rfl
                    refine Ar.fall 214 rfl ?_
                    refine At.enter rfl ?_
                    refine q_iinc (w_p1 (by decide) (Or.inr rfl) (w_p1 (by decide) (Or.inr rfl) e11466)) (x11455.toInt + 6) rfl (by omega) (fun v11539 hv11539 => ?_)
                    refine r_goto ?_
                    exact ih11461 (405 - v11539.toInt) _ _ ⟨x11454, v11539, by first | rfl | omega, hI11537, hF11538, ((eA_c gA_sI).trans e11462), (w_p1 (by decide) (Or.inr rfl) (w_p1 (by decide) (Or.inr rfl) (w_p1 (by decide) (Or.inr rfl) e11463))), (w_p1 (by decide) (Or.inr rfl) (w_p1 (by decide) (Or.inr rfl) (w_p1 (by decide) (Or.inr rfl) e11464))), (w_p1 (by decide) (Or.inr rfl) (w_p1 (by decide) (Or.inr rfl) (w_p1 (by decide) (Or.inr rfl) e11465))), (w_e1 _ _ _), by omega, by omega, by omega⟩ ⟨by omega, by omega⟩
                  · have c11534_ : v11533.toInt ≥ 0 := en_j_lt_f c11534
                    refine At.enter rfl ?_
                    refine r_lload_n rfl ?_
                    refine r_lload rfl ?_
                    refine r_lcmp _ rfl ?_
                    refine r_ifs 13 rfl (fun c11540 => ?_) (fun c11540 => ?_)
                    · have c11540_ : v11533.toInt > 9 := en_j_gt_t c11540
                      refine At.enter rfl ?_
                      refine r_iconst 0 rfl ?_
                      refine Ar.fall 18 rfl ?_
                      refine At.enter rfl ?_
                      refine q_iretz (by decide) ?_
                      refine At.enter rfl ?_
                      refine r_ift (by decide) ?_
                      refine At.enter rfl ?_
                      refine r_iconst 0 rfl ?_
                      refine Ar.fall 53 rfl ?_
                      refine At.enter rfl ?_
                      refine q_iretz (by decide) ?_
                      refine At.enter rfl ?_
                      refine r_ift (by decide) ?_
                      refine At.enter rfl ?_
                      refine r_iconst 0 rfl ?_
                      refine Ar.fall 141 rfl ?_
                      refine At.enter rfl ?_
                      refine r_istore _ rfl ?_
                      refine r_iload (w_e1 _ _ _) ?_
                      refine r_ift (by decide) ?_
                      refine At.enter rfl ?_
                      refine r_aload_n (w_p1 (by decide) (Or.inr rfl) (w_p1 (by decide) (Or.inr rfl) e11463)) ?_
                      refine r_dup rfl ?_
                      obtain ⟨v11541, hv11541⟩ : ∃ v, gI g11456 231 6 = v := ⟨_, rfl⟩
                      refine q_getI (Sh.int hI11457.1 kx_231 rfl) v11541 hv11541 ?_
                      refine r_iconst 1 rfl ?_
                      refine q_iaddO (fun v11542 _ => ?_)
                      refine q_putI (Sh.int hI11457.1 kx_231 rfl) rfl ?_
                      have hI11543 := HI.wI0 hI11457 kx_231 rfl (p := 231) (b := 6) (v := v11542) rfl
                      have hF11544 := Fr.wI (p := 231) (b := 6) (v := v11542) hF11458 rfl
                      refine Ar.fall 214 rfl ?_
                      refine At.enter rfl ?_
                      refine q_iinc (w_p1 (by decide) (Or.inr rfl) (w_p1 (by decide) (Or.inr rfl) e11466)) (x11455.toInt + 6) rfl (by omega) (fun v11545 hv11545 => ?_)
                      refine r_goto ?_
                      exact ih11461 (405 - v11545.toInt) _ _ ⟨x11454, v11545, by first | rfl | omega, hI11543, hF11544, ((eA_c gA_sI).trans e11462), (w_p1 (by decide) (Or.inr rfl) (w_p1 (by decide) (Or.inr rfl) (w_p1 (by decide) (Or.inr rfl) e11463))), (w_p1 (by decide) (Or.inr rfl) (w_p1 (by decide) (Or.inr rfl) (w_p1 (by decide) (Or.inr rfl) e11464))), (w_p1 (by decide) (Or.inr rfl) (w_p1 (by decide) (Or.inr rfl) (w_p1 (by decide) (Or.inr rfl) e11465))), (w_e1 _ _ _), by omega, by omega, by omega⟩ ⟨by omega, by omega⟩
                    · have c11540_ : v11533.toInt ≤ 9 := en_j_gt_f c11540
                      refine At.enter rfl ?_
                      refine r_iconst 1 rfl ?_
                      refine r_goto ?_
                      refine At.enter rfl ?_
                      refine q_iretz (by decide) ?_
                      refine At.enter rfl ?_
                      refine r_iff 36 rfl (by decide) ?_
                      refine At.enter rfl ?_
                      refine r_iload_n rfl ?_
                      refine q_i2l (fun v11546 hv11546 => ?_)
                      refine r_lconst 0 rfl ?_
                      refine r_ldc2 9999 rfl ?_
                      refine q_inlS 45 rfl [.long v11546, .long 0, .long 9999] [] (Nat.le_of_ble_eq_true rfl) rfl ?_
                      refine Ev.mk rfl rfl ⟨Nat.le_of_ble_eq_true rfl, Or.inl rfl⟩ ?_
                      show At _ none _ _ (0, [(0, .long v11546), (2, .long 0), (4, .long 9999)], [], (_, _)) _
                      refine At.enter rfl ?_
                      refine r_lload_n rfl ?_
                      refine r_lload_n rfl ?_
                      refine r_lcmp _ rfl ?_
                      refine r_ifs 6 rfl (fun c11547 => ?_) (fun c11547 => ?_)
                      · have c11547_ : v11546.toInt < 0 := en_j_lt_t c11547
                        refine At.enter rfl ?_
                        refine r_iconst 0 rfl ?_
                        refine Ar.fall 18 rfl ?_
                        refine At.enter rfl ?_
                        refine q_iretz (by decide) ?_
                        refine At.enter rfl ?_
                        refine r_ift (by decide) ?_
                        refine At.enter rfl ?_
                        refine r_iconst 0 rfl ?_
                        refine Ar.fall 53 rfl ?_
                        refine At.enter rfl ?_
                        refine q_iretz (by decide) ?_
                        refine At.enter rfl ?_
                        refine r_ift (by decide) ?_
                        refine At.enter rfl ?_
                        refine r_iconst 0 rfl ?_
                        refine Ar.fall 141 rfl ?_
                        refine At.enter rfl ?_
                        refine r_istore _ rfl ?_
                        refine r_iload (w_e1 _ _ _) ?_
                        refine r_ift (by decide) ?_
                        refine At.enter rfl ?_
                        refine r_aload_n (w_p1 (by decide) (Or.inr rfl) (w_p1 (by decide) (Or.inr rfl) e11463)) ?_
                        refine r_dup rfl ?_
                        obtain ⟨v11548, hv11548⟩ : ∃ v, gI g11456 231 6 = v := ⟨_, rfl⟩
                        refine q_getI (Sh.int hI11457.1 kx_231 rfl) v11548 hv11548 ?_
                        refine r_iconst 1 rfl ?_
                        refine q_iaddO (fun v11549 _ => ?_)
                        refine q_putI (Sh.int hI11457.1 kx_231 rfl) rfl ?_
                        have hI11550 := HI.wI0 hI11457 kx_231 rfl (p := 231) (b := 6) (v := v11549) rfl
                        have hF11551 := Fr.wI (p := 231) (b := 6) (v := v11549) hF11458 rfl
                        refine Ar.fall 214 rfl ?_
                        refine At.enter rfl ?_
                        refine q_iinc (w_p1 (by decide) (Or.inr rfl) (w_p1 (by decide) (Or.inr rfl) e11466)) (x11455.toInt + 6) rfl (by omega) (fun v11552 hv11552 => ?_)
                        refine r_goto ?_
                        exact ih11461 (405 - v11552.toInt) _ _ ⟨x11454, v11552, by first | rfl | omega, hI11550, hF11551, ((eA_c gA_sI).trans e11462), (w_p1 (by decide) (Or.inr rfl) (w_p1 (by decide) (Or.inr rfl) (w_p1 (by decide) (Or.inr rfl) e11463))), (w_p1 (by decide) (Or.inr rfl) (w_p1 (by decide) (Or.inr rfl) (w_p1 (by decide) (Or.inr rfl) e11464))), (w_p1 (by decide) (Or.inr rfl) (w_p1 (by decide) (Or.inr rfl) (w_p1 (by decide) (Or.inr rfl) e11465))), (w_e1 _ _ _), by omega, by omega, by omega⟩ ⟨by omega, by omega⟩
                      · have c11547_ : v11546.toInt ≥ 0 := en_j_lt_f c11547
                        refine At.enter rfl ?_
                        refine r_lload_n rfl ?_
                        refine r_lload rfl ?_
                        refine r_lcmp _ rfl ?_
                        refine r_ifs 13 rfl (fun c11553 => ?_) (fun c11553 => ?_)
                        · have c11553_ : v11546.toInt > 9999 := en_j_gt_t c11553
                          refine At.enter rfl ?_
                          refine r_iconst 0 rfl ?_
                          refine Ar.fall 18 rfl ?_
                          refine At.enter rfl ?_
                          refine q_iretz (by decide) ?_
                          refine At.enter rfl ?_
                          refine r_ift (by decide) ?_
                          refine At.enter rfl ?_
                          refine r_iconst 0 rfl ?_
                          refine Ar.fall 53 rfl ?_
                          refine At.enter rfl ?_
                          refine q_iretz (by decide) ?_
                          refine At.enter rfl ?_
                          refine r_ift (by decide) ?_
                          refine At.enter rfl ?_
                          refine r_iconst 0 rfl ?_
                          refine Ar.fall 141 rfl ?_
                          refine At.enter rfl ?_
                          refine r_istore _ rfl ?_
                          refine r_iload (w_e1 _ _ _) ?_
                          refine r_ift (by decide) ?_
                          refine At.enter rfl ?_
                          refine r_aload_n (w_p1 (by decide) (Or.inr rfl) (w_p1 (by decide) (Or.inr rfl) e11463)) ?_
                          refine r_dup rfl ?_
                          obtain ⟨v11554, hv11554⟩ : ∃ v, gI g11456 231 6 = v := ⟨_, rfl⟩
                          refine q_getI (Sh.int hI11457.1 kx_231 rfl) v11554 hv11554 ?_
                          refine r_iconst 1 rfl ?_
                          refine q_iaddO (fun v11555 _ => ?_)
                          refine q_putI (Sh.int hI11457.1 kx_231 rfl) rfl ?_
                          have hI11556 := HI.wI0 hI11457 kx_231 rfl (p := 231) (b := 6) (v := v11555) rfl
                          have hF11557 := Fr.wI (p := 231) (b := 6) (v := v11555) hF11458 rfl
                          refine Ar.fall 214 rfl ?_
                          refine At.enter rfl ?_
                          refine q_iinc (w_p1 (by decide) (Or.inr rfl) (w_p1 (by decide) (Or.inr rfl) e11466)) (x11455.toInt + 6) rfl (by omega) (fun v11558 hv11558 => ?_)
                          refine r_goto ?_
                          exact ih11461 (405 - v11558.toInt) _ _ ⟨x11454, v11558, by first | rfl | omega, hI11556, hF11557, ((eA_c gA_sI).trans e11462), (w_p1 (by decide) (Or.inr rfl) (w_p1 (by decide) (Or.inr rfl) (w_p1 (by decide) (Or.inr rfl) e11463))), (w_p1 (by decide) (Or.inr rfl) (w_p1 (by decide) (Or.inr rfl) (w_p1 (by decide) (Or.inr rfl) e11464))), (w_p1 (by decide) (Or.inr rfl) (w_p1 (by decide) (Or.inr rfl) (w_p1 (by decide) (Or.inr rfl) e11465))), (w_e1 _ _ _), by omega, by omega, by omega⟩ ⟨by omega, by omega⟩
                        · have c11553_ : v11546.toInt ≤ 9999 := en_j_gt_f c11553
                          refine At.enter rfl ?_
                          refine r_iconst 1 rfl ?_
                          refine r_goto ?_
                          refine At.enter rfl ?_
                          refine q_iretz (by decide) ?_
                          refine At.enter rfl ?_
                          refine r_iff 48 rfl (by decide) ?_
                          refine At.enter rfl ?_
                          refine r_iconst 1 rfl ?_
                          refine r_goto ?_
                          refine At.enter rfl ?_
                          refine q_iretz (by decide) ?_
                          refine At.enter rfl ?_
                          refine r_iff 106 rfl (by decide) ?_
                          refine At.enter rfl ?_
                          refine r_aload_n (w_p1 (by decide) (Or.inr rfl) e11463) ?_
                          refine r_aload_n (w_p1 (by decide) (Or.inr rfl) e11463) ?_
                          refine q_getR (Sh.ref hI11457.1 kx_231 rfl) ?_
                          refine r_iload_n (w_p1 (by decide) (Or.inr rfl) e11466) ?_
                          refine r_iconst 1 rfl ?_
                          refine q_iadd (x11455.toInt + 1) rfl (by omega) (fun v11559 hv11559 => ?_)
                          obtain ⟨v11560, hv11560⟩ : ∃ v, eA g0 236 (x11455.toInt + 1) = v := ⟨_, rfl⟩
                          refine q_iald (Sh.arr hI11457.1 ka_236) (x11455.toInt + 1) (by omega) (by omega) v11560 ((eA_c (hF11458.2.1 236 (by decide))).trans hv11560) ?_
                          refine q_inlV 118 rfl [.ref 231, .int v11560] [] (Nat.le_of_ble_eq_true rfl) rfl ?_
                          refine Ev.mk rfl rfl ⟨Nat.le_of_ble_eq_true rfl, Or.inr (q_rc hI11457.1 kx_231 rfl)⟩ ?_
                          show At _ none _ _ (0, [(0, .ref 231), (1, .int v11560)], [], (_, _)) _
                          refine At.enter rfl ?_
                          refine r_iload_n rfl ?_
                          refine q_i2l (fun v11561 hv11561 => ?_)
                          refine r_lconst 0 rfl ?_
                          refine r_aload_n rfl ?_
                          refine q_getR (Sh.ref hI11457.1 kx_231 rfl) ?_
                          refine r_iconst 0 rfl ?_
                          refine q_iald (Sh.arr hI11457.1 ka_233) 0 rfl (by decide) v7763 e11462 ?_
                          refine q_i2l (fun v11562 hv11562 => ?_)
                          refine r_lconst 1 rfl ?_
                          refine q_lsub (v11562.toInt - 1) rfl (by omega) (fun v11563 hv11563 => ?_)
                          refine q_inlS 15 rfl [.long v11561, .long 0, .long v11563] [] (Nat.le_of_ble_eq_true rfl) rfl ?_
                          refine Ev.mk rfl rfl ⟨Nat.le_of_ble_eq_true rfl, Or.inl rfl⟩ ?_
                          show At _ none _ _ (0, [(0, .long v11561), (2, .long 0), (4, .long v11563)], [], (_, _)) _
                          refine At.enter rfl ?_
                          refine r_lload_n rfl ?_
                          refine r_lload_n rfl ?_
                          refine r_lcmp _ rfl ?_
                          refine r_ifs 6 rfl (fun c11564 => ?_) (fun c11564 => ?_)
                          · have c11564_ : v11561.toInt < 0 := en_j_lt_t c11564
                            refine At.enter rfl ?_
                            refine r_iconst 0 rfl ?_
                            refine Ar.fall 18 rfl ?_
                            refine At.enter rfl ?_
                            refine q_iretz (by decide) ?_
                            refine At.enter rfl ?_
                            refine q_iretz (by decide) ?_
                            refine At.enter rfl ?_
                            refine r_ift (by decide) ?_
                            refine At.enter rfl ?_
                            refine r_iconst 0 rfl ?_
                            refine Ar.fall 141 rfl ?_
                            refine At.enter rfl ?_
                            refine r_istore _ rfl ?_
                            refine r_iload (w_e1 _ _ _) ?_
                            refine r_ift (by decide) ?_
                            refine At.enter rfl ?_
                            refine r_aload_n (w_p1 (by decide) (Or.inr rfl) (w_p1 (by decide) (Or.inr rfl) e11463)) ?_
                            refine r_dup rfl ?_
                            obtain ⟨v11565, hv11565⟩ : ∃ v, gI g11456 231 6 = v := ⟨_, rfl⟩
                            refine q_getI (Sh.int hI11457.1 kx_231 rfl) v11565 hv11565 ?_
                            refine r_iconst 1 rfl ?_
                            refine q_iaddO (fun v11566 _ => ?_)
                            refine q_putI (Sh.int hI11457.1 kx_231 rfl) rfl ?_
                            have hI11567 := HI.wI0 hI11457 kx_231 rfl (p := 231) (b := 6) (v := v11566) rfl
                            have hF11568 := Fr.wI (p := 231) (b := 6) (v := v11566) hF11458 rfl
                            refine Ar.fall 214 rfl ?_
                            refine At.enter rfl ?_
                            refine q_iinc (w_p1 (by decide) (Or.inr rfl) (w_p1 (by decide) (Or.inr rfl) e11466)) (x11455.toInt + 6) rfl (by omega) (fun v11569 hv11569 => ?_)
                            refine r_goto ?_
                            exact ih11461 (405 - v11569.toInt) _ _ ⟨x11454, v11569, by first | rfl | omega, hI11567, hF11568, ((eA_c gA_sI).trans e11462), (w_p1 (by decide) (Or.inr rfl) (w_p1 (by decide) (Or.inr rfl) (w_p1 (by decide) (Or.inr rfl) e11463))), (w_p1 (by decide) (Or.inr rfl) (w_p1 (by decide) (Or.inr rfl) (w_p1 (by decide) (Or.inr rfl) e11464))), (w_p1 (by decide) (Or.inr rfl) (w_p1 (by decide) (Or.inr rfl) (w_p1 (by decide) (Or.inr rfl) e11465))), (w_e1 _ _ _), by omega, by omega, by omega⟩ ⟨by omega, by omega⟩
                          · have c11564_ : v11561.toInt ≥ 0 := en_j_lt_f c11564
                            refine At.enter rfl ?_
                            refine r_lload_n rfl ?_
                            refine r_lload rfl ?_
                            refine r_lcmp _ rfl ?_
                            refine r_ifs 13 rfl (fun c11570 => ?_) (fun c11570 => ?_)
                            · have c11570_ : v11561.toInt > v11563.toInt := en_j_gt_t c11570
                              refine At.enter rfl ?_
                              refine r_iconst 0 rfl ?_
                              refine Ar.fall 18 rfl ?_
                              refine At.enter rfl ?_
                              refine q_iretz (by decide) ?_
                              refine At.enter rfl ?_
                              refine q_iretz (by decide) ?_
                              refine At.enter rfl ?_
                              refine r_ift (by decide) ?_
                              refine At.enter rfl ?_
                              refine r_iconst 0 rfl ?_
                              refine Ar.fall 141 rfl ?_
                              refine At.enter rfl ?_
                              refine r_istore _ rfl ?_
                              refine r_iload (w_e1 _ _ _) ?_
                              refine r_ift (by decide) ?_
                              refine At.enter rfl ?_
                              refine r_aload_n (w_p1 (by decide) (Or.inr rfl) (w_p1 (by decide) (Or.inr rfl) e11463)) ?_
                              refine r_dup rfl ?_
                              obtain ⟨v11571, hv11571⟩ : ∃ v, gI g11456 231 6 = v := ⟨_, rfl⟩
                              refine q_getI (Sh.int hI11457.1 kx_231 rfl) v11571 hv11571 ?_
                              refine r_iconst 1 rfl ?_
                              refine q_iaddO (fun v11572 _ => ?_)
                              refine q_putI (Sh.int hI11457.1 kx_231 rfl) rfl ?_
                              have hI11573 := HI.wI0 hI11457 kx_231 rfl (p := 231) (b := 6) (v := v11572) rfl
                              have hF11574 := Fr.wI (p := 231) (b := 6) (v := v11572) hF11458 rfl
                              refine Ar.fall 214 rfl ?_
                              refine At.enter rfl ?_
                              refine q_iinc (w_p1 (by decide) (Or.inr rfl) (w_p1 (by decide) (Or.inr rfl) e11466)) (x11455.toInt + 6) rfl (by omega) (fun v11575 hv11575 => ?_)
                              refine r_goto ?_
                              exact ih11461 (405 - v11575.toInt) _ _ ⟨x11454, v11575, by first | rfl | omega, hI11573, hF11574, ((eA_c gA_sI).trans e11462), (w_p1 (by decide) (Or.inr rfl) (w_p1 (by decide) (Or.inr rfl) (w_p1 (by decide) (Or.inr rfl) e11463))), (w_p1 (by decide) (Or.inr rfl) (w_p1 (by decide) (Or.inr rfl) (w_p1 (by decide) (Or.inr rfl) e11464))), (w_p1 (by decide) (Or.inr rfl) (w_p1 (by decide) (Or.inr rfl) (w_p1 (by decide) (Or.inr rfl) e11465))), (w_e1 _ _ _), by omega, by omega, by omega⟩ ⟨by omega, by omega⟩
                            · have c11570_ : v11561.toInt ≤ v11563.toInt := en_j_gt_f c11570
                              refine At.enter rfl ?_
                              refine r_iconst 1 rfl ?_
                              refine r_goto ?_
                              refine At.enter rfl ?_
                              refine q_iretz (by decide) ?_
                              refine At.enter rfl ?_
                              refine q_iretz (by decide) ?_
                              refine At.enter rfl ?_
                              refine r_iff 121 rfl (by decide) ?_
                              refine At.enter rfl ?_
                              refine r_aload_n (w_p1 (by decide) (Or.inr rfl) e11463) ?_
                              refine r_aload_n (w_p1 (by decide) (Or.inr rfl) e11463) ?_
                              refine q_getR (Sh.ref hI11457.1 kx_231 rfl) ?_
                              refine r_iload_n (w_p1 (by decide) (Or.inr rfl) e11466) ?_
                              refine r_iconst 2 rfl ?_
                              refine q_iadd (x11455.toInt + 2) rfl (by omega) (fun v11576 hv11576 => ?_)
                              obtain ⟨v11577, hv11577⟩ : ∃ v, eA g0 236 (x11455.toInt + 2) = v := ⟨_, rfl⟩
                              refine q_iald (Sh.arr hI11457.1 ka_236) (x11455.toInt + 2) (by omega) (by omega) v11577 ((eA_c (hF11458.2.1 236 (by decide))).trans hv11577) ?_
                              refine q_inlV 133 rfl [.ref 231, .int v11577] [] (Nat.le_of_ble_eq_true rfl) rfl ?_
                              refine Ev.mk rfl rfl ⟨Nat.le_of_ble_eq_true rfl, Or.inr (q_rc hI11457.1 kx_231 rfl)⟩ ?_
                              show At _ none _ _ (0, [(0, .ref 231), (1, .int v11577)], [], (_, _)) _
                              refine At.enter rfl ?_
                              refine r_iload_n rfl ?_
                              refine q_i2l (fun v11578 hv11578 => ?_)
                              refine r_lconst 0 rfl ?_
                              refine r_aload_n rfl ?_
                              refine q_getR (Sh.ref hI11457.1 kx_231 rfl) ?_
                              refine r_iconst 0 rfl ?_
                              refine q_iald (Sh.arr hI11457.1 ka_233) 0 rfl (by decide) v7763 e11462 ?_
                              refine q_i2l (fun v11579 hv11579 => ?_)
                              refine r_lconst 1 rfl ?_
                              refine q_lsub (v11579.toInt - 1) rfl (by omega) (fun v11580 hv11580 => ?_)
                              refine q_inlS 15 rfl [.long v11578, .long 0, .long v11580] [] (Nat.le_of_ble_eq_true rfl) rfl ?_
                              refine Ev.mk rfl rfl ⟨Nat.le_of_ble_eq_true rfl, Or.inl rfl⟩ ?_
                              show At _ none _ _ (0, [(0, .long v11578), (2, .long 0), (4, .long v11580)], [], (_, _)) _
                              refine At.enter rfl ?_
                              refine r_lload_n rfl ?_
                              refine r_lload_n rfl ?_
                              refine r_lcmp _ rfl ?_
                              refine r_ifs 6 rfl (fun c11581 => ?_) (fun c11581 => ?_)
                              · have c11581_ : v11578.toInt < 0 := en_j_lt_t c11581
                                refine At.enter rfl ?_
                                refine r_iconst 0 rfl ?_
                                refine Ar.fall 18 rfl ?_
                                refine At.enter rfl ?_
                                refine q_iretz (by decide) ?_
                                refine At.enter rfl ?_
                                refine q_iretz (by decide) ?_
                                refine At.enter rfl ?_
                                refine r_ift (by decide) ?_
                                refine At.enter rfl ?_
                                refine r_iconst 0 rfl ?_
                                refine Ar.fall 141 rfl ?_
                                refine At.enter rfl ?_
                                refine r_istore _ rfl ?_
                                refine r_iload (w_e1 _ _ _) ?_
                                refine r_ift (by decide) ?_
                                refine At.enter rfl ?_
                                refine r_aload_n (w_p1 (by decide) (Or.inr rfl) (w_p1 (by decide) (Or.inr rfl) e11463)) ?_
                                refine r_dup rfl ?_
                                obtain ⟨v11582, hv11582⟩ : ∃ v, gI g11456 231 6 = v := ⟨_, rfl⟩
                                refine q_getI (Sh.int hI11457.1 kx_231 rfl) v11582 hv11582 ?_
                                refine r_iconst 1 rfl ?_
                                refine q_iaddO (fun v11583 _ => ?_)
                                refine q_putI (Sh.int hI11457.1 kx_231 rfl) rfl ?_
                                have hI11584 := HI.wI0 hI11457 kx_231 rfl (p := 231) (b := 6) (v := v11583) rfl
                                have hF11585 := Fr.wI (p := 231) (b := 6) (v := v11583) hF11458 rfl
                                refine Ar.fall 214 rfl ?_
                                refine At.enter rfl ?_
                                refine q_iinc (w_p1 (by decide) (Or.inr rfl) (w_p1 (by decide) (Or.inr rfl) e11466)) (x11455.toInt + 6) rfl (by omega) (fun v11586 hv11586 => ?_)
                                refine r_goto ?_
                                exact ih11461 (405 - v11586.toInt) _ _ ⟨x11454, v11586, by first | rfl | omega, hI11584, hF11585, ((eA_c gA_sI).trans e11462), (w_p1 (by decide) (Or.inr rfl) (w_p1 (by decide) (Or.inr rfl) (w_p1 (by decide) (Or.inr rfl) e11463))), (w_p1 (by decide) (Or.inr rfl) (w_p1 (by decide) (Or.inr rfl) (w_p1 (by decide) (Or.inr rfl) e11464))), (w_p1 (by decide) (Or.inr rfl) (w_p1 (by decide) (Or.inr rfl) (w_p1 (by decide) (Or.inr rfl) e11465))), (w_e1 _ _ _), by omega, by omega, by omega⟩ ⟨by omega, by omega⟩
                              · have c11581_ : v11578.toInt ≥ 0 := en_j_lt_f c11581
                                refine At.enter rfl ?_
                                refine r_lload_n rfl ?_
                                refine r_lload rfl ?_
                                refine r_lcmp _ rfl ?_
                                refine r_ifs 13 rfl (fun c11587 => ?_) (fun c11587 => ?_)
                                · have c11587_ : v11578.toInt > v11580.toInt := en_j_gt_t c11587
                                  refine At.enter rfl ?_
                                  refine r_iconst 0 rfl ?_
                                  refine Ar.fall 18 rfl ?_
                                  refine At.enter rfl ?_
                                  refine q_iretz (by decide) ?_
                                  refine At.enter rfl ?_
                                  refine q_iretz (by decide) ?_
                                  refine At.enter rfl ?_
                                  refine r_ift (by decide) ?_
                                  refine At.enter rfl ?_
                                  refine r_iconst 0 rfl ?_
                                  refine Ar.fall 141 rfl ?_
                                  refine At.enter rfl ?_
                                  refine r_istore _ rfl ?_
                                  refine r_iload (w_e1 _ _ _) ?_
                                  refine r_ift (by decide) ?_
                                  refine At.enter rfl ?_
                                  refine r_aload_n (w_p1 (by decide) (Or.inr rfl) (w_p1 (by decide) (Or.inr rfl) e11463)) ?_
                                  refine r_dup rfl ?_
                                  obtain ⟨v11588, hv11588⟩ : ∃ v, gI g11456 231 6 = v := ⟨_, rfl⟩
                                  refine q_getI (Sh.int hI11457.1 kx_231 rfl) v11588 hv11588 ?_
                                  refine r_iconst 1 rfl ?_
                                  refine q_iaddO (fun v11589 _ => ?_)
                                  refine q_putI (Sh.int hI11457.1 kx_231 rfl) rfl ?_
                                  have hI11590 := HI.wI0 hI11457 kx_231 rfl (p := 231) (b := 6) (v := v11589) rfl
                                  have hF11591 := Fr.wI (p := 231) (b := 6) (v := v11589) hF11458 rfl
                                  refine Ar.fall 214 rfl ?_
                                  refine At.enter rfl ?_
                                  refine q_iinc (w_p1 (by decide) (Or.inr rfl) (w_p1 (by decide) (Or.inr rfl) e11466)) (x11455.toInt + 6) rfl (by omega) (fun v11592 hv11592 => ?_)
                                  refine r_goto ?_
                                  exact ih11461 (405 - v11592.toInt) _ _ ⟨x11454, v11592, by first | rfl | omega, hI11590, hF11591, ((eA_c gA_sI).trans e11462), (w_p1 (by decide) (Or.inr rfl) (w_p1 (by decide) (Or.inr rfl) (w_p1 (by decide) (Or.inr rfl) e11463))), (w_p1 (by decide) (Or.inr rfl) (w_p1 (by decide) (Or.inr rfl) (w_p1 (by decide) (Or.inr rfl) e11464))), (w_p1 (by decide) (Or.inr rfl) (w_p1 (by decide) (Or.inr rfl) (w_p1 (by decide) (Or.inr rfl) e11465))), (w_e1 _ _ _), by omega, by omega, by omega⟩ ⟨by omega, by omega⟩
                                · have c11587_ : v11578.toInt ≤ v11580.toInt := en_j_gt_f c11587
                                  refine At.enter rfl ?_
                                  refine r_iconst 1 rfl ?_
                                  refine r_goto ?_
                                  refine At.enter rfl ?_
                                  refine q_iretz (by decide) ?_
                                  refine At.enter rfl ?_
                                  refine q_iretz (by decide) ?_
                                  refine At.enter rfl ?_
                                  refine r_iff 136 rfl (by decide) ?_
                                  refine At.enter rfl ?_
                                  refine r_iconst 1 rfl ?_
                                  refine r_goto ?_
                                  refine At.enter rfl ?_
                                  refine r_istore _ rfl ?_
                                  refine r_iload (w_e1 _ _ _) ?_
                                  refine r_iff 148 rfl (by decide) ?_
                                  refine At.enter rfl ?_
                                  refine r_aload_n (w_p1 (by decide) (Or.inr rfl) (w_p1 (by decide) (Or.inr rfl) e11463)) ?_
                                  refine r_aload_n (w_p1 (by decide) (Or.inr rfl) (w_p1 (by decide) (Or.inr rfl) e11463)) ?_
                                  refine q_getR (Sh.ref hI11457.1 kx_231 rfl) ?_
                                  refine r_iload_n (w_p1 (by decide) (Or.inr rfl) (w_p1 (by decide) (Or.inr rfl) e11466)) ?_
                                  refine q_iald (Sh.arr hI11457.1 ka_236) x11455.toInt rfl (by omega) v11500 ((eA_c (hF11458.2.1 236 (by decide))).trans hv11500) ?_
                                  refine r_aload_n (w_p1 (by decide) (Or.inr rfl) (w_p1 (by decide) (Or.inr rfl) e11463)) ?_
                                  refine q_getR (Sh.ref hI11457.1 kx_231 rfl) ?_
                                  refine r_iload_n (w_p1 (by decide) (Or.inr rfl) (w_p1 (by decide) (Or.inr rfl) e11466)) ?_
                                  refine r_iconst 1 rfl ?_
                                  refine q_iadd (x11455.toInt + 1) rfl (by omega) (fun v11593 hv11593 => ?_)
                                  refine q_iald (Sh.arr hI11457.1 ka_236) (x11455.toInt + 1) (by omega) (by omega) v11560 ((eA_c (hF11458.2.1 236 (by decide))).trans hv11560) ?_
                                  refine r_aload_n (w_p1 (by decide) (Or.inr rfl) (w_p1 (by decide) (Or.inr rfl) e11463)) ?_
                                  refine q_getR (Sh.ref hI11457.1 kx_231 rfl) ?_
                                  refine r_iload_n (w_p1 (by decide) (Or.inr rfl) (w_p1 (by decide) (Or.inr rfl) e11466)) ?_
                                  refine r_iconst 2 rfl ?_
                                  refine q_iadd (x11455.toInt + 2) rfl (by omega) (fun v11594 hv11594 => ?_)
                                  refine q_iald (Sh.arr hI11457.1 ka_236) (x11455.toInt + 2) (by omega) (by omega) v11577 ((eA_c (hF11458.2.1 236 (by decide))).trans hv11577) ?_
                                  refine r_aload_n (w_p1 (by decide) (Or.inr rfl) (w_p1 (by decide) (Or.inr rfl) e11463)) ?_
                                  refine q_getR (Sh.ref hI11457.1 kx_231 rfl) ?_
                                  refine r_iload_n (w_p1 (by decide) (Or.inr rfl) (w_p1 (by decide) (Or.inr rfl) e11466)) ?_
                                  refine r_iconst 3 rfl ?_
                                  refine q_iadd (x11455.toInt + 3) rfl (by omega) (fun v11595 hv11595 => ?_)
                                  refine q_iald (Sh.arr hI11457.1 ka_236) (x11455.toInt + 3) (by omega) (by omega) v11502 ((eA_c (hF11458.2.1 236 (by decide))).trans hv11502) ?_
                                  refine r_aload_n (w_p1 (by decide) (Or.inr rfl) (w_p1 (by decide) (Or.inr rfl) e11463)) ?_
                                  refine q_getR (Sh.ref hI11457.1 kx_231 rfl) ?_
                                  refine r_iload_n (w_p1 (by decide) (Or.inr rfl) (w_p1 (by decide) (Or.inr rfl) e11466)) ?_
                                  refine r_iconst 4 rfl ?_
                                  refine q_iadd (x11455.toInt + 4) rfl (by omega) (fun v11596 hv11596 => ?_)
                                  refine q_iald (Sh.arr hI11457.1 ka_236) (x11455.toInt + 4) (by omega) (by omega) v11504 ((eA_c (hF11458.2.1 236 (by decide))).trans hv11504) ?_
                                  refine r_aload_n (w_p1 (by decide) (Or.inr rfl) (w_p1 (by decide) (Or.inr rfl) e11463)) ?_
                                  refine q_getR (Sh.ref hI11457.1 kx_231 rfl) ?_
                                  refine r_iload_n (w_p1 (by decide) (Or.inr rfl) (w_p1 (by decide) (Or.inr rfl) e11466)) ?_
                                  refine r_iconst 5 rfl ?_
                                  refine q_iadd (x11455.toInt + 5) rfl (by omega) (fun v11597 hv11597 => ?_)
                                  refine q_iald (Sh.arr hI11457.1 ka_236) (x11455.toInt + 5) (by omega) (by omega) v11506 ((eA_c (hF11458.2.1 236 (by decide))).trans hv11506) ?_
                                  refine q_inlV 198 rfl [.ref 231, .int v11500, .int v11560, .int v11577, .int v11502, .int v11504, .int v11506] [] (Nat.le_of_ble_eq_true rfl) rfl ?_
                                  refine Ev.mk rfl rfl ⟨Nat.le_of_ble_eq_true rfl, Or.inr (q_rc hI11457.1 kx_231 rfl)⟩ ?_
                                  show At _ none _ _ (0, [(0, .ref 231), (1, .int v11500), (2, .int v11560), (3, .int v11577), (4, .int v11502), (5, .int v11504), (6, .int v11506)], [], (_, _)) _
                                  refine At.enter rfl ?_
                                  refine r_bipush 46 rfl ?_
                                  refine r_bipush 6 rfl ?_
                                  refine r_aload_n rfl ?_
                                  refine q_getR (Sh.ref hI11457.1 kx_231 rfl) ?_
                                  refine r_iconst 1 rfl ?_
                                  refine q_iald (Sh.arr hI11457.1 ka_233) 1 rfl (by decide) v11493 hv11493 ?_
                                  refine q_imul (6 * v11493.toInt) rfl (by omega) (fun v11598 hv11598 => ?_)
                                  refine q_iadd (46 + v11598.toInt) rfl (by omega) (fun v11599 hv11599 => ?_)
                                  refine r_istore ([(7, .int v11599), (0, .ref 231), (1, .int v11500), (2, .int v11560), (3, .int v11577), (4, .int v11502), (5, .int v11504), (6, .int v11506)]) rfl ?_
                                  refine r_aload_n rfl ?_
                                  refine q_getR (Sh.ref hI11457.1 kx_231 rfl) ?_
                                  refine r_iload rfl ?_
                                  refine r_iload_n rfl ?_
                                  refine q_iast (Sh.arr hI11457.1 ka_233) ((6 * v11493.toInt + 46)) (by omega) (by omega) ?_
                                  have hI11600 := HI.wl hI11457 (j := (6 * v11493.toInt + 46)) (v := v11500) (v11493.toInt) 0 (by omega) (by decide) (by omega) (by omega)
                                  have hF11601 := Fr.wA (p := 233) (j := (6 * v11493.toInt + 46)) (v := v11500) hF11458 rfl
                                  refine r_aload_n rfl ?_
                                  refine q_getR (Sh.ref hI11600.1 kx_231 rfl) ?_
                                  refine r_iload rfl ?_
                                  refine r_iconst 1 rfl ?_
                                  refine q_iadd (v11599.toInt + 1) rfl (by omega) (fun v11602 hv11602 => ?_)
                                  refine r_iload_n rfl ?_
                                  refine q_iast (Sh.arr hI11600.1 ka_233) ((6 * v11493.toInt + 47)) (by omega) (by omega) ?_
                                  have x11605 := HI.eqA hI11600 (p := 233) (j := 0) (((eA_sA_ne hI11457.1 ka_233 (by first | decide | omega) (by first | decide | omega) (by first | decide | omega)).trans e11462))
                                  have hI11603 := HI.wl hI11600 (j := (6 * v11493.toInt + 47)) (v := v11560) (v11493.toInt) 1 (by omega) (by decide) (by omega) (by omega)
                                  have hF11604 := Fr.wA (p := 233) (j := (6 * v11493.toInt + 47)) (v := v11560) hF11601 rfl
                                  refine r_aload_n rfl ?_
                                  refine q_getR (Sh.ref hI11603.1 kx_231 rfl) ?_
                                  refine r_iload rfl ?_
                                  refine r_iconst 2 rfl ?_
                                  refine q_iadd (v11599.toInt + 2) rfl (by omega) (fun v11606 hv11606 => ?_)
                                  refine r_iload_n rfl ?_
                                  refine q_iast (Sh.arr hI11603.1 ka_233) ((6 * v11493.toInt + 48)) (by omega) (by omega) ?_
                                  have x11609 := HI.eqA hI11603 (p := 233) (j := 0) ((((eA_sA_ne hI11600.1 ka_233 (by first | decide | omega) (by first | decide | omega) (by first | decide | omega)).trans (eA_sA_ne hI11457.1 ka_233 (by first | decide | omega) (by first | decide | omega) (by first | decide | omega))).trans e11462))
                                  have hI11607 := HI.wl hI11603 (j := (6 * v11493.toInt + 48)) (v := v11577) (v11493.toInt) 2 (by omega) (by decide) (by omega) (by omega)
                                  have hF11608 := Fr.wA (p := 233) (j := (6 * v11493.toInt + 48)) (v := v11577) hF11604 rfl
                                  refine r_aload_n rfl ?_
                                  refine q_getR (Sh.ref hI11607.1 kx_231 rfl) ?_
                                  refine r_iload rfl ?_
                                  refine r_iconst 3 rfl ?_
                                  refine q_iadd (v11599.toInt + 3) rfl (by omega) (fun v11610 hv11610 => ?_)
                                  refine r_iload rfl ?_
                                  refine q_iast (Sh.arr hI11607.1 ka_233) ((6 * v11493.toInt + 49)) (by omega) (by omega) ?_
                                  have hI11611 := HI.wl hI11607 (j := (6 * v11493.toInt + 49)) (v := v11502) (v11493.toInt) 3 (by omega) (by decide) (by omega) (by omega)
                                  have hF11612 := Fr.wA (p := 233) (j := (6 * v11493.toInt + 49)) (v := v11502) hF11608 rfl
                                  refine r_aload_n rfl ?_
                                  refine q_getR (Sh.ref hI11611.1 kx_231 rfl) ?_
                                  refine r_iload rfl ?_
                                  refine r_iconst 4 rfl ?_
                                  refine q_iadd (v11599.toInt + 4) rfl (by omega) (fun v11613 hv11613 => ?_)
                                  refine r_iload rfl ?_
                                  refine q_iast (Sh.arr hI11611.1 ka_233) ((6 * v11493.toInt + 50)) (by omega) (by omega) ?_
                                  have hI11614 := HI.wl hI11611 (j := (6 * v11493.toInt + 50)) (v := v11504) (v11493.toInt) 4 (by omega) (by decide) (by omega) (by omega)
                                  have hF11615 := Fr.wA (p := 233) (j := (6 * v11493.toInt + 50)) (v := v11504) hF11612 rfl
                                  refine r_aload_n rfl ?_
                                  refine q_getR (Sh.ref hI11614.1 kx_231 rfl) ?_
                                  refine r_iload rfl ?_
                                  refine r_iconst 5 rfl ?_
                                  refine q_iadd (v11599.toInt + 5) rfl (by omega) (fun v11616 hv11616 => ?_)
                                  refine r_iload rfl ?_
                                  refine q_iast (Sh.arr hI11614.1 ka_233) ((6 * v11493.toInt + 51)) (by omega) (by omega) ?_
                                  have hI11617 := HI.wl hI11614 (j := (6 * v11493.toInt + 51)) (v := v11506) (v11493.toInt) 5 (by omega) (by decide) (by omega) (by omega)
                                  have hF11618 := Fr.wA (p := 233) (j := (6 * v11493.toInt + 51)) (v := v11506) hF11615 rfl
                                  refine r_aload_n rfl ?_
                                  refine q_getR (Sh.ref hI11617.1 kx_231 rfl) ?_
                                  refine r_iconst 1 rfl ?_
                                  refine r_dup2 ⟨rfl, rfl⟩ ?_
                                  refine q_iald (Sh.arr hI11617.1 ka_233) 1 rfl (by decide) v11493 (((eA_sA_ne hI11614.1 ka_233 (by first | decide | omega) (by first | decide | omega) (by first | decide | omega)).trans ((eA_sA_ne hI11611.1 ka_233 (by first | decide | omega) (by first | decide | omega) (by first | decide | omega)).trans ((eA_sA_ne hI11607.1 ka_233 (by first | decide | omega) (by first | decide | omega) (by first | decide | omega)).trans ((eA_sA_ne hI11603.1 ka_233 (by first | decide | omega) (by first | decide | omega) (by first | decide | omega)).trans ((eA_sA_ne hI11600.1 ka_233 (by first | decide | omega) (by first | decide | omega) (by first | decide | omega)).trans (eA_sA_ne hI11457.1 ka_233 (by first | decide | omega) (by first | decide | omega) (by first | decide | omega))))))).trans hv11493) ?_
                                  refine r_iconst 1 rfl ?_
                                  refine q_iadd (v11493.toInt + 1) rfl (by omega) (fun v11619 hv11619 => ?_)
                                  refine q_iast (Sh.arr hI11617.1 ka_233) (1) rfl (by decide) ?_
                                  have x11622 := HI.eqA hI11617 (p := 233) (j := 0) ((((eA_sA_ne hI11614.1 ka_233 (by first | decide | omega) (by first | decide | omega) (by first | decide | omega)).trans ((eA_sA_ne hI11611.1 ka_233 (by first | decide | omega) (by first | decide | omega) (by first | decide | omega)).trans ((eA_sA_ne hI11607.1 ka_233 (by first | decide | omega) (by first | decide | omega) (by first | decide | omega)).trans ((eA_sA_ne hI11603.1 ka_233 (by first | decide | omega) (by first | decide | omega) (by first | decide | omega)).trans ((eA_sA_ne hI11600.1 ka_233 (by first | decide | omega) (by first | decide | omega) (by first | decide | omega)).trans (eA_sA_ne hI11457.1 ka_233 (by first | decide | omega) (by first | decide | omega) (by first | decide | omega))))))).trans e11462))
                                  have x11623 := HI.eqA hI11617 (p := 233) (j := 1) ((((eA_sA_ne hI11614.1 ka_233 (by first | decide | omega) (by first | decide | omega) (by first | decide | omega)).trans ((eA_sA_ne hI11611.1 ka_233 (by first | decide | omega) (by first | decide | omega) (by first | decide | omega)).trans ((eA_sA_ne hI11607.1 ka_233 (by first | decide | omega) (by first | decide | omega) (by first | decide | omega)).trans ((eA_sA_ne hI11603.1 ka_233 (by first | decide | omega) (by first | decide | omega) (by first | decide | omega)).trans ((eA_sA_ne hI11600.1 ka_233 (by first | decide | omega) (by first | decide | omega) (by first | decide | omega)).trans (eA_sA_ne hI11457.1 ka_233 (by first | decide | omega) (by first | decide | omega) (by first | decide | omega))))))).trans hv11493))
                                  have yv11624 := HI.lt hI11617
                                  have hI11620 := HI.wt hI11617 (j := 1) (v := v11619) (by omega) (by omega)
                                  have hF11621 := Fr.wA (p := 233) (j := 1) (v := v11619) hF11618 rfl
                                  refine q_vret ?_
                                  refine At.enter rfl ?_
                                  refine q_iinc (w_p1 (by decide) (Or.inr rfl) (w_p1 (by decide) (Or.inr rfl) e11465)) (x11454.toInt + 1) rfl (by omega) (fun v11625 hv11625 => ?_)
                                  refine r_goto ?_
                                  refine At.enter rfl ?_
                                  refine q_iinc (w_p1 (by decide) (Or.inr rfl) (w_p1 (by decide) (Or.inr rfl) (w_p1 (by decide) (Or.inr rfl) e11466))) (x11455.toInt + 6) rfl (by omega) (fun v11626 hv11626 => ?_)
                                  refine r_goto ?_
                                  exact ih11461 (405 - v11626.toInt) _ _ ⟨v11625, v11626, by first | rfl | omega, hI11620, hF11621, (((eA_sA_ne hI11617.1 ka_233 (by first | decide | omega) (by first | decide | omega) (by first | decide | omega)).trans ((eA_sA_ne hI11614.1 ka_233 (by first | decide | omega) (by first | decide | omega) (by first | decide | omega)).trans ((eA_sA_ne hI11611.1 ka_233 (by first | decide | omega) (by first | decide | omega) (by first | decide | omega)).trans ((eA_sA_ne hI11607.1 ka_233 (by first | decide | omega) (by first | decide | omega) (by first | decide | omega)).trans ((eA_sA_ne hI11603.1 ka_233 (by first | decide | omega) (by first | decide | omega) (by first | decide | omega)).trans ((eA_sA_ne hI11600.1 ka_233 (by first | decide | omega) (by first | decide | omega) (by first | decide | omega)).trans (eA_sA_ne hI11457.1 ka_233 (by first | decide | omega) (by first | decide | omega) (by first | decide | omega)))))))).trans e11462), (w_p1 (by decide) (Or.inr rfl) (w_p1 (by decide) (Or.inr rfl) (w_p1 (by decide) (Or.inr rfl) (w_p1 (by decide) (Or.inr rfl) e11463)))), (w_p1 (by decide) (Or.inr rfl) (w_p1 (by decide) (Or.inr rfl) (w_p1 (by decide) (Or.inr rfl) (w_p1 (by decide) (Or.inr rfl) e11464)))), (w_p1 (by decide) (Or.inr rfl) (w_e1 _ _ _)), (w_e1 _ _ _), by omega, by omega, by omega⟩ ⟨by omega, by omega⟩
  · have c7760_ : v7757.toInt = 0 := en_k_ne_f c7760
    refine At.enter rfl ?_
    refine r_aload_n rfl ?_
    refine r_bipush (-6) rfl ?_
    refine r_callV 25 rfl [.ref 231, .int (-6)] [] (Nat.le_of_ble_eq_true rfl) rfl (T_X11_tell_231 _ hI7758 (-6) (by decide)) ?_
    rintro _ _ ⟨g11627, rfl, hI11628, hF11629, v11630, rfl, hr11631⟩
    refine At.sti ?_
    have hF11632 := Fr.tr hF7759 hF11629 rfl rfl
    have zv11633 : ((-6) : Int32).toInt = (-6) := rfl
    refine At.enter rfl ?_
    refine r_ireti ?_
    obtain ⟨v11634, hv11634⟩ : ∃ v, eA g0 233 0 = v := ⟨_, rfl⟩
    have tv11634 := congrArg Int32.toInt hv11634
    have wv11634 := HI.t0 hI0
    rw [hv11634] at wv11634
    have tv11634 := congrArg Int32.toInt hv11634
    have x11635 := HI.eqA hI11628 (p := 233) (j := 0) ((((eA_c (hF11629.2.1 233 (by decide))).trans ((eA_c gA_sI).trans (eA_c gA_sI))).trans hv11634))
    have x11636 := HI.eqA hI0 (p := 233) (j := 0) (hv11634)
    exact ⟨_, rfl, hI11628, hF11632, _, rfl, by omega, (by omega)⟩

def F_X11_image_231 : List (Nat × Nat) := [(231, 0), (231, 1)]
def A_X11_image_231 : List Nat := [232, 234, 235]
set_option maxRecDepth 100000 in
set_option maxHeartbeats 4000000 in
theorem T_X11_image_231 (d : Nat) {N : Nat} {g0 : List en_E} (hI0 : HI g0) (a1 : Int32) : Ev (d + 2) 165 [.ref 231, .int a1] (g0, N) (fun w h' => ∃ g', h' = (g', N) ∧ HI g' ∧ Fr F_X11_image_231 A_X11_image_231 g0 g' ∧ ∃ r : Int32, w = some (.int r) ∧ ((-1) ≤ r.toInt ∧ r.toInt ≤ 0) ∧ ((a1.toInt = 0 → (eA g' 234 0).toInt = (eA g0 233 0).toInt ∧ (eA g' 235 0).toInt = 1) ∧ (a1.toInt ≠ 0 → (eA g' 234 0).toInt = (eA g0 234 0).toInt ∧ (eA g' 235 0).toInt = (eA g0 235 0).toInt) ∧ (a1.toInt = 1 → (eA g' 234 5510).toInt = (eA g0 233 0).toInt ∧ (eA g' 235 1).toInt = 1) ∧ (a1.toInt ≠ 1 → (eA g' 234 5510).toInt = (eA g0 234 5510).toInt ∧ (eA g' 235 1).toInt = (eA g0 235 1).toInt))) := by
  have hF0 : Fr F_X11_image_231 A_X11_image_231 g0 g0 := Fr.rf
  refine Ev.mk rfl rfl ⟨Nat.le_of_ble_eq_true rfl, Or.inr (q_rc hI0.1 kx_231 rfl)⟩ ?_
  show At _ none _ _ (0, [(0, .ref 231), (1, .int a1)], [], (_, _)) _
  refine At.enter rfl ?_
  refine r_aload_n rfl ?_
  refine r_iconst 0 rfl ?_
  refine q_putI (Sh.int hI0.1 kx_231 rfl) rfl ?_
  have hI79 := HI.wI0 hI0 kx_231 rfl (p := 231) (b := 0) (v := 0) rfl
  have hF80 := Fr.wI (p := 231) (b := 0) (v := 0) hF0 rfl
  refine r_iload_n rfl ?_
  refine q_i2l (fun v81 hv81 => ?_)
  refine r_lconst 0 rfl ?_
  refine r_lconst 1 rfl ?_
  refine q_inlS 12 rfl [.long v81, .long 0, .long 1] [] (Nat.le_of_ble_eq_true rfl) rfl ?_
  refine Ev.mk rfl rfl ⟨Nat.le_of_ble_eq_true rfl, Or.inl rfl⟩ ?_
  show At _ none _ _ (0, [(0, .long v81), (2, .long 0), (4, .long 1)], [], (_, _)) _
  refine At.enter rfl ?_
  refine r_lload_n rfl ?_
  refine r_lload_n rfl ?_
  refine r_lcmp _ rfl ?_
  refine r_ifs 6 rfl (fun c82 => ?_) (fun c82 => ?_)
  · have c82_ : v81.toInt < 0 := en_j_lt_t c82
    refine At.enter rfl ?_
    refine r_iconst 0 rfl ?_
    refine Ar.fall 18 rfl ?_
    refine At.enter rfl ?_
    refine q_iretz (by decide) ?_
    refine At.enter rfl ?_
    refine r_iff 15 rfl (by decide) ?_
    refine At.enter rfl ?_
    refine r_aload_n rfl ?_
    refine r_iconst (-1) rfl ?_
    refine r_callV 20 rfl [.ref 231, .int (-1)] [] (Nat.le_of_ble_eq_true rfl) rfl (T_X11_tell_231 _ hI79 (-1) (by decide)) ?_
    rintro _ _ ⟨g83, rfl, hI84, hF85, v86, rfl, hr87⟩
    refine At.sti ?_
    have hF88 := Fr.tr hF80 hF85 rfl rfl
    have zv89 : ((-1) : Int32).toInt = (-1) := rfl
    refine At.enter rfl ?_
    refine r_ireti ?_
    obtain ⟨v90, hv90⟩ : ∃ v, eA g0 234 0 = v := ⟨_, rfl⟩
    have tv90 := congrArg Int32.toInt hv90
    have x91 := HI.eqA hI0 (p := 234) (j := 0) (hv90)
    obtain ⟨v92, hv92⟩ : ∃ v, eA g0 234 5510 = v := ⟨_, rfl⟩
    have tv92 := congrArg Int32.toInt hv92
    have x93 := HI.eqA hI0 (p := 234) (j := 5510) (hv92)
    obtain ⟨v94, hv94⟩ : ∃ v, eA g0 235 0 = v := ⟨_, rfl⟩
    have tv94 := congrArg Int32.toInt hv94
    have x95 := HI.eqA hI0 (p := 235) (j := 0) (hv94)
    obtain ⟨v96, hv96⟩ : ∃ v, eA g0 235 1 = v := ⟨_, rfl⟩
    have tv96 := congrArg Int32.toInt hv96
    have x97 := HI.eqA hI0 (p := 235) (j := 1) (hv96)
    obtain ⟨v98, hv98⟩ : ∃ v, eA g0 233 0 = v := ⟨_, rfl⟩
    have tv98 := congrArg Int32.toInt hv98
    have wv98 := HI.t0 hI0
    rw [hv98] at wv98
    have tv98 := congrArg Int32.toInt hv98
    have x99 := HI.eqA hI0 (p := 233) (j := 0) (hv98)
    have x100 := HI.eqA hI84 (p := 234) (j := 0) ((((eA_c (hF85.2.1 234 (by decide))).trans (eA_c gA_sI)).trans hv90))
    have x101 := HI.eqA hI84 (p := 234) (j := 5510) ((((eA_c (hF85.2.1 234 (by decide))).trans (eA_c gA_sI)).trans hv92))
    have x102 := HI.eqA hI84 (p := 235) (j := 0) ((((eA_c (hF85.2.1 235 (by decide))).trans (eA_c gA_sI)).trans hv94))
    have x103 := HI.eqA hI84 (p := 235) (j := 1) ((((eA_c (hF85.2.1 235 (by decide))).trans (eA_c gA_sI)).trans hv96))
    exact ⟨_, rfl, hI84, hF88, _, rfl, by omega, (by omega)⟩
  · have c82_ : v81.toInt ≥ 0 := en_j_lt_f c82
    refine At.enter rfl ?_
    refine r_lload_n rfl ?_
    refine r_lload rfl ?_
    refine r_lcmp _ rfl ?_
    refine r_ifs 13 rfl (fun c104 => ?_) (fun c104 => ?_)
    · have c104_ : v81.toInt > 1 := en_j_gt_t c104
      refine At.enter rfl ?_
      refine r_iconst 0 rfl ?_
      refine Ar.fall 18 rfl ?_
      refine At.enter rfl ?_
      refine q_iretz (by decide) ?_
      refine At.enter rfl ?_
      refine r_iff 15 rfl (by decide) ?_
      refine At.enter rfl ?_
      refine r_aload_n rfl ?_
      refine r_iconst (-1) rfl ?_
      refine r_callV 20 rfl [.ref 231, .int (-1)] [] (Nat.le_of_ble_eq_true rfl) rfl (T_X11_tell_231 _ hI79 (-1) (by decide)) ?_
      rintro _ _ ⟨g105, rfl, hI106, hF107, v108, rfl, hr109⟩
      refine At.sti ?_
      have hF110 := Fr.tr hF80 hF107 rfl rfl
      have zv111 : ((-1) : Int32).toInt = (-1) := rfl
      refine At.enter rfl ?_
      refine r_ireti ?_
      obtain ⟨v112, hv112⟩ : ∃ v, eA g0 234 0 = v := ⟨_, rfl⟩
      have tv112 := congrArg Int32.toInt hv112
      have x113 := HI.eqA hI0 (p := 234) (j := 0) (hv112)
      obtain ⟨v114, hv114⟩ : ∃ v, eA g0 234 5510 = v := ⟨_, rfl⟩
      have tv114 := congrArg Int32.toInt hv114
      have x115 := HI.eqA hI0 (p := 234) (j := 5510) (hv114)
      obtain ⟨v116, hv116⟩ : ∃ v, eA g0 235 0 = v := ⟨_, rfl⟩
      have tv116 := congrArg Int32.toInt hv116
      have x117 := HI.eqA hI0 (p := 235) (j := 0) (hv116)
      obtain ⟨v118, hv118⟩ : ∃ v, eA g0 235 1 = v := ⟨_, rfl⟩
      have tv118 := congrArg Int32.toInt hv118
      have x119 := HI.eqA hI0 (p := 235) (j := 1) (hv118)
      obtain ⟨v120, hv120⟩ : ∃ v, eA g0 233 0 = v := ⟨_, rfl⟩
      have tv120 := congrArg Int32.toInt hv120
      have wv120 := HI.t0 hI0
      rw [hv120] at wv120
      have tv120 := congrArg Int32.toInt hv120
      have x121 := HI.eqA hI0 (p := 233) (j := 0) (hv120)
      have x122 := HI.eqA hI106 (p := 234) (j := 0) ((((eA_c (hF107.2.1 234 (by decide))).trans (eA_c gA_sI)).trans hv112))
      have x123 := HI.eqA hI106 (p := 234) (j := 5510) ((((eA_c (hF107.2.1 234 (by decide))).trans (eA_c gA_sI)).trans hv114))
      have x124 := HI.eqA hI106 (p := 235) (j := 0) ((((eA_c (hF107.2.1 235 (by decide))).trans (eA_c gA_sI)).trans hv116))
      have x125 := HI.eqA hI106 (p := 235) (j := 1) ((((eA_c (hF107.2.1 235 (by decide))).trans (eA_c gA_sI)).trans hv118))
      exact ⟨_, rfl, hI106, hF110, _, rfl, by omega, (by omega)⟩
    · have c104_ : v81.toInt ≤ 1 := en_j_gt_f c104
      refine At.enter rfl ?_
      refine r_iconst 1 rfl ?_
      refine r_goto ?_
      refine At.enter rfl ?_
      refine q_iretz (by decide) ?_
      refine At.enter rfl ?_
      refine r_ift (by decide) ?_
      refine At.enter rfl ?_
      refine r_iconst 0 rfl ?_
      refine r_istore_n ([(2, .int 0), (0, .ref 231), (1, .int a1)]) rfl ?_
      refine Ar.fall 23 rfl ?_
      refine zi_loopG hI79 ⟨by omega, by omega⟩ rfl rfl rfl (fun ys126 l127 hI133 hW134 hl128 hc129 hf130 e131 e132 => ?_)
      have hF135 := Fr.tr hF80 hl128 rfl rfl
      have m136_0 : a1.toInt = 0 → (eA ys126 234 0).toInt = (eA g0 233 0).toInt ∧ (eA ys126 234 5510).toInt = (eA g0 234 5510).toInt := fun e => ⟨by have z := hc129 0 (by decide) (by decide); rw [show 5510 * a1.toInt + 0 = 0 by omega, eA_c (gA_sI)] at z; exact congrArg Int32.toInt z, by have z := hf130 5510 (by decide) (by omega); rw [eA_c (gA_sI)] at z; exact congrArg Int32.toInt z⟩
      have m136_1 : a1.toInt = 1 → (eA ys126 234 5510).toInt = (eA g0 233 0).toInt ∧ (eA ys126 234 0).toInt = (eA g0 234 0).toInt := fun e => ⟨by have z := hc129 0 (by decide) (by decide); rw [show 5510 * a1.toInt + 0 = 5510 by omega, eA_c (gA_sI)] at z; exact congrArg Int32.toInt z, by have z := hf130 0 (by decide) (by omega); rw [eA_c (gA_sI)] at z; exact congrArg Int32.toInt z⟩
      refine At.enter rfl ?_
      refine r_aload_n e131 ?_
      refine q_getR (Sh.ref hI133.1 kx_231 rfl) ?_
      refine r_iload_n e132 ?_
      refine r_iconst 1 rfl ?_
      refine q_bast (Sh.arr hI133.1 ka_235) (a1.toInt) rfl (by omega) rfl ?_
      have hI137 := HI.kept hI133 (k := a1.toInt) (v := 1) ⟨by omega, by omega⟩ hW134
      have hF138 := Fr.wA (p := 235) (j := a1.toInt) (v := 1) hF135 rfl
      refine r_aload_n e131 ?_
      refine r_iconst 0 rfl ?_
      refine r_callV 66 rfl [.ref 231, .int 0] [] (Nat.le_of_ble_eq_true rfl) rfl (T_X11_tell_231 _ hI137 0 (by decide)) ?_
      rintro _ _ ⟨g139, rfl, hI140, hF141, v142, rfl, hr143⟩
      refine At.sti ?_
      have hF144 := Fr.tr hF138 hF141 rfl rfl
      have zv145 : (0 : Int32).toInt = 0 := rfl
      refine At.enter rfl ?_
      refine r_ireti ?_
      obtain ⟨v146, hv146⟩ : ∃ v, eA g0 234 0 = v := ⟨_, rfl⟩
      have tv146 := congrArg Int32.toInt hv146
      have x147 := HI.eqA hI0 (p := 234) (j := 0) (hv146)
      obtain ⟨v148, hv148⟩ : ∃ v, eA g0 234 5510 = v := ⟨_, rfl⟩
      have tv148 := congrArg Int32.toInt hv148
      have x149 := HI.eqA hI0 (p := 234) (j := 5510) (hv148)
      obtain ⟨v150, hv150⟩ : ∃ v, eA g0 235 0 = v := ⟨_, rfl⟩
      have tv150 := congrArg Int32.toInt hv150
      have x151 := HI.eqA hI0 (p := 235) (j := 0) (hv150)
      obtain ⟨v152, hv152⟩ : ∃ v, eA g0 235 1 = v := ⟨_, rfl⟩
      have tv152 := congrArg Int32.toInt hv152
      have x153 := HI.eqA hI0 (p := 235) (j := 1) (hv152)
      obtain ⟨v154, hv154⟩ : ∃ v, eA g0 233 0 = v := ⟨_, rfl⟩
      have tv154 := congrArg Int32.toInt hv154
      have wv154 := HI.t0 hI0
      rw [hv154] at wv154
      have tv154 := congrArg Int32.toInt hv154
      have x155 := HI.eqA hI0 (p := 233) (j := 0) (hv154)
      obtain ⟨v156, hv156⟩ : ∃ v, eA ys126 234 0 = v := ⟨_, rfl⟩
      have tv156 := congrArg Int32.toInt hv156
      have x157 := fun e : a1.toInt = 0 => HI.eqA hI140 (p := 234) (j := 0) ((((eA_c (hF141.2.1 234 (by decide))).trans (eA_c (gA_sA_ne (by decide)))).trans hv156))
      obtain ⟨v158, hv158⟩ : ∃ v, eA ys126 234 5510 = v := ⟨_, rfl⟩
      have tv158 := congrArg Int32.toInt hv158
      have x159 := fun e : a1.toInt = 0 => HI.eqA hI140 (p := 234) (j := 5510) ((((eA_c (hF141.2.1 234 (by decide))).trans (eA_c (gA_sA_ne (by decide)))).trans hv158))
      have x160 := fun e : a1.toInt = 0 => HI.eqA hI140 (p := 235) (j := 0) (((eA_c (hF141.2.1 235 (by decide))).trans (eA_sA_eq hI133.1 ka_235 (by omega) (by first | decide | omega) (by first | decide | omega))))
      have zv161 : (1 : Int32).toInt = 1 := rfl
      have x162 := fun e : a1.toInt = 0 => HI.eqA hI140 (p := 235) (j := 1) ((((eA_c (hF141.2.1 235 (by decide))).trans ((eA_sA_ne hI133.1 ka_235 (by first | decide | omega) (by first | decide | omega) (by first | decide | omega)).trans ((eA_c (hl128.2.1 235 (by decide))).trans (eA_c gA_sI)))).trans hv152))
      have x163 := fun e : a1.toInt = 1 => HI.eqA hI140 (p := 234) (j := 0) ((((eA_c (hF141.2.1 234 (by decide))).trans (eA_c (gA_sA_ne (by decide)))).trans hv156))
      have x164 := fun e : a1.toInt = 1 => HI.eqA hI140 (p := 234) (j := 5510) ((((eA_c (hF141.2.1 234 (by decide))).trans (eA_c (gA_sA_ne (by decide)))).trans hv158))
      have x165 := fun e : a1.toInt = 1 => HI.eqA hI140 (p := 235) (j := 0) ((((eA_c (hF141.2.1 235 (by decide))).trans ((eA_sA_ne hI133.1 ka_235 (by first | decide | omega) (by first | decide | omega) (by first | decide | omega)).trans ((eA_c (hl128.2.1 235 (by decide))).trans (eA_c gA_sI)))).trans hv150))
      have x166 := fun e : a1.toInt = 1 => HI.eqA hI140 (p := 235) (j := 1) (((eA_c (hF141.2.1 235 (by decide))).trans (eA_sA_eq hI133.1 ka_235 (by omega) (by first | decide | omega) (by first | decide | omega))))
      have zv167 : (1 : Int32).toInt = 1 := rfl
      exact ⟨_, rfl, hI140, hF144, _, rfl, by omega, (by omega)⟩

def F_X11_back_231 : List (Nat × Nat) := [(231, 0), (231, 1)]
def A_X11_back_231 : List Nat := [232, 233]
set_option maxRecDepth 100000 in
set_option maxHeartbeats 4000000 in
theorem T_X11_back_231 (d : Nat) {N : Nat} {g0 : List en_E} (hI0 : HI g0) (a1 : Int32) : Ev (d + 2) 166 [.ref 231, .int a1] (g0, N) (fun w h' => ∃ g', h' = (g', N) ∧ HI g' ∧ Fr F_X11_back_231 A_X11_back_231 g0 g' ∧ ∃ r : Int32, w = some (.int r) ∧ ((-2) ≤ r.toInt ∧ r.toInt ≤ 0) ∧ ((a1.toInt = 0 ∧ (eA g0 235 0).toInt ≠ 0 → (eA g' 233 0).toInt = (eA g0 234 0).toInt) ∧ (a1.toInt = 1 ∧ (eA g0 235 1).toInt ≠ 0 → (eA g' 233 0).toInt = (eA g0 234 5510).toInt) ∧ (¬ (a1.toInt = 0 ∧ (eA g0 235 0).toInt ≠ 0) ∧ ¬ (a1.toInt = 1 ∧ (eA g0 235 1).toInt ≠ 0) → (eA g' 233 0).toInt = (eA g0 233 0).toInt))) := by
  have hF0 : Fr F_X11_back_231 A_X11_back_231 g0 g0 := Fr.rf
  refine Ev.mk rfl rfl ⟨Nat.le_of_ble_eq_true rfl, Or.inr (q_rc hI0.1 kx_231 rfl)⟩ ?_
  show At _ none _ _ (0, [(0, .ref 231), (1, .int a1)], [], (_, _)) _
  refine At.enter rfl ?_
  refine r_aload_n rfl ?_
  refine r_iconst 0 rfl ?_
  refine q_putI (Sh.int hI0.1 kx_231 rfl) rfl ?_
  have hI93 := HI.wI0 hI0 kx_231 rfl (p := 231) (b := 0) (v := 0) rfl
  have hF94 := Fr.wI (p := 231) (b := 0) (v := 0) hF0 rfl
  refine r_iload_n rfl ?_
  refine q_i2l (fun v95 hv95 => ?_)
  refine r_lconst 0 rfl ?_
  refine r_lconst 1 rfl ?_
  refine q_inlS 12 rfl [.long v95, .long 0, .long 1] [] (Nat.le_of_ble_eq_true rfl) rfl ?_
  refine Ev.mk rfl rfl ⟨Nat.le_of_ble_eq_true rfl, Or.inl rfl⟩ ?_
  show At _ none _ _ (0, [(0, .long v95), (2, .long 0), (4, .long 1)], [], (_, _)) _
  refine At.enter rfl ?_
  refine r_lload_n rfl ?_
  refine r_lload_n rfl ?_
  refine r_lcmp _ rfl ?_
  refine r_ifs 6 rfl (fun c96 => ?_) (fun c96 => ?_)
  · have c96_ : v95.toInt < 0 := en_j_lt_t c96
    refine At.enter rfl ?_
    refine r_iconst 0 rfl ?_
    refine Ar.fall 18 rfl ?_
    refine At.enter rfl ?_
    refine q_iretz (by decide) ?_
    refine At.enter rfl ?_
    refine r_iff 15 rfl (by decide) ?_
    refine At.enter rfl ?_
    refine r_aload_n rfl ?_
    refine r_iconst (-1) rfl ?_
    refine r_callV 20 rfl [.ref 231, .int (-1)] [] (Nat.le_of_ble_eq_true rfl) rfl (T_X11_tell_231 _ hI93 (-1) (by decide)) ?_
    rintro _ _ ⟨g97, rfl, hI98, hF99, v100, rfl, hr101⟩
    refine At.sti ?_
    have hF102 := Fr.tr hF94 hF99 rfl rfl
    have zv103 : ((-1) : Int32).toInt = (-1) := rfl
    refine At.enter rfl ?_
    refine r_ireti ?_
    obtain ⟨v104, hv104⟩ : ∃ v, eA g0 233 0 = v := ⟨_, rfl⟩
    have tv104 := congrArg Int32.toInt hv104
    have wv104 := HI.t0 hI0
    rw [hv104] at wv104
    have tv104 := congrArg Int32.toInt hv104
    have x105 := HI.eqA hI0 (p := 233) (j := 0) (hv104)
    obtain ⟨v106, hv106⟩ : ∃ v, eA g0 234 0 = v := ⟨_, rfl⟩
    have tv106 := congrArg Int32.toInt hv106
    have x107 := HI.eqA hI0 (p := 234) (j := 0) (hv106)
    obtain ⟨v108, hv108⟩ : ∃ v, eA g0 234 5510 = v := ⟨_, rfl⟩
    have tv108 := congrArg Int32.toInt hv108
    have x109 := HI.eqA hI0 (p := 234) (j := 5510) (hv108)
    obtain ⟨v110, hv110⟩ : ∃ v, eA g0 235 0 = v := ⟨_, rfl⟩
    have tv110 := congrArg Int32.toInt hv110
    have x111 := HI.eqA hI0 (p := 235) (j := 0) (hv110)
    obtain ⟨v112, hv112⟩ : ∃ v, eA g0 235 1 = v := ⟨_, rfl⟩
    have tv112 := congrArg Int32.toInt hv112
    have x113 := HI.eqA hI0 (p := 235) (j := 1) (hv112)
    have x114 := HI.eqA hI98 (p := 233) (j := 0) ((((eA_c (hF99.2.1 233 (by decide))).trans (eA_c gA_sI)).trans hv104))
    exact ⟨_, rfl, hI98, hF102, _, rfl, by omega, (by omega)⟩
  · have c96_ : v95.toInt ≥ 0 := en_j_lt_f c96
    refine At.enter rfl ?_
    refine r_lload_n rfl ?_
    refine r_lload rfl ?_
    refine r_lcmp _ rfl ?_
    refine r_ifs 13 rfl (fun c115 => ?_) (fun c115 => ?_)
    · have c115_ : v95.toInt > 1 := en_j_gt_t c115
      refine At.enter rfl ?_
      refine r_iconst 0 rfl ?_
      refine Ar.fall 18 rfl ?_
      refine At.enter rfl ?_
      refine q_iretz (by decide) ?_
      refine At.enter rfl ?_
      refine r_iff 15 rfl (by decide) ?_
      refine At.enter rfl ?_
      refine r_aload_n rfl ?_
      refine r_iconst (-1) rfl ?_
      refine r_callV 20 rfl [.ref 231, .int (-1)] [] (Nat.le_of_ble_eq_true rfl) rfl (T_X11_tell_231 _ hI93 (-1) (by decide)) ?_
      rintro _ _ ⟨g116, rfl, hI117, hF118, v119, rfl, hr120⟩
      refine At.sti ?_
      have hF121 := Fr.tr hF94 hF118 rfl rfl
      have zv122 : ((-1) : Int32).toInt = (-1) := rfl
      refine At.enter rfl ?_
      refine r_ireti ?_
      obtain ⟨v123, hv123⟩ : ∃ v, eA g0 233 0 = v := ⟨_, rfl⟩
      have tv123 := congrArg Int32.toInt hv123
      have wv123 := HI.t0 hI0
      rw [hv123] at wv123
      have tv123 := congrArg Int32.toInt hv123
      have x124 := HI.eqA hI0 (p := 233) (j := 0) (hv123)
      obtain ⟨v125, hv125⟩ : ∃ v, eA g0 234 0 = v := ⟨_, rfl⟩
      have tv125 := congrArg Int32.toInt hv125
      have x126 := HI.eqA hI0 (p := 234) (j := 0) (hv125)
      obtain ⟨v127, hv127⟩ : ∃ v, eA g0 234 5510 = v := ⟨_, rfl⟩
      have tv127 := congrArg Int32.toInt hv127
      have x128 := HI.eqA hI0 (p := 234) (j := 5510) (hv127)
      obtain ⟨v129, hv129⟩ : ∃ v, eA g0 235 0 = v := ⟨_, rfl⟩
      have tv129 := congrArg Int32.toInt hv129
      have x130 := HI.eqA hI0 (p := 235) (j := 0) (hv129)
      obtain ⟨v131, hv131⟩ : ∃ v, eA g0 235 1 = v := ⟨_, rfl⟩
      have tv131 := congrArg Int32.toInt hv131
      have x132 := HI.eqA hI0 (p := 235) (j := 1) (hv131)
      have x133 := HI.eqA hI117 (p := 233) (j := 0) ((((eA_c (hF118.2.1 233 (by decide))).trans (eA_c gA_sI)).trans hv123))
      exact ⟨_, rfl, hI117, hF121, _, rfl, by omega, (by omega)⟩
    · have c115_ : v95.toInt ≤ 1 := en_j_gt_f c115
      refine At.enter rfl ?_
      refine r_iconst 1 rfl ?_
      refine r_goto ?_
      refine At.enter rfl ?_
      refine q_iretz (by decide) ?_
      refine At.enter rfl ?_
      refine r_ift (by decide) ?_
      refine At.enter rfl ?_
      refine r_aload_n rfl ?_
      refine q_getR (Sh.ref hI93.1 kx_231 rfl) ?_
      refine r_iload_n rfl ?_
      obtain ⟨v134, hv134⟩ : ∃ v, eA g0 235 a1.toInt = v := ⟨_, rfl⟩
      refine q_bald (Sh.arr hI93.1 ka_235) a1.toInt rfl (by omega) v134 ((eA_c (gA_sI)).trans hv134) ?_
      refine r_ifs 30 rfl (fun c135 => ?_) (fun c135 => ?_)
      · have c135_ : v134.toInt ≠ 0 := en_k_ne_t c135
        refine At.enter rfl ?_
        refine r_iconst 0 rfl ?_
        refine r_istore_n ([(2, .int 0), (0, .ref 231), (1, .int a1)]) rfl ?_
        refine Ar.fall 39 rfl ?_
        refine zb_loopG hI93 ⟨by omega, by omega⟩ (by rw [((eA_c gA_sI).trans hv134)]; omega) rfl rfl rfl (fun ys136 l137 hI143 hl138 hc139 e141 e142 => ?_)
        have hF145 := Fr.tr hF94 hl138 rfl rfl
        have m146_0 : a1.toInt = 0 → (eA ys136 233 0).toInt = (eA g0 234 0).toInt := fun e => by have z := hc139 0 (by decide) (by decide); rw [show 5510 * a1.toInt + 0 = 0 by omega, eA_c (gA_sI)] at z; exact congrArg Int32.toInt z
        have m146_1 : a1.toInt = 1 → (eA ys136 233 0).toInt = (eA g0 234 5510).toInt := fun e => by have z := hc139 0 (by decide) (by decide); rw [show 5510 * a1.toInt + 0 = 5510 by omega, eA_c (gA_sI)] at z; exact congrArg Int32.toInt z
        refine At.enter rfl ?_
        refine r_aload_n e141 ?_
        refine r_iconst 0 rfl ?_
        refine r_callV 75 rfl [.ref 231, .int 0] [] (Nat.le_of_ble_eq_true rfl) rfl (T_X11_tell_231 _ hI143 0 (by decide)) ?_
        rintro _ _ ⟨g147, rfl, hI148, hF149, v150, rfl, hr151⟩
        refine At.sti ?_
        have hF152 := Fr.tr hF145 hF149 rfl rfl
        have zv153 : (0 : Int32).toInt = 0 := rfl
        refine At.enter rfl ?_
        refine r_ireti ?_
        obtain ⟨v154, hv154⟩ : ∃ v, eA g0 233 0 = v := ⟨_, rfl⟩
        have tv154 := congrArg Int32.toInt hv154
        have wv154 := HI.t0 hI0
        rw [hv154] at wv154
        have tv154 := congrArg Int32.toInt hv154
        have x155 := HI.eqA hI0 (p := 233) (j := 0) (hv154)
        obtain ⟨v156, hv156⟩ : ∃ v, eA g0 234 0 = v := ⟨_, rfl⟩
        have tv156 := congrArg Int32.toInt hv156
        have x157 := HI.eqA hI0 (p := 234) (j := 0) (hv156)
        obtain ⟨v158, hv158⟩ : ∃ v, eA g0 234 5510 = v := ⟨_, rfl⟩
        have tv158 := congrArg Int32.toInt hv158
        have x159 := HI.eqA hI0 (p := 234) (j := 5510) (hv158)
        obtain ⟨v160, hv160⟩ : ∃ v, eA g0 235 0 = v := ⟨_, rfl⟩
        have tv160 := congrArg Int32.toInt hv160
        have x161 := HI.eqA hI0 (p := 235) (j := 0) (hv160)
        obtain ⟨v162, hv162⟩ : ∃ v, eA g0 235 1 = v := ⟨_, rfl⟩
        have tv162 := congrArg Int32.toInt hv162
        have x163 := HI.eqA hI0 (p := 235) (j := 1) (hv162)
        obtain ⟨v164, hv164⟩ : ∃ v, eA ys136 233 0 = v := ⟨_, rfl⟩
        have tv164 := congrArg Int32.toInt hv164
        have wv164 := HI.t0 hI143
        rw [hv164] at wv164
        have tv164 := congrArg Int32.toInt hv164
        have x165 := fun e : a1.toInt = 0 => HI.eqA hI148 (p := 233) (j := 0) (((eA_c (hF149.2.1 233 (by decide))).trans hv164))
        have y166 : a1.toInt = 0 → (eA g0 235 0).toInt = v134.toInt := fun e => by rw [← hv134, e]
        have x167 := fun e : a1.toInt = 1 => HI.eqA hI148 (p := 233) (j := 0) (((eA_c (hF149.2.1 233 (by decide))).trans hv164))
        have y168 : a1.toInt = 1 → (eA g0 235 1).toInt = v134.toInt := fun e => by rw [← hv134, e]
        exact ⟨_, rfl, hI148, hF152, _, rfl, by omega, (by omega)⟩
      · have c135_ : v134.toInt = 0 := en_k_ne_f c135
        refine At.enter rfl ?_
        refine r_aload_n rfl ?_
        refine r_bipush (-2) rfl ?_
        refine r_callV 36 rfl [.ref 231, .int (-2)] [] (Nat.le_of_ble_eq_true rfl) rfl (T_X11_tell_231 _ hI93 (-2) (by decide)) ?_
        rintro _ _ ⟨g169, rfl, hI170, hF171, v172, rfl, hr173⟩
        refine At.sti ?_
        have hF174 := Fr.tr hF94 hF171 rfl rfl
        have zv175 : ((-2) : Int32).toInt = (-2) := rfl
        refine At.enter rfl ?_
        refine r_ireti ?_
        obtain ⟨v176, hv176⟩ : ∃ v, eA g0 233 0 = v := ⟨_, rfl⟩
        have tv176 := congrArg Int32.toInt hv176
        have wv176 := HI.t0 hI0
        rw [hv176] at wv176
        have tv176 := congrArg Int32.toInt hv176
        have x177 := HI.eqA hI0 (p := 233) (j := 0) (hv176)
        obtain ⟨v178, hv178⟩ : ∃ v, eA g0 234 0 = v := ⟨_, rfl⟩
        have tv178 := congrArg Int32.toInt hv178
        have x179 := HI.eqA hI0 (p := 234) (j := 0) (hv178)
        obtain ⟨v180, hv180⟩ : ∃ v, eA g0 234 5510 = v := ⟨_, rfl⟩
        have tv180 := congrArg Int32.toInt hv180
        have x181 := HI.eqA hI0 (p := 234) (j := 5510) (hv180)
        obtain ⟨v182, hv182⟩ : ∃ v, eA g0 235 0 = v := ⟨_, rfl⟩
        have tv182 := congrArg Int32.toInt hv182
        have x183 := HI.eqA hI0 (p := 235) (j := 0) (hv182)
        obtain ⟨v184, hv184⟩ : ∃ v, eA g0 235 1 = v := ⟨_, rfl⟩
        have tv184 := congrArg Int32.toInt hv184
        have x185 := HI.eqA hI0 (p := 235) (j := 1) (hv184)
        have x186 := fun e : a1.toInt = 0 => HI.eqA hI170 (p := 233) (j := 0) ((((eA_c (hF171.2.1 233 (by decide))).trans (eA_c gA_sI)).trans hv176))
        have y187 : a1.toInt = 0 → (eA g0 235 0).toInt = v134.toInt := fun e => by rw [← hv134, e]
        have x188 := fun e : a1.toInt = 1 => HI.eqA hI170 (p := 233) (j := 0) ((((eA_c (hF171.2.1 233 (by decide))).trans (eA_c gA_sI)).trans hv176))
        have y189 : a1.toInt = 1 → (eA g0 235 1).toInt = v134.toInt := fun e => by rw [← hv134, e]
        exact ⟨_, rfl, hI170, hF174, _, rfl, by omega, (by omega)⟩
