def F_X11_fact_231 : List (Nat × Nat) := [(231, 0)]
def A_X11_fact_231 : List Nat := []
set_option maxRecDepth 100000 in
set_option maxHeartbeats 4000000 in
theorem T_X11_fact_231 (d : Nat) {N : Nat} {g0 : List en_E} (hI0 : HI g0) (a1 : Int32) (a2 : Int32) : Ev (d + 3) 179 [.ref 231, .int a1, .int a2] (g0, N) (fun w h' => ∃ g', h' = (g', N) ∧ HI g' ∧ Fr F_X11_fact_231 A_X11_fact_231 g0 g' ∧ ∃ r : Int32, w = some (.int r) ∧ True ∧ ((0 ≤ a1.toInt ∧ a1.toInt < (eA g0 233 1).toInt ∧ 0 ≤ a2.toInt ∧ a2.toInt < 6 → r.toInt = (eA g0 233 (46 + (6 * a1.toInt + a2.toInt))).toInt) ∧ (¬ (0 ≤ a1.toInt ∧ a1.toInt < (eA g0 233 1).toInt ∧ 0 ≤ a2.toInt ∧ a2.toInt < 6) → r.toInt = -1))) := by
  have hF0 : Fr F_X11_fact_231 A_X11_fact_231 g0 g0 := Fr.rf
  refine Ev.mk rfl rfl ⟨Nat.le_of_ble_eq_true rfl, Or.inr (q_rc hI0.1 kx_231 rfl)⟩ ?_
  show At _ none _ _ (0, [(0, .ref 231), (1, .int a1), (2, .int a2)], [], (_, _)) _
  refine At.enter rfl ?_
  refine r_aload_n rfl ?_
  refine r_iconst 0 rfl ?_
  refine q_putI (Sh.int hI0.1 kx_231 rfl) rfl ?_
  have hI31 := HI.wI0 hI0 kx_231 rfl (p := 231) (b := 0) (v := 0) rfl
  have hF32 := Fr.wI (p := 231) (b := 0) (v := 0) hF0 rfl
  refine r_aload_n rfl ?_
  refine r_iload_n rfl ?_
  refine q_inlV 10 rfl [.ref 231, .int a1] [] (Nat.le_of_ble_eq_true rfl) rfl ?_
  refine Ev.mk rfl rfl ⟨Nat.le_of_ble_eq_true rfl, Or.inr (q_rc hI31.1 kx_231 rfl)⟩ ?_
  show At _ none _ _ (0, [(0, .ref 231), (1, .int a1)], [], (_, _)) _
  refine At.enter rfl ?_
  refine r_iload_n rfl ?_
  refine q_i2l (fun v33 hv33 => ?_)
  refine r_lconst 0 rfl ?_
  refine r_aload_n rfl ?_
  refine q_getR (Sh.ref hI31.1 kx_231 rfl) ?_
  refine r_iconst 1 rfl ?_
  obtain ⟨v34, hv34⟩ : ∃ v, eA g0 233 1 = v := ⟨_, rfl⟩
  have tv34 := congrArg Int32.toInt hv34
  have wv34 := HI.t1 hI0
  rw [hv34] at wv34
  refine q_iald (Sh.arr hI31.1 ka_233) 1 rfl (by decide) v34 ((eA_c (gA_sI)).trans hv34) ?_
  refine q_i2l (fun v35 hv35 => ?_)
  refine r_lconst 1 rfl ?_
  refine q_lsub (v35.toInt - 1) rfl (by omega) (fun v36 hv36 => ?_)
  refine q_inlS 15 rfl [.long v33, .long 0, .long v36] [] (Nat.le_of_ble_eq_true rfl) rfl ?_
  refine Ev.mk rfl rfl ⟨Nat.le_of_ble_eq_true rfl, Or.inl rfl⟩ ?_
  show At _ none _ _ (0, [(0, .long v33), (2, .long 0), (4, .long v36)], [], (_, _)) _
  refine At.enter rfl ?_
  refine r_lload_n rfl ?_
  refine r_lload_n rfl ?_
  refine r_lcmp _ rfl ?_
  refine r_ifs 6 rfl (fun c37 => ?_) (fun c37 => ?_)
  · have c37_ : v33.toInt < 0 := en_j_lt_t c37
    refine At.enter rfl ?_
    refine r_iconst 0 rfl ?_
    refine Ar.fall 18 rfl ?_
    refine At.enter rfl ?_
    refine q_iretz (by decide) ?_
    refine At.enter rfl ?_
    refine q_iretz (by decide) ?_
    refine At.enter rfl ?_
    refine r_ift (by decide) ?_
    refine At.enter rfl ?_
    refine r_iconst (-1) rfl ?_
    refine Ar.fall 35 rfl ?_
    refine At.enter rfl ?_
    refine r_ireti ?_
    have zv38 : ((-1) : Int32).toInt = (-1) := rfl
    have x39 := HI.eqA hI0 (p := 233) (j := 1) (hv34)
    have y40 := congrArg Int32.toInt hv34
    exact ⟨_, rfl, hI31, hF32, _, rfl, trivial, ⟨by omega, by omega⟩⟩
  · have c37_ : v33.toInt ≥ 0 := en_j_lt_f c37
    refine At.enter rfl ?_
    refine r_lload_n rfl ?_
    refine r_lload rfl ?_
    refine r_lcmp _ rfl ?_
    refine r_ifs 13 rfl (fun c41 => ?_) (fun c41 => ?_)
    · have c41_ : v33.toInt > v36.toInt := en_j_gt_t c41
      refine At.enter rfl ?_
      refine r_iconst 0 rfl ?_
      refine Ar.fall 18 rfl ?_
      refine At.enter rfl ?_
      refine q_iretz (by decide) ?_
      refine At.enter rfl ?_
      refine q_iretz (by decide) ?_
      refine At.enter rfl ?_
      refine r_ift (by decide) ?_
      refine At.enter rfl ?_
      refine r_iconst (-1) rfl ?_
      refine Ar.fall 35 rfl ?_
      refine At.enter rfl ?_
      refine r_ireti ?_
      have zv42 : ((-1) : Int32).toInt = (-1) := rfl
      have x43 := HI.eqA hI0 (p := 233) (j := 1) (hv34)
      have y44 := congrArg Int32.toInt hv34
      exact ⟨_, rfl, hI31, hF32, _, rfl, trivial, ⟨by omega, by omega⟩⟩
    · have c41_ : v33.toInt ≤ v36.toInt := en_j_gt_f c41
      refine At.enter rfl ?_
      refine r_iconst 1 rfl ?_
      refine r_goto ?_
      refine At.enter rfl ?_
      refine q_iretz (by decide) ?_
      refine At.enter rfl ?_
      refine q_iretz (by decide) ?_
      refine At.enter rfl ?_
      refine r_iff 13 rfl (by decide) ?_
      refine At.enter rfl ?_
      refine r_iload_n rfl ?_
      refine q_i2l (fun v45 hv45 => ?_)
      refine r_lconst 0 rfl ?_
      refine r_ldc2 5 rfl ?_
      refine q_inlS 22 rfl [.long v45, .long 0, .long 5] [] (Nat.le_of_ble_eq_true rfl) rfl ?_
      refine Ev.mk rfl rfl ⟨Nat.le_of_ble_eq_true rfl, Or.inl rfl⟩ ?_
      show At _ none _ _ (0, [(0, .long v45), (2, .long 0), (4, .long 5)], [], (_, _)) _
      refine At.enter rfl ?_
      refine r_lload_n rfl ?_
      refine r_lload_n rfl ?_
      refine r_lcmp _ rfl ?_
      refine r_ifs 6 rfl (fun c46 => ?_) (fun c46 => ?_)
      · have c46_ : v45.toInt < 0 := en_j_lt_t c46
        refine At.enter rfl ?_
        refine r_iconst 0 rfl ?_
        refine Ar.fall 18 rfl ?_
        refine At.enter rfl ?_
        refine q_iretz (by decide) ?_
        refine At.enter rfl ?_
        refine r_ift (by decide) ?_
        refine At.enter rfl ?_
        refine r_iconst (-1) rfl ?_
        refine Ar.fall 35 rfl ?_
        refine At.enter rfl ?_
        refine r_ireti ?_
        have zv47 : ((-1) : Int32).toInt = (-1) := rfl
        have x48 := HI.eqA hI0 (p := 233) (j := 1) (hv34)
        have y49 := congrArg Int32.toInt hv34
        exact ⟨_, rfl, hI31, hF32, _, rfl, trivial, ⟨by omega, by omega⟩⟩
      · have c46_ : v45.toInt ≥ 0 := en_j_lt_f c46
        refine At.enter rfl ?_
        refine r_lload_n rfl ?_
        refine r_lload rfl ?_
        refine r_lcmp _ rfl ?_
        refine r_ifs 13 rfl (fun c50 => ?_) (fun c50 => ?_)
        · have c50_ : v45.toInt > 5 := en_j_gt_t c50
          refine At.enter rfl ?_
          refine r_iconst 0 rfl ?_
          refine Ar.fall 18 rfl ?_
          refine At.enter rfl ?_
          refine q_iretz (by decide) ?_
          refine At.enter rfl ?_
          refine r_ift (by decide) ?_
          refine At.enter rfl ?_
          refine r_iconst (-1) rfl ?_
          refine Ar.fall 35 rfl ?_
          refine At.enter rfl ?_
          refine r_ireti ?_
          have zv51 : ((-1) : Int32).toInt = (-1) := rfl
          have x52 := HI.eqA hI0 (p := 233) (j := 1) (hv34)
          have y53 := congrArg Int32.toInt hv34
          exact ⟨_, rfl, hI31, hF32, _, rfl, trivial, ⟨by omega, by omega⟩⟩
        · have c50_ : v45.toInt ≤ 5 := en_j_gt_f c50
          refine At.enter rfl ?_
          refine r_iconst 1 rfl ?_
          refine r_goto ?_
          refine At.enter rfl ?_
          refine q_iretz (by decide) ?_
          refine At.enter rfl ?_
          refine r_iff 25 rfl (by decide) ?_
          refine At.enter rfl ?_
          refine r_aload_n rfl ?_
          refine r_iload_n rfl ?_
          refine r_iload_n rfl ?_
          refine q_inlV 31 rfl [.ref 231, .int a1, .int a2] [] (Nat.le_of_ble_eq_true rfl) rfl ?_
          refine Ev.mk rfl rfl ⟨Nat.le_of_ble_eq_true rfl, Or.inr (q_rc hI31.1 kx_231 rfl)⟩ ?_
          show At _ none _ _ (0, [(0, .ref 231), (1, .int a1), (2, .int a2)], [], (_, _)) _
          refine At.enter rfl ?_
          refine r_aload_n rfl ?_
          refine q_getR (Sh.ref hI31.1 kx_231 rfl) ?_
          refine r_bipush 46 rfl ?_
          refine r_bipush 6 rfl ?_
          refine r_iload_n rfl ?_
          refine q_imul (6 * a1.toInt) rfl (by omega) (fun v54 hv54 => ?_)
          refine q_iadd (46 + v54.toInt) rfl (by omega) (fun v55 hv55 => ?_)
          refine r_iload_n rfl ?_
          refine q_iadd (v55.toInt + a2.toInt) rfl (by omega) (fun v56 hv56 => ?_)
          obtain ⟨v57, hv57⟩ : ∃ v, eA g0 233 (6 * a1.toInt + a2.toInt + 46) = v := ⟨_, rfl⟩
          refine q_iald (Sh.arr hI31.1 ka_233) (6 * a1.toInt + a2.toInt + 46) (by omega) (by omega) v57 ((eA_c (gA_sI)).trans hv57) ?_
          refine q_ireti ?_
          refine At.enter rfl ?_
          refine r_goto ?_
          refine At.enter rfl ?_
          refine r_ireti ?_
          have x58 := HI.eqA hI0 (p := 233) (j := 1) (hv34)
          have y59 := congrArg Int32.toInt hv34
          have y60 := (eA_ix (g := g0) (p := 233) (show 46 + (6 * a1.toInt + a2.toInt) = (6 * a1.toInt + a2.toInt + 46) from by omega)).trans (congrArg Int32.toInt hv57)
          exact ⟨_, rfl, hI31, hF32, _, rfl, trivial, ⟨by omega, by omega⟩⟩

def F_X11_dropped_231 : List (Nat × Nat) := [(231, 0)]
def A_X11_dropped_231 : List Nat := []
set_option maxRecDepth 100000 in
set_option maxHeartbeats 4000000 in
theorem T_X11_dropped_231 (d : Nat) {N : Nat} {g0 : List en_E} (hI0 : HI g0) : Ev (d + 1) 183 [.ref 231] (g0, N) (fun w h' => ∃ g', h' = (g', N) ∧ HI g' ∧ Fr F_X11_dropped_231 A_X11_dropped_231 g0 g' ∧ ∃ r : Int32, w = some (.int r) ∧ True ∧ (r.toInt = (gI g0 231 6).toInt)) := by
  have hF0 : Fr F_X11_dropped_231 A_X11_dropped_231 g0 g0 := Fr.rf
  refine Ev.mk rfl rfl ⟨Nat.le_of_ble_eq_true rfl, Or.inr (q_rc hI0.1 kx_231 rfl)⟩ ?_
  show At _ none _ _ (0, [(0, .ref 231)], [], (_, _)) _
  refine At.enter rfl ?_
  refine r_aload_n rfl ?_
  refine r_iconst 0 rfl ?_
  refine q_putI (Sh.int hI0.1 kx_231 rfl) rfl ?_
  have hI7 := HI.wI0 hI0 kx_231 rfl (p := 231) (b := 0) (v := 0) rfl
  have hF8 := Fr.wI (p := 231) (b := 0) (v := 0) hF0 rfl
  refine r_aload_n rfl ?_
  obtain ⟨v9, hv9⟩ : ∃ v, gI g0 231 6 = v := ⟨_, rfl⟩
  refine q_getI (Sh.int hI7.1 kx_231 rfl) v9 ((gI_sI_ne (by decide)).trans hv9) ?_
  refine r_ireti ?_
  have x10 := HI.eqI hI0 (p := 231) (b := 6) (hv9)
  exact ⟨_, rfl, hI7, hF8, _, rfl, trivial, (by omega)⟩

def F_X11_end_231 : List (Nat × Nat) := [(231, 0), (231, 8)]
def A_X11_end_231 : List Nat := []
set_option maxRecDepth 100000 in
set_option maxHeartbeats 4000000 in
theorem T_X11_end_231 (d : Nat) {N : Nat} {g0 : List en_E} (hI0 : HI g0) (a1 : Int32) : Ev (d + 1) 186 [.ref 231, .int a1] (g0, N) (fun w h' => ∃ g', h' = (g', N) ∧ HI g' ∧ Fr F_X11_end_231 A_X11_end_231 g0 g' ∧ ∃ r : Int32, w = some (.int r) ∧ ((-1) ≤ r.toInt ∧ r.toInt ≤ 400) ∧ ((0 ≤ a1.toInt ∧ a1.toInt ≤ (gI g0 231 8).toInt → r.toInt = a1.toInt ∧ (gI g' 231 8).toInt = a1.toInt) ∧ (a1.toInt < 0 ∨ (gI g0 231 8).toInt < a1.toInt → r.toInt = -1 ∧ (gI g' 231 8).toInt = (gI g0 231 8).toInt))) := by
  have hF0 : Fr F_X11_end_231 A_X11_end_231 g0 g0 := Fr.rf
  refine Ev.mk rfl rfl ⟨Nat.le_of_ble_eq_true rfl, Or.inr (q_rc hI0.1 kx_231 rfl)⟩ ?_
  show At _ none _ _ (0, [(0, .ref 231), (1, .int a1)], [], (_, _)) _
  refine At.enter rfl ?_
  refine r_aload_n rfl ?_
  refine r_iconst 0 rfl ?_
  refine q_putI (Sh.int hI0.1 kx_231 rfl) rfl ?_
  have hI19 := HI.wI0 hI0 kx_231 rfl (p := 231) (b := 0) (v := 0) rfl
  have hF20 := Fr.wI (p := 231) (b := 0) (v := 0) hF0 rfl
  refine r_iload_n rfl ?_
  refine r_ifs 9 rfl (fun c21 => ?_) (fun c21 => ?_)
  · have c21_ : a1.toInt < 0 := en_k_lt_t c21
    refine At.enter rfl ?_
    refine r_iconst (-1) rfl ?_
    refine r_ireti ?_
    have zv22 : ((-1) : Int32).toInt = (-1) := rfl
    obtain ⟨v23, hv23⟩ : ∃ v, gI g0 231 8 = v := ⟨_, rfl⟩
    have rv23 := RgF.at hI0.2.1 (p := 231) (b := 8) rfl
    rw [hv23] at rv23
    dsimp only at rv23
    have tv23 := congrArg Int32.toInt hv23
    have x24 := HI.eqI hI19 (p := 231) (b := 8) (((gI_sI_ne (by decide)).trans hv23))
    exact ⟨_, rfl, hI19, hF20, _, rfl, by decide, (by omega)⟩
  · have c21_ : a1.toInt ≥ 0 := en_k_lt_f c21
    refine At.enter rfl ?_
    refine r_iload_n rfl ?_
    refine r_aload_n rfl ?_
    obtain ⟨v26, hv26⟩ : ∃ v, gI g0 231 8 = v := ⟨_, rfl⟩
    have rv26 := RgF.at hI0.2.1 (p := 231) (b := 8) rfl
    rw [hv26] at rv26
    dsimp only at rv26
    refine q_getI (Sh.int hI19.1 kx_231 rfl) v26 ((gI_sI_ne (by decide)).trans hv26) ?_
    have bv28 := q_bnd a1
    have bv29 := q_bnd v26
    refine r_ics 17 rfl (fun c27 => ?_) (fun c27 => ?_)
    · have c27_ : a1.toInt ≤ v26.toInt := en_i_le_t c27
      refine At.enter rfl ?_
      refine r_aload_n rfl ?_
      refine r_iload_n rfl ?_
      refine q_putI (Sh.int hI19.1 kx_231 rfl) rfl ?_
      have hI30 := HI.wI1 hI19 kx_231 rfl (p := 231) (b := 8) (v := a1) rfl (by dsimp only; omega)
      have hF31 := Fr.wI (p := 231) (b := 8) (v := a1) hF20 rfl
      refine r_iload_n rfl ?_
      refine r_ireti ?_
      have x32 := HI.eqI hI30 (p := 231) (b := 8) ((gI_sI_eq hI19.1 kx_231 rfl _))
      have x33 := HI.eqI hI0 (p := 231) (b := 8) (hv26)
      exact ⟨_, rfl, hI30, hF31, _, rfl, by omega, (by omega)⟩
    · have c27_ : a1.toInt > v26.toInt := en_i_le_f c27
      refine At.enter rfl ?_
      refine r_iconst (-1) rfl ?_
      refine r_ireti ?_
      have zv34 : ((-1) : Int32).toInt = (-1) := rfl
      have x35 := HI.eqI hI19 (p := 231) (b := 8) (((gI_sI_ne (by decide)).trans hv26))
      have x36 := HI.eqI hI0 (p := 231) (b := 8) (hv26)
      exact ⟨_, rfl, hI19, hF20, _, rfl, by decide, (by omega)⟩

def F_X11_fault_231 : List (Nat × Nat) := [(231, 0)]
def A_X11_fault_231 : List Nat := []
set_option maxRecDepth 100000 in
set_option maxHeartbeats 4000000 in
theorem T_X11_fault_231 (d : Nat) {N : Nat} {g0 : List en_E} (hI0 : HI g0) : Ev (d + 1) 194 [.ref 231] (g0, N) (fun w h' => ∃ g', h' = (g', N) ∧ HI g' ∧ Fr F_X11_fault_231 A_X11_fault_231 g0 g' ∧ ∃ r : Int32, w = some (.int r) ∧ True ∧ (r.toInt = (gI g0 231 13).toInt)) := by
  have hF0 : Fr F_X11_fault_231 A_X11_fault_231 g0 g0 := Fr.rf
  refine Ev.mk rfl rfl ⟨Nat.le_of_ble_eq_true rfl, Or.inr (q_rc hI0.1 kx_231 rfl)⟩ ?_
  show At _ none _ _ (0, [(0, .ref 231)], [], (_, _)) _
  refine At.enter rfl ?_
  refine r_aload_n rfl ?_
  refine r_iconst 0 rfl ?_
  refine q_putI (Sh.int hI0.1 kx_231 rfl) rfl ?_
  have hI7 := HI.wI0 hI0 kx_231 rfl (p := 231) (b := 0) (v := 0) rfl
  have hF8 := Fr.wI (p := 231) (b := 0) (v := 0) hF0 rfl
  refine r_aload_n rfl ?_
  obtain ⟨v9, hv9⟩ : ∃ v, gI g0 231 13 = v := ⟨_, rfl⟩
  refine q_getI (Sh.int hI7.1 kx_231 rfl) v9 ((gI_sI_ne (by decide)).trans hv9) ?_
  refine r_ireti ?_
  have x10 := HI.eqI hI0 (p := 231) (b := 13) (hv9)
  exact ⟨_, rfl, hI7, hF8, _, rfl, trivial, (by omega)⟩

def F_X11_asIs_231 : List (Nat × Nat) := [(231, 36)]
def A_X11_asIs_231 : List Nat := [246, 247, 248]
set_option maxRecDepth 100000 in
set_option maxHeartbeats 4000000 in
theorem T_X11_asIs_231 (d : Nat) {N : Nat} {g0 : List en_E} (hI0 : HI g0) : Ev (d + 2) 215 [.ref 231] (g0, N) (fun w h' => ∃ g', h' = (g', N) ∧ HI g' ∧ Fr F_X11_asIs_231 A_X11_asIs_231 g0 g' ∧ w = none ∧ ASM g0 g') := by
  have hF0 : Fr F_X11_asIs_231 A_X11_asIs_231 g0 g0 := Fr.rf
  refine Ev.mk rfl rfl ⟨Nat.le_of_ble_eq_true rfl, Or.inr (q_rc hI0.1 kx_231 rfl)⟩ ?_
  show At _ none _ _ (0, [(0, .ref 231)], [], (_, _)) _
  refine At.enter rfl ?_
  refine r_iconst 0 rfl ?_
  refine r_istore_n ([(1, .int 0), (0, .ref 231)]) rfl ?_
  refine Ar.fall 2 rfl ?_
  have z_973 : (0 : Int32).toInt = 0 := rfl
  refine w_loopI (fun n_ l_ g_ => ∃ x962 : Int32, n_ = 12 - x962.toInt ∧ HI g_ ∧ Fr F_X11_asIs_231 A_X11_asIs_231 g0 g_ ∧ en_get 0 l_ = some (.ref 231) ∧ en_get 1 l_ = some (.int x962) ∧ (0 ≤ x962.toInt ∧ x962.toInt ≤ 12) ∧ (ASL g0 g_ x962.toInt)) ?_ (12 - 0) ⟨0, by first | rfl | omega, hI0, hF0, rfl, rfl, by decide, (ASL_z (by first | decide | omega))⟩
  rintro n967 l966 g963 ⟨x962, hm974, hI964, hF965, e969, e970, r971, q972⟩ ih968
  refine At.enter rfl ?_
  refine r_iload_n e970 ?_
  refine r_bipush 12 rfl ?_
  refine r_ics 8 rfl (fun c975 => ?_) (fun c975 => ?_)
  · have c975_ : x962.toInt ≥ 12 := en_i_ge_t c975
    refine At.enter rfl ?_
    refine r_iconst 0 rfl ?_
    refine r_istore_n _ rfl ?_
    refine Ar.fall 40 rfl ?_
    have z_1059 : (0 : Int32).toInt = 0 := rfl
    refine w_loopI (fun n_ l_ g_ => ∃ x1048 : Int32, n_ = 8 - x1048.toInt ∧ HI g_ ∧ Fr F_X11_asIs_231 A_X11_asIs_231 g0 g_ ∧ en_get 0 l_ = some (.ref 231) ∧ en_get 1 l_ = some (.int x1048) ∧ (0 ≤ x1048.toInt ∧ x1048.toInt ≤ 8) ∧ (ASM g0 g_)) ?_ (8 - 0) ⟨0, by first | rfl | omega, hI964, hF965, (w_p1 (by decide) (Or.inr rfl) e969), (w_e1 _ _ _), by decide, (fun s s0 s1 => q972 s s0 (by omega))⟩
    rintro n1053 l1052 g1049 ⟨x1048, hm1060, hI1050, hF1051, e1055, e1056, r1057, q1058⟩ ih1054
    refine At.enter rfl ?_
    refine r_iload_n e1056 ?_
    refine r_bipush 8 rfl ?_
    refine r_ics 46 rfl (fun c1061 => ?_) (fun c1061 => ?_)
    · have c1061_ : x1048.toInt ≥ 8 := en_i_ge_t c1061
      refine At.enter rfl ?_
      refine r_aload_n e1055 ?_
      refine r_iconst 0 rfl ?_
      refine q_putI (Sh.int hI1050.1 kx_231 rfl) rfl ?_
      have hI1062 := HI.wI0 hI1050 kx_231 rfl (p := 231) (b := 36) (v := 0) rfl
      have hF1063 := Fr.wI (p := 231) (b := 36) (v := 0) hF1051 rfl
      refine r_vret ?_
      exact ⟨_, rfl, hI1062, hF1063, rfl, (fun s s0 s1 => (show _ from by rw [eA_tq gA_sI, eA_tq gA_sI]; exact q1058 s s0 s1))⟩
    · have c1061_ : x1048.toInt < 8 := en_i_ge_f c1061
      refine At.enter rfl ?_
      refine r_aload_n e1055 ?_
      refine q_getR (Sh.ref hI1050.1 kx_231 rfl) ?_
      refine r_iload_n e1056 ?_
      refine r_aload_n e1055 ?_
      refine r_iload_n e1056 ?_
      refine r_iconst 3 rfl ?_
      refine q_inlV 57 rfl [.ref 231, .int x1048, .int 3] [.int x1048, .ref 248] (Nat.le_of_ble_eq_true rfl) rfl ?_
      refine Ev.mk rfl rfl ⟨Nat.le_of_ble_eq_true rfl, Or.inr (q_rc hI1050.1 kx_231 rfl)⟩ ?_
      show At _ none _ _ (0, [(0, .ref 231), (1, .int x1048), (2, .int 3)], [], (_, _)) _
      refine At.enter rfl ?_
      refine r_aload_n rfl ?_
      refine q_getR (Sh.ref hI1050.1 kx_231 rfl) ?_
      refine r_bipush 46 rfl ?_
      refine r_bipush 6 rfl ?_
      refine r_iload_n rfl ?_
      refine q_imul (6 * x1048.toInt) rfl (by omega) (fun v1064 hv1064 => ?_)
      refine q_iadd (46 + v1064.toInt) rfl (by omega) (fun v1065 hv1065 => ?_)
      refine r_iload_n rfl ?_
      refine q_iadd (v1065.toInt + 3) rfl (by omega) (fun v1066 hv1066 => ?_)
      obtain ⟨v1067, hv1067⟩ : ∃ v, eA g0 233 (6 * x1048.toInt + 49) = v := ⟨_, rfl⟩
      have wv1067 := HI.l3 hI0 (j := (6 * x1048.toInt + 49)) (x1048.toInt) (by omega) (by omega)
      rw [hv1067] at wv1067
      refine q_iald (Sh.arr hI1050.1 ka_233) (6 * x1048.toInt + 49) (by omega) (by omega) v1067 ((eA_c (hF1051.2.1 233 (by decide))).trans hv1067) ?_
      refine q_ireti ?_
      refine At.enter rfl ?_
      refine q_iast (Sh.arr hI1050.1 ka_248) (x1048.toInt) rfl (by omega) ?_
      have hI1068 := HI.wA0 hI1050 ka_248 (p := 248) rfl rfl (x1048.toInt) (v1067)
      have hF1069 := Fr.wA (p := 248) (j := x1048.toInt) (v := v1067) hF1051 rfl
      refine q_iinc e1056 (x1048.toInt + 1) rfl (by omega) (fun v1070 hv1070 => ?_)
      refine r_goto ?_
      exact ih1054 (8 - v1070.toInt) _ _ ⟨v1070, by first | rfl | omega, hI1068, hF1069, (w_p1 (by decide) (Or.inr rfl) e1055), (w_e1 _ _ _), by omega, (fun s s0 s1 => (show _ from by rw [eA_tq (gA_sA_ne (by decide)), eA_tq (gA_sA_ne (by decide))]; exact q1058 s s0 s1))⟩ ⟨by omega, by omega⟩
  · have c975_ : x962.toInt < 12 := en_i_ge_f c975
    refine At.enter rfl ?_
    refine r_aload_n e969 ?_
    refine q_getR (Sh.ref hI964.1 kx_231 rfl) ?_
    refine r_iload_n e970 ?_
    refine r_aload_n e969 ?_
    refine r_iload_n e970 ?_
    refine r_iconst 1 rfl ?_
    refine q_inlV 19 rfl [.ref 231, .int x962, .int 1] [.int x962, .ref 246] (Nat.le_of_ble_eq_true rfl) rfl ?_
    refine Ev.mk rfl rfl ⟨Nat.le_of_ble_eq_true rfl, Or.inr (q_rc hI964.1 kx_231 rfl)⟩ ?_
    show At _ none _ _ (0, [(0, .ref 231), (1, .int x962), (2, .int 1)], [], (_, _)) _
    refine At.enter rfl ?_
    refine r_aload_n rfl ?_
    refine q_getR (Sh.ref hI964.1 kx_231 rfl) ?_
    refine r_bipush 10 rfl ?_
    refine r_iconst 3 rfl ?_
    refine r_iload_n rfl ?_
    refine q_imul (3 * x962.toInt) rfl (by omega) (fun v1071 hv1071 => ?_)
    refine q_iadd (10 + v1071.toInt) rfl (by omega) (fun v1072 hv1072 => ?_)
    refine r_iload_n rfl ?_
    refine q_iadd (v1072.toInt + 1) rfl (by omega) (fun v1073 hv1073 => ?_)
    obtain ⟨v1074, hv1074⟩ : ∃ v, eA g0 233 (3 * x962.toInt + 11) = v := ⟨_, rfl⟩
    have wv1074 := HI.s1 hI0 (j := (3 * x962.toInt + 11)) (x962.toInt) (by omega) (by omega)
    rw [hv1074] at wv1074
    refine q_iald (Sh.arr hI964.1 ka_233) (3 * x962.toInt + 11) (by omega) (by omega) v1074 ((eA_c (hF965.2.1 233 (by decide))).trans hv1074) ?_
    refine q_ireti ?_
    refine At.enter rfl ?_
    refine q_iast (Sh.arr hI964.1 ka_246) (x962.toInt) rfl (by omega) ?_
    have hI1075 := HI.wA0 hI964 ka_246 (p := 246) rfl rfl (x962.toInt) (v1074)
    have hF1076 := Fr.wA (p := 246) (j := x962.toInt) (v := v1074) hF965 rfl
    refine r_aload_n e969 ?_
    refine q_getR (Sh.ref hI1075.1 kx_231 rfl) ?_
    refine r_iload_n e970 ?_
    refine r_aload_n e969 ?_
    refine r_iload_n e970 ?_
    refine r_iconst 2 rfl ?_
    refine q_inlV 31 rfl [.ref 231, .int x962, .int 2] [.int x962, .ref 247] (Nat.le_of_ble_eq_true rfl) rfl ?_
    refine Ev.mk rfl rfl ⟨Nat.le_of_ble_eq_true rfl, Or.inr (q_rc hI1075.1 kx_231 rfl)⟩ ?_
    show At _ none _ _ (0, [(0, .ref 231), (1, .int x962), (2, .int 2)], [], (_, _)) _
    refine At.enter rfl ?_
    refine r_aload_n rfl ?_
    refine q_getR (Sh.ref hI1075.1 kx_231 rfl) ?_
    refine r_bipush 10 rfl ?_
    refine r_iconst 3 rfl ?_
    refine r_iload_n rfl ?_
    refine q_imul (3 * x962.toInt) rfl (by omega) (fun v1077 hv1077 => ?_)
    refine q_iadd (10 + v1077.toInt) rfl (by omega) (fun v1078 hv1078 => ?_)
    refine r_iload_n rfl ?_
    refine q_iadd (v1078.toInt + 2) rfl (by omega) (fun v1079 hv1079 => ?_)
    obtain ⟨v1080, hv1080⟩ : ∃ v, eA g0 233 (3 * x962.toInt + 12) = v := ⟨_, rfl⟩
    have wv1080 := HI.s2 hI0 (j := (3 * x962.toInt + 12)) (x962.toInt) (by omega) (by omega)
    rw [hv1080] at wv1080
    refine q_iald (Sh.arr hI1075.1 ka_233) (3 * x962.toInt + 12) (by omega) (by omega) v1080 ((eA_c ((gA_sA_ne (by decide)).trans (hF965.2.1 233 (by decide)))).trans hv1080) ?_
    refine q_ireti ?_
    refine At.enter rfl ?_
    refine q_iast (Sh.arr hI1075.1 ka_247) (x962.toInt) rfl (by omega) ?_
    have hI1081 := HI.wA0 hI1075 ka_247 (p := 247) rfl rfl (x962.toInt) (v1080)
    have hF1082 := Fr.wA (p := 247) (j := x962.toInt) (v := v1080) hF1076 rfl
    refine q_iinc e970 (x962.toInt + 1) rfl (by omega) (fun v1083 hv1083 => ?_)
    refine r_goto ?_
    exact ih968 (12 - v1083.toInt) _ _ ⟨v1083, by first | rfl | omega, hI1081, hF1082, (w_p1 (by decide) (Or.inr rfl) e969), (w_e1 _ _ _), by omega, (ASL_s q972 hI964.1 hI1075.1 rfl rfl (gA_sA_ne (by decide)) (gA_sA_ne (by decide)) rfl hv1074 hv1080 (by omega) (by omega) (by omega) (by omega) (by omega))⟩ ⟨by omega, by omega⟩
