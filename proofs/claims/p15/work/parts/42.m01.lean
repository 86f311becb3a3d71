def F_X11_fact_231 : List (Nat × Nat) := [(231, 0)]
def A_X11_fact_231 : List Nat := []
set_option maxRecDepth 100000 in
set_option maxHeartbeats 4000000 in
theorem T_X11_fact_231 (d : Nat) {N : Nat} {g0 : List en_E} (hI0 : HI g0) (a1 : Int32) (a2 : Int32) : Ev (d + 3) 179 [.ref 231, .int a1, .int a2] (g0, N) (fun w h' => ∃ g', h' = (g', N) ∧ HI g' ∧ Fr F_X11_fact_231 A_X11_fact_231 g0 g' ∧ ∃ r : Int32, w = some (.int r) ∧ True) := by
  have hF0 : Fr F_X11_fact_231 A_X11_fact_231 g0 g0 := Fr.rf
  refine Ev.mk rfl rfl ⟨Nat.le_of_ble_eq_true rfl, Or.inr (q_rc hI0.1 kx_231 rfl)⟩ ?_
  show At _ none _ _ (0, [(0, .ref 231), (1, .int a1), (2, .int a2)], [], (_, _)) _
  refine At.enter rfl ?_
  refine r_aload_n rfl ?_
  refine r_iconst 0 rfl ?_
  refine q_putI (Sh.int hI0.1 kx_231 rfl) rfl ?_
  have hI31 := HI.wI0 hI0 kx_231 rfl (p := 231) (b := 0) (v := 0) rfl
  have hF32 := Fr.wI (p := 231) (b := 0) (v := 0) hF0 rfl
  refine r_aload_n rfl ?_
  refine r_iload_n rfl ?_
  refine q_inlV 10 rfl [.ref 231, .int a1] [] (Nat.le_of_ble_eq_true rfl) rfl ?_
  refine Ev.mk rfl rfl ⟨Nat.le_of_ble_eq_true rfl, Or.inr (q_rc hI31.1 kx_231 rfl)⟩ ?_
  show At _ none _ _ (0, [(0, .ref 231), (1, .int a1)], [], (_, _)) _
  refine At.enter rfl ?_
  refine r_iload_n rfl ?_
  refine q_i2l (fun v33 hv33 => ?_)
  refine r_lconst 0 rfl ?_
  refine r_aload_n rfl ?_
  refine q_getR (Sh.ref hI31.1 kx_231 rfl) ?_
  refine r_iconst 1 rfl ?_
  obtain ⟨v34, hv34⟩ : ∃ v, eA g0 233 1 = v := ⟨_, rfl⟩
  have tv34 := congrArg Int32.toInt hv34
  have wv34 := HI.t1 hI0
  rw [hv34] at wv34
  refine q_iald (Sh.arr hI31.1 ka_233) 1 rfl (by decide) v34 ((eA_c (gA_sI)).trans hv34) ?_
  refine q_i2l (fun v35 hv35 => ?_)
  refine r_lconst 1 rfl ?_
  refine q_lsub (v35.toInt - 1) rfl (by omega) (fun v36 hv36 => ?_)
  refine q_inlS 15 rfl [.long v33, .long 0, .long v36] [] (Nat.le_of_ble_eq_true rfl) rfl ?_
  refine Ev.mk rfl rfl ⟨Nat.le_of_ble_eq_true rfl, Or.inl rfl⟩ ?_
  show At _ none _ _ (0, [(0, .long v33), (2, .long 0), (4, .long v36)], [], (_, _)) _
  refine At.enter rfl ?_
  refine r_lload_n rfl ?_
  refine r_lload_n rfl ?_
  refine r_lcmp _ rfl ?_
  refine r_ifs 6 rfl (fun c37 => ?_) (fun c37 => ?_)
  · have c37_ : v33.toInt < 0 := en_j_lt_t c37
    refine At.enter rfl ?_
    refine r_iconst 0 rfl ?_
    refine Ar.fall 18 rfl ?_
    refine At.enter rfl ?_
    refine q_iretz (by decide) ?_
    refine At.enter rfl ?_
    refine q_iretz (by decide) ?_
    refine At.enter rfl ?_
    refine r_ift (by decide) ?_
    refine At.enter rfl ?_
    refine r_iconst (-1) rfl ?_
    refine Ar.fall 35 rfl ?_
    refine At.enter rfl ?_
    refine r_ireti ?_
    exact ⟨_, rfl, hI31, hF32, _, rfl, trivial⟩
  · have c37_ : v33.toInt ≥ 0 := en_j_lt_f c37
    refine At.enter rfl ?_
    refine r_lload_n rfl ?_
    refine r_lload rfl ?_
    refine r_lcmp _ rfl ?_
    refine r_ifs 13 rfl (fun c38 => ?_) (fun c38 => ?_)
    · have c38_ : v33.toInt > v36.toInt := en_j_gt_t c38
      refine At.enter rfl ?_
      refine r_iconst 0 rfl ?_
      refine Ar.fall 18 rfl ?_
      refine At.enter rfl ?_
      refine q_iretz (by decide) ?_
      refine At.enter rfl ?_
      refine q_iretz (by decide) ?_
      refine At.enter rfl ?_
      refine r_ift (by decide) ?_
      refine At.enter rfl ?_
      refine r_iconst (-1) rfl ?_
      refine Ar.fall 35 rfl ?_
      refine At.enter rfl ?_
      refine r_ireti ?_
      exact ⟨_, rfl, hI31, hF32, _, rfl, trivial⟩
    · have c38_ : v33.toInt ≤ v36.toInt := en_j_gt_f c38
      refine At.enter rfl ?_
      refine r_iconst 1 rfl ?_
      refine r_goto ?_
      refine At.enter rfl ?_
      refine q_iretz (by decide) ?_
      refine At.enter rfl ?_
      refine q_iretz (by decide) ?_
      refine At.enter rfl ?_
      refine r_iff 13 rfl (by decide) ?_
      refine At.enter rfl ?_
      refine r_iload_n rfl ?_
      refine q_i2l (fun v39 hv39 => ?_)
      refine r_lconst 0 rfl ?_
      refine r_ldc2 5 rfl ?_
      refine q_inlS 22 rfl [.long v39, .long 0, .long 5] [] (Nat.le_of_ble_eq_true rfl) rfl ?_
      refine Ev.mk rfl rfl ⟨Nat.le_of_ble_eq_true rfl, Or.inl rfl⟩ ?_
      show At _ none _ _ (0, [(0, .long v39), (2, .long 0), (4, .long 5)], [], (_, _)) _
      refine At.enter rfl ?_
      refine r_lload_n rfl ?_
      refine r_lload_n rfl ?_
      refine r_lcmp _ rfl ?_
      refine r_ifs 6 rfl (fun c40 => ?_) (fun c40 => ?_)
      · have c40_ : v39.toInt < 0 := en_j_lt_t c40
        refine At.enter rfl ?_
        refine r_iconst 0 rfl ?_
        refine Ar.fall 18 rfl ?_
        refine At.enter rfl ?_
        refine q_iretz (by decide) ?_
        refine At.enter rfl ?_
        refine r_ift (by decide) ?_
        refine At.enter rfl ?_
        refine r_iconst (-1) rfl ?_
        refine Ar.fall 35 rfl ?_
        refine At.enter rfl ?_
        refine r_ireti ?_
        exact ⟨_, rfl, hI31, hF32, _, rfl, trivial⟩
      · have c40_ : v39.toInt ≥ 0 := en_j_lt_f c40
        refine At.enter rfl ?_
        refine r_lload_n rfl ?_
        refine r_lload rfl ?_
        refine r_lcmp _ rfl ?_
        refine r_ifs 13 rfl (fun c41 => ?_) (fun c41 => ?_)
        · have c41_ : v39.toInt > 5 := en_j_gt_t c41
          refine At.enter rfl ?_
          refine r_iconst 0 rfl ?_
          refine Ar.fall 18 rfl ?_
          refine At.enter rfl ?_
          refine q_iretz (by decide) ?_
          refine At.enter rfl ?_
          refine r_ift (by decide) ?_
          refine At.enter rfl ?_
          refine r_iconst (-1) rfl ?_
          refine Ar.fall 35 rfl ?_
          refine At.enter rfl ?_
          refine r_ireti ?_
          exact ⟨_, rfl, hI31, hF32, _, rfl, trivial⟩
        · have c41_ : v39.toInt ≤ 5 := en_j_gt_f c41
          refine At.enter rfl ?_
          refine r_iconst 1 rfl ?_
          refine r_goto ?_
          refine At.enter rfl ?_
          refine q_iretz (by decide) ?_
          refine At.enter rfl ?_
          refine r_iff 25 rfl (by decide) ?_
          refine At.enter rfl ?_
          refine r_aload_n rfl ?_
          refine r_iload_n rfl ?_
          refine r_iload_n rfl ?_
          refine q_inlV 31 rfl [.ref 231, .int a1, .int a2] [] (Nat.le_of_ble_eq_true rfl) rfl ?_
          refine Ev.mk rfl rfl ⟨Nat.le_of_ble_eq_true rfl, Or.inr (q_rc hI31.1 kx_231 rfl)⟩ ?_
          show At _ none _ _ (0, [(0, .ref 231), (1, .int a1), (2, .int a2)], [], (_, _)) _
          refine At.enter rfl ?_
          refine r_aload_n rfl ?_
          refine q_getR (Sh.ref hI31.1 kx_231 rfl) ?_
          refine r_bipush 46 rfl ?_
          refine r_bipush 6 rfl ?_
          refine r_iload_n rfl ?_
          refine q_imul (6 * a1.toInt) rfl (by omega) (fun v42 hv42 => ?_)
          refine q_iadd (46 + v42.toInt) rfl (by omega) (fun v43 hv43 => ?_)
          refine r_iload_n rfl ?_
          refine q_iadd (v43.toInt + a2.toInt) rfl (by omega) (fun v44 hv44 => ?_)
          obtain ⟨v45, hv45⟩ : ∃ v, eA g0 233 (6 * a1.toInt + a2.toInt + 46) = v := ⟨_, rfl⟩
          refine q_iald (Sh.arr hI31.1 ka_233) (6 * a1.toInt + a2.toInt + 46) (by omega) (by omega) v45 ((eA_c (gA_sI)).trans hv45) ?_
          refine q_ireti ?_
          refine At.enter rfl ?_
          refine r_goto ?_
          refine At.enter rfl ?_
          refine r_ireti ?_
          exact ⟨_, rfl, hI31, hF32, _, rfl, trivial⟩

def F_X11_dropped_231 : List (Nat × Nat) := [(231, 0)]
def A_X11_dropped_231 : List Nat := []
set_option maxRecDepth 100000 in
set_option maxHeartbeats 4000000 in
theorem T_X11_dropped_231 (d : Nat) {N : Nat} {g0 : List en_E} (hI0 : HI g0) : Ev (d + 1) 183 [.ref 231] (g0, N) (fun w h' => ∃ g', h' = (g', N) ∧ HI g' ∧ Fr F_X11_dropped_231 A_X11_dropped_231 g0 g' ∧ ∃ r : Int32, w = some (.int r) ∧ True) := by
  have hF0 : Fr F_X11_dropped_231 A_X11_dropped_231 g0 g0 := Fr.rf
  refine Ev.mk rfl rfl ⟨Nat.le_of_ble_eq_true rfl, Or.inr (q_rc hI0.1 kx_231 rfl)⟩ ?_
  show At _ none _ _ (0, [(0, .ref 231)], [], (_, _)) _
  refine At.enter rfl ?_
  refine r_aload_n rfl ?_
  refine r_iconst 0 rfl ?_
  refine q_putI (Sh.int hI0.1 kx_231 rfl) rfl ?_
  have hI7 := HI.wI0 hI0 kx_231 rfl (p := 231) (b := 0) (v := 0) rfl
  have hF8 := Fr.wI (p := 231) (b := 0) (v := 0) hF0 rfl
  refine r_aload_n rfl ?_
  obtain ⟨v9, hv9⟩ : ∃ v, gI g0 231 6 = v := ⟨_, rfl⟩
  refine q_getI (Sh.int hI7.1 kx_231 rfl) v9 ((gI_sI_ne (by decide)).trans hv9) ?_
  refine r_ireti ?_
  exact ⟨_, rfl, hI7, hF8, _, rfl, trivial⟩

def F_X11_end_231 : List (Nat × Nat) := [(231, 0), (231, 8)]
def A_X11_end_231 : List Nat := []
set_option maxRecDepth 100000 in
set_option maxHeartbeats 4000000 in
theorem T_X11_end_231 (d : Nat) {N : Nat} {g0 : List en_E} (hI0 : HI g0) (a1 : Int32) : Ev (d + 1) 186 [.ref 231, .int a1] (g0, N) (fun w h' => ∃ g', h' = (g', N) ∧ HI g' ∧ Fr F_X11_end_231 A_X11_end_231 g0 g' ∧ ∃ r : Int32, w = some (.int r) ∧ ((-1) ≤ r.toInt ∧ r.toInt ≤ 400) ∧ ((0 ≤ a1.toInt ∧ a1.toInt ≤ (gI g0 231 8).toInt → r.toInt = a1.toInt ∧ (gI g' 231 8).toInt = a1.toInt) ∧ (a1.toInt < 0 ∨ (gI g0 231 8).toInt < a1.toInt → r.toInt = -1 ∧ (gI g' 231 8).toInt = (gI g0 231 8).toInt))) := by
  have hF0 : Fr F_X11_end_231 A_X11_end_231 g0 g0 := Fr.rf
  refine Ev.mk rfl rfl ⟨Nat.le_of_ble_eq_true rfl, Or.inr (q_rc hI0.1 kx_231 rfl)⟩ ?_
  show At _ none _ _ (0, [(0, .ref 231), (1, .int a1)], [], (_, _)) _
  refine At.enter rfl ?_
  refine r_aload_n rfl ?_
  refine r_iconst 0 rfl ?_
  refine q_putI (Sh.int hI0.1 kx_231 rfl) rfl ?_
  have hI19 := HI.wI0 hI0 kx_231 rfl (p := 231) (b := 0) (v := 0) rfl
  have hF20 := Fr.wI (p := 231) (b := 0) (v := 0) hF0 rfl
  refine r_iload_n rfl ?_
  refine r_ifs 9 rfl (fun c21 => ?_) (fun c21 => ?_)
  · have c21_ : a1.toInt < 0 := en_k_lt_t c21
    refine At.enter rfl ?_
    refine r_iconst (-1) rfl ?_
    refine r_ireti ?_
    have zv22 : ((-1) : Int32).toInt = (-1) := rfl
    obtain ⟨v23, hv23⟩ : ∃ v, gI g0 231 8 = v := ⟨_, rfl⟩
    have rv23 := RgF.at hI0.2.1 (p := 231) (b := 8) rfl
    rw [hv23] at rv23
    dsimp only at rv23
    have tv23 := congrArg Int32.toInt hv23
    have x24 := HI.eqI hI19 (p := 231) (b := 8) (((gI_sI_ne (by decide)).trans hv23))
    exact ⟨_, rfl, hI19, hF20, _, rfl, by decide, (by omega)⟩
  · have c21_ : a1.toInt ≥ 0 := en_k_lt_f c21
    refine At.enter rfl ?_
    refine r_iload_n rfl ?_
    refine r_aload_n rfl ?_
    obtain ⟨v26, hv26⟩ : ∃ v, gI g0 231 8 = v := ⟨_, rfl⟩
    have rv26 := RgF.at hI0.2.1 (p := 231) (b := 8) rfl
    rw [hv26] at rv26
    dsimp only at rv26
    refine q_getI (Sh.int hI19.1 kx_231 rfl) v26 ((gI_sI_ne (by decide)).trans hv26) ?_
    have bv28 := q_bnd a1
    have bv29 := q_bnd v26
    refine r_ics 17 rfl (fun c27 => ?_) (fun c27 => ?_)
    · have c27_ : a1.toInt ≤ v26.toInt := en_i_le_t c27
      refine At.enter rfl ?_
      refine r_aload_n rfl ?_
      refine r_iload_n rfl ?_
      refine q_putI (Sh.int hI19.1 kx_231 rfl) rfl ?_
      have hI30 := HI.wI1 hI19 kx_231 rfl (p := 231) (b := 8) (v := a1) rfl (by dsimp only; omega)
      have hF31 := Fr.wI (p := 231) (b := 8) (v := a1) hF20 rfl
      refine r_iload_n rfl ?_
      refine r_ireti ?_
      have x32 := HI.eqI hI30 (p := 231) (b := 8) ((gI_sI_eq hI19.1 kx_231 rfl _))
      have x33 := HI.eqI hI0 (p := 231) (b := 8) (hv26)
      exact ⟨_, rfl, hI30, hF31, _, rfl, by omega, (by omega)⟩
    · have c27_ : a1.toInt > v26.toInt := en_i_le_f c27
      refine At.enter rfl ?_
      refine r_iconst (-1) rfl ?_
      refine r_ireti ?_
      have zv34 : ((-1) : Int32).toInt = (-1) := rfl
      have x35 := HI.eqI hI19 (p := 231) (b := 8) (((gI_sI_ne (by decide)).trans hv26))
      have x36 := HI.eqI hI0 (p := 231) (b := 8) (hv26)
      exact ⟨_, rfl, hI19, hF20, _, rfl, by decide, (by omega)⟩

def F_X11_fault_231 : List (Nat × Nat) := [(231, 0)]
def A_X11_fault_231 : List Nat := []
set_option maxRecDepth 100000 in
set_option maxHeartbeats 4000000 in
theorem T_X11_fault_231 (d : Nat) {N : Nat} {g0 : List en_E} (hI0 : HI g0) : Ev (d + 1) 194 [.ref 231] (g0, N) (fun w h' => ∃ g', h' = (g', N) ∧ HI g' ∧ Fr F_X11_fault_231 A_X11_fault_231 g0 g' ∧ ∃ r : Int32, w = some (.int r) ∧ True ∧ (r.toInt = (gI g0 231 13).toInt)) := by
  have hF0 : Fr F_X11_fault_231 A_X11_fault_231 g0 g0 := Fr.rf
  refine Ev.mk rfl rfl ⟨Nat.le_of_ble_eq_true rfl, Or.inr (q_rc hI0.1 kx_231 rfl)⟩ ?_
  show At _ none _ _ (0, [(0, .ref 231)], [], (_, _)) _
  refine At.enter rfl ?_
  refine r_aload_n rfl ?_
  refine r_iconst 0 rfl ?_
  refine q_putI (Sh.int hI0.1 kx_231 rfl) rfl ?_
  have hI7 := HI.wI0 hI0 kx_231 rfl (p := 231) (b := 0) (v := 0) rfl
  have hF8 := Fr.wI (p := 231) (b := 0) (v := 0) hF0 rfl
  refine r_aload_n rfl ?_
  obtain ⟨v9, hv9⟩ : ∃ v, gI g0 231 13 = v := ⟨_, rfl⟩
  refine q_getI (Sh.int hI7.1 kx_231 rfl) v9 ((gI_sI_ne (by decide)).trans hv9) ?_
  refine r_ireti ?_
  have x10 := HI.eqI hI0 (p := 231) (b := 13) (hv9)
  exact ⟨_, rfl, hI7, hF8, _, rfl, trivial, (by omega)⟩

def F_X11_asIs_231 : List (Nat × Nat) := [(231, 36)]
def A_X11_asIs_231 : List Nat := [246, 247, 248]
set_option maxRecDepth 100000 in
set_option maxHeartbeats 4000000 in
theorem T_X11_asIs_231 (d : Nat) {N : Nat} {g0 : List en_E} (hI0 : HI g0) : Ev (d + 2) 215 [.ref 231] (g0, N) (fun w h' => ∃ g', h' = (g', N) ∧ HI g' ∧ Fr F_X11_asIs_231 A_X11_asIs_231 g0 g' ∧ w = none) := by
  have hF0 : Fr F_X11_asIs_231 A_X11_asIs_231 g0 g0 := Fr.rf
  refine Ev.mk rfl rfl ⟨Nat.le_of_ble_eq_true rfl, Or.inr (q_rc hI0.1 kx_231 rfl)⟩ ?_
  show At _ none _ _ (0, [(0, .ref 231)], [], (_, _)) _
  refine At.enter rfl ?_
  refine r_iconst 0 rfl ?_
  refine r_istore_n ([(1, .int 0), (0, .ref 231)]) rfl ?_
  refine Ar.fall 2 rfl ?_
  have z_965 : (0 : Int32).toInt = 0 := rfl
  refine w_loopI (fun n_ l_ g_ => ∃ x955 : Int32, n_ = 12 - x955.toInt ∧ HI g_ ∧ Fr F_X11_asIs_231 A_X11_asIs_231 g0 g_ ∧ en_get 0 l_ = some (.ref 231) ∧ en_get 1 l_ = some (.int x955) ∧ (0 ≤ x955.toInt ∧ x955.toInt ≤ 12)) ?_ (12 - 0) ⟨0, by first | rfl | omega, hI0, hF0, rfl, rfl, by decide⟩
  rintro n960 l959 g956 ⟨x955, hm966, hI957, hF958, e962, e963, r964⟩ ih961
  refine At.enter rfl ?_
  refine r_iload_n e963 ?_
  refine r_bipush 12 rfl ?_
  refine r_ics 8 rfl (fun c967 => ?_) (fun c967 => ?_)
  · have c967_ : x955.toInt ≥ 12 := en_i_ge_t c967
    refine At.enter rfl ?_
    refine r_iconst 0 rfl ?_
    refine r_istore_n _ rfl ?_
    refine Ar.fall 40 rfl ?_
    have z_1050 : (0 : Int32).toInt = 0 := rfl
    refine w_loopI (fun n_ l_ g_ => ∃ x1040 : Int32, n_ = 8 - x1040.toInt ∧ HI g_ ∧ Fr F_X11_asIs_231 A_X11_asIs_231 g0 g_ ∧ en_get 0 l_ = some (.ref 231) ∧ en_get 1 l_ = some (.int x1040) ∧ (0 ≤ x1040.toInt ∧ x1040.toInt ≤ 8)) ?_ (8 - 0) ⟨0, by first | rfl | omega, hI957, hF958, (w_p1 (by decide) (Or.inr rfl) e962), (w_e1 _ _ _), by decide⟩
    rintro n1045 l1044 g1041 ⟨x1040, hm1051, hI1042, hF1043, e1047, e1048, r1049⟩ ih1046
    refine At.enter rfl ?_
    refine r_iload_n e1048 ?_
    refine r_bipush 8 rfl ?_
    refine r_ics 46 rfl (fun c1052 => ?_) (fun c1052 => ?_)
    · have c1052_ : x1040.toInt ≥ 8 := en_i_ge_t c1052
      refine At.enter rfl ?_
      refine r_aload_n e1047 ?_
      refine r_iconst 0 rfl ?_
      refine q_putI (Sh.int hI1042.1 kx_231 rfl) rfl ?_
      have hI1053 := HI.wI0 hI1042 kx_231 rfl (p := 231) (b := 36) (v := 0) rfl
      have hF1054 := Fr.wI (p := 231) (b := 36) (v := 0) hF1043 rfl
      refine r_vret ?_
      exact ⟨_, rfl, hI1053, hF1054, rfl⟩
    · have c1052_ : x1040.toInt < 8 := en_i_ge_f c1052
      refine At.enter rfl ?_
      refine r_aload_n e1047 ?_
      refine q_getR (Sh.ref hI1042.1 kx_231 rfl) ?_
      refine r_iload_n e1048 ?_
      refine r_aload_n e1047 ?_
      refine r_iload_n e1048 ?_
      refine r_iconst 3 rfl ?_
      refine q_inlV 57 rfl [.ref 231, .int x1040, .int 3] [.int x1040, .ref 248] (Nat.le_of_ble_eq_true rfl) rfl ?_
      refine Ev.mk rfl rfl ⟨Nat.le_of_ble_eq_true rfl, Or.inr (q_rc hI1042.1 kx_231 rfl)⟩ ?_
      show At _ none _ _ (0, [(0, .ref 231), (1, .int x1040), (2, .int 3)], [], (_, _)) _
      refine At.enter rfl ?_
      refine r_aload_n rfl ?_
      refine q_getR (Sh.ref hI1042.1 kx_231 rfl) ?_
      refine r_bipush 46 rfl ?_
      refine r_bipush 6 rfl ?_
      refine r_iload_n rfl ?_
      refine q_imul (6 * x1040.toInt) rfl (by omega) (fun v1055 hv1055 => ?_)
      refine q_iadd (46 + v1055.toInt) rfl (by omega) (fun v1056 hv1056 => ?_)
      refine r_iload_n rfl ?_
      refine q_iadd (v1056.toInt + 3) rfl (by omega) (fun v1057 hv1057 => ?_)
      obtain ⟨v1058, hv1058⟩ : ∃ v, eA g0 233 (6 * x1040.toInt + 49) = v := ⟨_, rfl⟩
      have wv1058 := HI.l3 hI0 (j := (6 * x1040.toInt + 49)) (x1040.toInt) (by omega) (by omega)
      rw [hv1058] at wv1058
      refine q_iald (Sh.arr hI1042.1 ka_233) (6 * x1040.toInt + 49) (by omega) (by omega) v1058 ((eA_c (hF1043.2.1 233 (by decide))).trans hv1058) ?_
      refine q_ireti ?_
      refine At.enter rfl ?_
      refine q_iast (Sh.arr hI1042.1 ka_248) (x1040.toInt) rfl (by omega) ?_
      have hI1059 := HI.wA0 hI1042 ka_248 (p := 248) rfl rfl (x1040.toInt) (v1058)
      have hF1060 := Fr.wA (p := 248) (j := x1040.toInt) (v := v1058) hF1043 rfl
      refine q_iinc e1048 (x1040.toInt + 1) rfl (by omega) (fun v1061 hv1061 => ?_)
      refine r_goto ?_
      exact ih1046 (8 - v1061.toInt) _ _ ⟨v1061, by first | rfl | omega, hI1059, hF1060, (w_p1 (by decide) (Or.inr rfl) e1047), (w_e1 _ _ _), by omega⟩ ⟨by omega, by omega⟩
  · have c967_ : x955.toInt < 12 := en_i_ge_f c967
    refine At.enter rfl ?_
    refine r_aload_n e962 ?_
    refine q_getR (Sh.ref hI957.1 kx_231 rfl) ?_
    refine r_iload_n e963 ?_
    refine r_aload_n e962 ?_
    refine r_iload_n e963 ?_
    refine r_iconst 1 rfl ?_
    refine q_inlV 19 rfl [.ref 231, .int x955, .int 1] [.int x955, .ref 246] (Nat.le_of_ble_eq_true rfl) rfl ?_
    refine Ev.mk rfl rfl ⟨Nat.le_of_ble_eq_true rfl, Or.inr (q_rc hI957.1 kx_231 rfl)⟩ ?_
    show At _ none _ _ (0, [(0, .ref 231), (1, .int x955), (2, .int 1)], [], (_, _)) _
    refine At.enter rfl ?_
    refine r_aload_n rfl ?_
    refine q_getR (Sh.ref hI957.1 kx_231 rfl) ?_
    refine r_bipush 10 rfl ?_
    refine r_iconst 3 rfl ?_
    refine r_iload_n rfl ?_
    refine q_imul (3 * x955.toInt) rfl (by omega) (fun v1062 hv1062 => ?_)
    refine q_iadd (10 + v1062.toInt) rfl (by omega) (fun v1063 hv1063 => ?_)
    refine r_iload_n rfl ?_
    refine q_iadd (v1063.toInt + 1) rfl (by omega) (fun v1064 hv1064 => ?_)
    obtain ⟨v1065, hv1065⟩ : ∃ v, eA g0 233 (3 * x955.toInt + 11) = v := ⟨_, rfl⟩
    have wv1065 := HI.s1 hI0 (j := (3 * x955.toInt + 11)) (x955.toInt) (by omega) (by omega)
    rw [hv1065] at wv1065
    refine q_iald (Sh.arr hI957.1 ka_233) (3 * x955.toInt + 11) (by omega) (by omega) v1065 ((eA_c (hF958.2.1 233 (by decide))).trans hv1065) ?_
    refine q_ireti ?_
    refine At.enter rfl ?_
    refine q_iast (Sh.arr hI957.1 ka_246) (x955.toInt) rfl (by omega) ?_
    have hI1066 := HI.wA0 hI957 ka_246 (p := 246) rfl rfl (x955.toInt) (v1065)
    have hF1067 := Fr.wA (p := 246) (j := x955.toInt) (v := v1065) hF958 rfl
    refine r_aload_n e962 ?_
    refine q_getR (Sh.ref hI1066.1 kx_231 rfl) ?_
    refine r_iload_n e963 ?_
    refine r_aload_n e962 ?_
    refine r_iload_n e963 ?_
    refine r_iconst 2 rfl ?_
    refine q_inlV 31 rfl [.ref 231, .int x955, .int 2] [.int x955, .ref 247] (Nat.le_of_ble_eq_true rfl) rfl ?_
    refine Ev.mk rfl rfl ⟨Nat.le_of_ble_eq_true rfl, Or.inr (q_rc hI1066.1 kx_231 rfl)⟩ ?_
    show At _ none _ _ (0, [(0, .ref 231), (1, .int x955), (2, .int 2)], [], (_, _)) _
    refine At.enter rfl ?_
    refine r_aload_n rfl ?_
    refine q_getR (Sh.ref hI1066.1 kx_231 rfl) ?_
    refine r_bipush 10 rfl ?_
    refine r_iconst 3 rfl ?_
    refine r_iload_n rfl ?_
    refine q_imul (3 * x955.toInt) rfl (by omega) (fun v1068 hv1068 => ?_)
    refine q_iadd (10 + v1068.toInt) rfl (by omega) (fun v1069 hv1069 => ?_)
    refine r_iload_n rfl ?_
    refine q_iadd (v1069.toInt + 2) rfl (by omega) (fun v1070 hv1070 => ?_)
    obtain ⟨v1071, hv1071⟩ : ∃ v, eA g0 233 (3 * x955.toInt + 12) = v := ⟨_, rfl⟩
    have wv1071 := HI.s2 hI0 (j := (3 * x955.toInt + 12)) (x955.toInt) (by omega) (by omega)
    rw [hv1071] at wv1071
    refine q_iald (Sh.arr hI1066.1 ka_233) (3 * x955.toInt + 12) (by omega) (by omega) v1071 ((eA_c ((gA_sA_ne (by decide)).trans (hF958.2.1 233 (by decide)))).trans hv1071) ?_
    refine q_ireti ?_
    refine At.enter rfl ?_
    refine q_iast (Sh.arr hI1066.1 ka_247) (x955.toInt) rfl (by omega) ?_
    have hI1072 := HI.wA0 hI1066 ka_247 (p := 247) rfl rfl (x955.toInt) (v1071)
    have hF1073 := Fr.wA (p := 247) (j := x955.toInt) (v := v1071) hF1067 rfl
    refine q_iinc e963 (x955.toInt + 1) rfl (by omega) (fun v1074 hv1074 => ?_)
    refine r_goto ?_
    exact ih961 (12 - v1074.toInt) _ _ ⟨v1074, by first | rfl | omega, hI1072, hF1073, (w_p1 (by decide) (Or.inr rfl) e962), (w_e1 _ _ _), by omega⟩ ⟨by omega, by omega⟩
