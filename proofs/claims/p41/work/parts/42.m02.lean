def F_X11_dropped_231 : List (Nat × Nat) := [(231, 0)]
def A_X11_dropped_231 : List Nat := []
set_option maxRecDepth 100000 in
set_option maxHeartbeats 4000000 in
theorem T_X11_dropped_231 (d : Nat) {N : Nat} {g0 : List en_E} (hI0 : HI g0) : Ev (d + 1) 183 [.ref 231] (g0, N) (fun w h' => ∃ g', h' = (g', N) ∧ HI g' ∧ Fr F_X11_dropped_231 A_X11_dropped_231 g0 g' ∧ ∃ r : Int32, w = some (.int r) ∧ True ∧ (r.toInt = (gI g0 231 6).toInt)) := by
  have hF0 : Fr F_X11_dropped_231 A_X11_dropped_231 g0 g0 := Fr.rf
  refine Ev.mk rfl rfl ⟨Nat.le_of_ble_eq_true rfl, Or.inr (q_rc hI0.1 kx_231 rfl)⟩ ?_
  show At _ none _ _ (0, [(0, .ref 231)], [], (_, _)) _
  refine At.enter rfl ?_
  refine r_aload_n rfl ?_
  refine r_iconst 0 rfl ?_
  refine q_putI (Sh.int hI0.1 kx_231 rfl) rfl ?_
  have hI7 := HI.wI0 hI0 kx_231 rfl (p := 231) (b := 0) (v := 0) rfl
  have hF8 := Fr.wI (p := 231) (b := 0) (v := 0) hF0 rfl
  refine r_aload_n rfl ?_
  obtain ⟨v9, hv9⟩ : ∃ v, gI g0 231 6 = v := ⟨_, rfl⟩
  refine q_getI (Sh.int hI7.1 kx_231 rfl) v9 ((gI_sI_ne (by decide)).trans hv9) ?_
  refine r_ireti ?_
  have x10 := HI.eqI hI0 (p := 231) (b := 6) (hv9)
  exact ⟨_, rfl, hI7, hF8, _, rfl, trivial, (by omega)⟩

def F_X11_end_231 : List (Nat × Nat) := [(231, 0), (231, 8)]
def A_X11_end_231 : List Nat := []
set_option maxRecDepth 100000 in
set_option maxHeartbeats 4000000 in
theorem T_X11_end_231 (d : Nat) {N : Nat} {g0 : List en_E} (hI0 : HI g0) (a1 : Int32) : Ev (d + 1) 186 [.ref 231, .int a1] (g0, N) (fun w h' => ∃ g', h' = (g', N) ∧ HI g' ∧ Fr F_X11_end_231 A_X11_end_231 g0 g' ∧ ∃ r : Int32, w = some (.int r) ∧ ((-1) ≤ r.toInt ∧ r.toInt ≤ 400) ∧ ((0 ≤ a1.toInt ∧ a1.toInt ≤ (gI g0 231 8).toInt → r.toInt = a1.toInt ∧ (gI g' 231 8).toInt = a1.toInt) ∧ (a1.toInt < 0 ∨ (gI g0 231 8).toInt < a1.toInt → r.toInt = -1 ∧ (gI g' 231 8).toInt = (gI g0 231 8).toInt))) := by
  have hF0 : Fr F_X11_end_231 A_X11_end_231 g0 g0 := Fr.rf
  refine Ev.mk rfl rfl ⟨Nat.le_of_ble_eq_true rfl, Or.inr (q_rc hI0.1 kx_231 rfl)⟩ ?_
  show At _ none _ _ (0, [(0, .ref 231), (1, .int a1)], [], (_, _)) _
  refine At.enter rfl ?_
  refine r_aload_n rfl ?_
  refine r_iconst 0 rfl ?_
  refine q_putI (Sh.int hI0.1 kx_231 rfl) rfl ?_
  have hI19 := HI.wI0 hI0 kx_231 rfl (p := 231) (b := 0) (v := 0) rfl
  have hF20 := Fr.wI (p := 231) (b := 0) (v := 0) hF0 rfl
  refine r_iload_n rfl ?_
  refine r_ifs 9 rfl (fun c21 => ?_) (fun c21 => ?_)
  · have c21_ : a1.toInt < 0 := en_k_lt_t c21
    refine At.enter rfl ?_
    refine r_iconst (-1) rfl ?_
    refine r_ireti ?_
    have zv22 : ((-1) : Int32).toInt = (-1) := rfl
    obtain ⟨v23, hv23⟩ : ∃ v, gI g0 231 8 = v := ⟨_, rfl⟩
    have rv23 := RgF.at hI0.2.1 (p := 231) (b := 8) rfl
    rw [hv23] at rv23
    dsimp only at rv23
    have tv23 := congrArg Int32.toInt hv23
    have x24 := HI.eqI hI19 (p := 231) (b := 8) (((gI_sI_ne (by decide)).trans hv23))
    exact ⟨_, rfl, hI19, hF20, _, rfl, by decide, (by omega)⟩
  · have c21_ : a1.toInt ≥ 0 := en_k_lt_f c21
    refine At.enter rfl ?_
    refine r_iload_n rfl ?_
    refine r_aload_n rfl ?_
    obtain ⟨v26, hv26⟩ : ∃ v, gI g0 231 8 = v := ⟨_, rfl⟩
    have rv26 := RgF.at hI0.2.1 (p := 231) (b := 8) rfl
    rw [hv26] at rv26
    dsimp only at rv26
    refine q_getI (Sh.int hI19.1 kx_231 rfl) v26 ((gI_sI_ne (by decide)).trans hv26) ?_
    have bv28 := q_bnd a1
    have bv29 := q_bnd v26
    refine r_ics 17 rfl (fun c27 => ?_) (fun c27 => ?_)
    · have c27_ : a1.toInt ≤ v26.toInt := en_i_le_t c27
      refine At.enter rfl ?_
      refine r_aload_n rfl ?_
      refine r_iload_n rfl ?_
      refine q_putI (Sh.int hI19.1 kx_231 rfl) rfl ?_
      have hI30 := HI.wI1 hI19 kx_231 rfl (p := 231) (b := 8) (v := a1) rfl (by dsimp only; omega)
      have hF31 := Fr.wI (p := 231) (b := 8) (v := a1) hF20 rfl
      refine r_iload_n rfl ?_
      refine r_ireti ?_
      have x32 := HI.eqI hI30 (p := 231) (b := 8) ((gI_sI_eq hI19.1 kx_231 rfl _))
      have x33 := HI.eqI hI0 (p := 231) (b := 8) (hv26)
      exact ⟨_, rfl, hI30, hF31, _, rfl, by omega, (by omega)⟩
    · have c27_ : a1.toInt > v26.toInt := en_i_le_f c27
      refine At.enter rfl ?_
      refine r_iconst (-1) rfl ?_
      refine r_ireti ?_
      have zv34 : ((-1) : Int32).toInt = (-1) := rfl
      have x35 := HI.eqI hI19 (p := 231) (b := 8) (((gI_sI_ne (by decide)).trans hv26))
      have x36 := HI.eqI hI0 (p := 231) (b := 8) (hv26)
      exact ⟨_, rfl, hI19, hF20, _, rfl, by decide, (by omega)⟩

def F_X11_fault_231 : List (Nat × Nat) := [(231, 0)]
def A_X11_fault_231 : List Nat := []
set_option maxRecDepth 100000 in
set_option maxHeartbeats 4000000 in
theorem T_X11_fault_231 (d : Nat) {N : Nat} {g0 : List en_E} (hI0 : HI g0) : Ev (d + 1) 194 [.ref 231] (g0, N) (fun w h' => ∃ g', h' = (g', N) ∧ HI g' ∧ Fr F_X11_fault_231 A_X11_fault_231 g0 g' ∧ ∃ r : Int32, w = some (.int r) ∧ True) := by
  have hF0 : Fr F_X11_fault_231 A_X11_fault_231 g0 g0 := Fr.rf
  refine Ev.mk rfl rfl ⟨Nat.le_of_ble_eq_true rfl, Or.inr (q_rc hI0.1 kx_231 rfl)⟩ ?_
  show At _ none _ _ (0, [(0, .ref 231)], [], (_, _)) _
  refine At.enter rfl ?_
  refine r_aload_n rfl ?_
  refine r_iconst 0 rfl ?_
  refine q_putI (Sh.int hI0.1 kx_231 rfl) rfl ?_
  have hI7 := HI.wI0 hI0 kx_231 rfl (p := 231) (b := 0) (v := 0) rfl
  have hF8 := Fr.wI (p := 231) (b := 0) (v := 0) hF0 rfl
  refine r_aload_n rfl ?_
  obtain ⟨v9, hv9⟩ : ∃ v, gI g0 231 13 = v := ⟨_, rfl⟩
  refine q_getI (Sh.int hI7.1 kx_231 rfl) v9 ((gI_sI_ne (by decide)).trans hv9) ?_
  refine r_ireti ?_
  exact ⟨_, rfl, hI7, hF8, _, rfl, trivial⟩

def F_X11_asIs_231 : List (Nat × Nat) := [(231, 36)]
def A_X11_asIs_231 : List Nat := [246, 247, 248]
set_option maxRecDepth 100000 in
set_option maxHeartbeats 4000000 in
theorem T_X11_asIs_231 (d : Nat) {N : Nat} {g0 : List en_E} (hI0 : HI g0) : Ev (d + 2) 215 [.ref 231] (g0, N) (fun w h' => ∃ g', h' = (g', N) ∧ HI g' ∧ Fr F_X11_asIs_231 A_X11_asIs_231 g0 g' ∧ w = none) := by
  have hF0 : Fr F_X11_asIs_231 A_X11_asIs_231 g0 g0 := Fr.rf
  refine Ev.mk rfl rfl ⟨Nat.le_of_ble_eq_true rfl, Or.inr (q_rc hI0.1 kx_231 rfl)⟩ ?_
  show At _ none _ _ (0, [(0, .ref 231)], [], (_, _)) _
  refine At.enter rfl ?_
  refine r_iconst 0 rfl ?_
  refine r_istore_n ([(1, .int 0), (0, .ref 231)]) rfl ?_
  refine Ar.fall 2 rfl ?_
  have z_965 : (0 : Int32).toInt = 0 := rfl
  refine w_loopI (fun n_ l_ g_ => ∃ x955 : Int32, n_ = 12 - x955.toInt ∧ HI g_ ∧ Fr F_X11_asIs_231 A_X11_asIs_231 g0 g_ ∧ en_get 0 l_ = some (.ref 231) ∧ en_get 1 l_ = some (.int x955) ∧ (0 ≤ x955.toInt ∧ x955.toInt ≤ 12)) ?_ (12 - 0) ⟨0, by first | rfl | omega, hI0, hF0, rfl, rfl, by decide⟩
  rintro n960 l959 g956 ⟨x955, hm966, hI957, hF958, e962, e963, r964⟩ ih961
  refine At.enter rfl ?_
  refine r_iload_n e963 ?_
  refine r_bipush 12 rfl ?_
  refine r_ics 8 rfl (fun c967 => ?_) (fun c967 => ?_)
  · have c967_ : x955.toInt ≥ 12 := en_i_ge_t c967
    refine At.enter rfl ?_
    refine r_iconst 0 rfl ?_
    refine r_istore_n _ rfl ?_
    refine Ar.fall 40 rfl ?_
    have z_1050 : (0 : Int32).toInt = 0 := rfl
    refine w_loopI (fun n_ l_ g_ => ∃ x1040 : Int32, n_ = 8 - x1040.toInt ∧ HI g_ ∧ Fr F_X11_asIs_231 A_X11_asIs_231 g0 g_ ∧ en_get 0 l_ = some (.ref 231) ∧ en_get 1 l_ = some (.int x1040) ∧ (0 ≤ x1040.toInt ∧ x1040.toInt ≤ 8)) ?_ (8 - 0) ⟨0, by first | rfl | omega, hI957, hF958, (w_p1 (by decide) (Or.inr rfl) e962), (w_e1 _ _ _), by decide⟩
    rintro n1045 l1044 g1041 ⟨x1040, hm1051, hI1042, hF1043, e1047, e1048, r1049⟩ ih1046
    refine At.enter rfl ?_
    refine r_iload_n e1048 ?_
    refine r_bipush 8 rfl ?_
    refine r_ics 46 rfl (fun c1052 => ?_) (fun c1052 => ?_)
    · have c1052_ : x1040.toInt ≥ 8 := en_i_ge_t c1052
      refine At.enter rfl ?_
      refine r_aload_n e1047 ?_
      refine r_iconst 0 rfl ?_
      refine q_putI (Sh.int hI1042.1 kx_231 rfl) rfl ?_
      have hI1053 := HI.wI0 hI1042 kx_231 rfl (p := 231) (b := 36) (v := 0) rfl
      have hF1054 := Fr.wI (p := 231) (b := 36) (v := 0) hF1043 rfl
      refine r_vret ?_
      exact ⟨_, rfl, hI1053, hF1054, rfl⟩
    · have c1052_ : x1040.toInt < 8 := en_i_ge_f c1052
      refine At.enter rfl ?_
      refine r_aload_n e1047 ?_
      refine q_getR (Sh.ref hI1042.1 kx_231 rfl) ?_
      refine r_iload_n e1048 ?_
      refine r_aload_n e1047 ?_
      refine r_iload_n e1048 ?_
      refine r_iconst 3 rfl ?_
      refine q_inlV 57 rfl [.ref 231, .int x1040, .int 3] [.int x1040, .ref 248] (Nat.le_of_ble_eq_true rfl) rfl ?_
      refine Ev.mk rfl rfl ⟨Nat.le_of_ble_eq_true rfl, Or.inr (q_rc hI1042.1 kx_231 rfl)⟩ ?_
      show At _ none _ _ (0, [(0, .ref 231), (1, .int x1040), (2, .int 3)], [], (_, _)) _
      refine At.enter rfl ?_
      refine r_aload_n rfl ?_
      refine q_getR (Sh.ref hI1042.1 kx_231 rfl) ?_
      refine r_bipush 46 rfl ?_
      refine r_bipush 6 rfl ?_
      refine r_iload_n rfl ?_
      refine q_imul (6 * x1040.toInt) rfl (by omega) (fun v1055 hv1055 => ?_)
      refine q_iadd (46 + v1055.toInt) rfl (by omega) (fun v1056 hv1056 => ?_)
      refine r_iload_n rfl ?_
      refine q_iadd (v1056.toInt + 3) rfl (by omega) (fun v1057 hv1057 => ?_)
      obtain ⟨v1058, hv1058⟩ : ∃ v, eA g0 233 (6 * x1040.toInt + 49) = v := ⟨_, rfl⟩
      have wv1058 := HI.l3 hI0 (j := (6 * x1040.toInt + 49)) (x1040.toInt) (by omega) (by omega)
      rw [hv1058] at wv1058
      refine q_iald (Sh.arr hI1042.1 ka_233) (6 * x1040.toInt + 49) (by omega) (by omega) v1058 ((eA_c (hF1043.2.1 233 (by decide))).trans hv1058) ?_
      refine q_ireti ?_
      refine At.enter rfl ?_
      refine q_iast (Sh.arr hI1042.1 ka_248) (x1040.toInt) rfl (by omega) ?_
      have hI1059 := HI.wA0 hI1042 ka_248 (p := 248) rfl rfl (x1040.toInt) (v1058)
      have hF1060 := Fr.wA (p := 248) (j := x1040.toInt) (v := v1058) hF1043 rfl
      refine q_iinc e1048 (x1040.toInt + 1) rfl (by omega) (fun v1061 hv1061 => ?_)
      refine r_goto ?_
      exact ih1046 (8 - v1061.toInt) _ _ ⟨v1061, by first | rfl | omega, hI1059, hF1060, (w_p1 (by decide) (Or.inr rfl) e1047), (w_e1 _ _ _), by omega⟩ ⟨by omega, by omega⟩
  · have c967_ : x955.toInt < 12 := en_i_ge_f c967
    refine At.enter rfl ?_
    refine r_aload_n e962 ?_
    refine q_getR (Sh.ref hI957.1 kx_231 rfl) ?_
    refine r_iload_n e963 ?_
    refine r_aload_n e962 ?_
    refine r_iload_n e963 ?_
    refine r_iconst 1 rfl ?_
    refine q_inlV 19 rfl [.ref 231, .int x955, .int 1] [.int x955, .ref 246] (Nat.le_of_ble_eq_true rfl) rfl ?_
    refine Ev.mk rfl rfl ⟨Nat.le_of_ble_eq_true rfl, Or.inr (q_rc hI957.1 kx_231 rfl)⟩ ?_
    show At _ none _ _ (0, [(0, .ref 231), (1, .int x955), (2, .int 1)], [], (_, _)) _
    refine At.enter rfl ?_
    refine r_aload_n rfl ?_
    refine q_getR (Sh.ref hI957.1 kx_231 rfl) ?_
    refine r_bipush 10 rfl ?_
    refine r_iconst 3 rfl ?_
    refine r_iload_n rfl ?_
    refine q_imul (3 * x955.toInt) rfl (by omega) (fun v1062 hv1062 => ?_)
    refine q_iadd (10 + v1062.toInt) rfl (by omega) (fun v1063 hv1063 => ?_)
    refine r_iload_n rfl ?_
    refine q_iadd (v1063.toInt + 1) rfl (by omega) (fun v1064 hv1064 => ?_)
    obtain ⟨v1065, hv1065⟩ : ∃ v, eA g0 233 (3 * x955.toInt + 11) = v := ⟨_, rfl⟩
    have wv1065 := HI.s1 hI0 (j := (3 * x955.toInt + 11)) (x955.toInt) (by omega) (by omega)
    rw [hv1065] at wv1065
    refine q_iald (Sh.arr hI957.1 ka_233) (3 * x955.toInt + 11) (by omega) (by omega) v1065 ((eA_c (hF958.2.1 233 (by decide))).trans hv1065) ?_
    refine q_ireti ?_
    refine At.enter rfl ?_
    refine q_iast (Sh.arr hI957.1 ka_246) (x955.toInt) rfl (by omega) ?_
    have hI1066 := HI.wA0 hI957 ka_246 (p := 246) rfl rfl (x955.toInt) (v1065)
    have hF1067 := Fr.wA (p := 246) (j := x955.toInt) (v := v1065) hF958 rfl
    refine r_aload_n e962 ?_
    refine q_getR (Sh.ref hI1066.1 kx_231 rfl) ?_
    refine r_iload_n e963 ?_
    refine r_aload_n e962 ?_
    refine r_iload_n e963 ?_
    refine r_iconst 2 rfl ?_
    refine q_inlV 31 rfl [.ref 231, .int x955, .int 2] [.int x955, .ref 247] (Nat.le_of_ble_eq_true rfl) rfl ?_
    refine Ev.mk rfl rfl ⟨Nat.le_of_ble_eq_true rfl, Or.inr (q_rc hI1066.1 kx_231 rfl)⟩ ?_
    show At _ none _ _ (0, [(0, .ref 231), (1, .int x955), (2, .int 2)], [], (_, _)) _
    refine At.enter rfl ?_
    refine r_aload_n rfl ?_
    refine q_getR (Sh.ref hI1066.1 kx_231 rfl) ?_
    refine r_bipush 10 rfl ?_
    refine r_iconst 3 rfl ?_
    refine r_iload_n rfl ?_
    refine q_imul (3 * x955.toInt) rfl (by omega) (fun v1068 hv1068 => ?_)
    refine q_iadd (10 + v1068.toInt) rfl (by omega) (fun v1069 hv1069 => ?_)
    refine r_iload_n rfl ?_
    refine q_iadd (v1069.toInt + 2) rfl (by omega) (fun v1070 hv1070 => ?_)
    obtain ⟨v1071, hv1071⟩ : ∃ v, eA g0 233 (3 * x955.toInt + 12) = v := ⟨_, rfl⟩
    have wv1071 := HI.s2 hI0 (j := (3 * x955.toInt + 12)) (x955.toInt) (by omega) (by omega)
    rw [hv1071] at wv1071
    refine q_iald (Sh.arr hI1066.1 ka_233) (3 * x955.toInt + 12) (by omega) (by omega) v1071 ((eA_c ((gA_sA_ne (by decide)).trans (hF958.2.1 233 (by decide)))).trans hv1071) ?_
    refine q_ireti ?_
    refine At.enter rfl ?_
    refine q_iast (Sh.arr hI1066.1 ka_247) (x955.toInt) rfl (by omega) ?_
    have hI1072 := HI.wA0 hI1066 ka_247 (p := 247) rfl rfl (x955.toInt) (v1071)
    have hF1073 := Fr.wA (p := 247) (j := x955.toInt) (v := v1071) hF1067 rfl
    refine q_iinc e963 (x955.toInt + 1) rfl (by omega) (fun v1074 hv1074 => ?_)
    refine r_goto ?_
    exact ih961 (12 - v1074.toInt) _ _ ⟨v1074, by first | rfl | omega, hI1072, hF1073, (w_p1 (by decide) (Or.inr rfl) e962), (w_e1 _ _ _), by omega⟩ ⟨by omega, by omega⟩

def F_X11_reckon_231 : List (Nat × Nat) := [(231, 30)]
def A_X11_reckon_231 : List Nat := []
set_option maxRecDepth 100000 in
set_option maxHeartbeats 4000000 in
theorem T_X11_reckon_231 (d : Nat) {N : Nat} {g0 : List en_E} (hI0 : HI g0) (a1 : Int32) (a2 : Int64) (a3 : Int64) : Ev (d + 1) 212 [.ref 231, .int a1, .long a2, .long a3] (g0, N) (fun w h' => ∃ g', h' = (g', N) ∧ HI g' ∧ Fr F_X11_reckon_231 A_X11_reckon_231 g0 g' ∧ ∃ r : Int64, w = some (.long r) ∧ True) := by
  have hF0 : Fr F_X11_reckon_231 A_X11_reckon_231 g0 g0 := Fr.rf
  refine Ev.mk rfl rfl ⟨Nat.le_of_ble_eq_true rfl, Or.inr (q_rc hI0.1 kx_231 rfl)⟩ ?_
  show At _ none _ _ (0, [(0, .ref 231), (1, .int a1), (2, .long a2), (4, .long a3)], [], (_, _)) _
  refine At.enter rfl ?_
  refine r_iload_n rfl ?_
  by_cases c29_0 : a1.toInt = 20
  · refine r_tsw 40 (by rw [c29_0]; rfl) ?_
    refine At.enter rfl ?_
    refine r_lload_n rfl ?_
    refine r_lload rfl ?_
    refine q_laddO (fun v30 _ => ?_)
    refine r_lret ?_
    exact ⟨_, rfl, hI0, hF0, _, rfl, trivial⟩
  by_cases c29_1 : a1.toInt = 21
  · refine r_tsw 45 (by rw [c29_1]; rfl) ?_
    refine At.enter rfl ?_
    refine r_lload_n rfl ?_
    refine r_lload rfl ?_
    refine q_lsubO (fun v31 _ => ?_)
    refine r_lret ?_
    exact ⟨_, rfl, hI0, hF0, _, rfl, trivial⟩
  by_cases c29_2 : a1.toInt = 22
  · refine r_tsw 50 (by rw [c29_2]; rfl) ?_
    refine At.enter rfl ?_
    refine r_lload_n rfl ?_
    refine r_lload rfl ?_
    refine q_lmulO (fun v32 _ => ?_)
    refine r_lret ?_
    exact ⟨_, rfl, hI0, hF0, _, rfl, trivial⟩
  by_cases c29_3 : a1.toInt = 23
  · refine r_tsw 55 (by rw [c29_3]; rfl) ?_
    refine At.enter rfl ?_
    refine r_aload_n rfl ?_
    refine r_lload rfl ?_
    refine r_lconst 0 rfl ?_
    refine r_lcmp _ rfl ?_
    refine r_ifs 63 rfl (fun c33 => ?_) (fun c33 => ?_)
    · have c33_ : a3.toInt ≠ 0 := en_j_ne_t c33
      refine At.enter rfl ?_
      refine r_iconst 0 rfl ?_
      refine Ar.fall 68 rfl ?_
      refine At.enter rfl ?_
      refine q_putI (Sh.int hI0.1 kx_231 rfl) rfl ?_
      have hI34 := HI.wI0 hI0 kx_231 rfl (p := 231) (b := 30) (v := 0) rfl
      have hF35 := Fr.wI (p := 231) (b := 30) (v := 0) hF0 rfl
      refine r_aload_n rfl ?_
      refine q_getI (Sh.int hI34.1 kx_231 rfl) 0 (gI_sI_eq hI0.1 kx_231 rfl _) ?_
      refine r_ift (by decide) ?_
      refine At.enter rfl ?_
      refine r_lload_n rfl ?_
      refine r_lload rfl ?_
      refine q_ldivO (by omega) (fun v36 _ => ?_)
      refine Ar.fall 86 rfl ?_
      refine At.enter rfl ?_
      refine r_lret ?_
      exact ⟨_, rfl, hI34, hF35, _, rfl, trivial⟩
    · have c33_ : a3.toInt = 0 := en_j_ne_f c33
      refine At.enter rfl ?_
      refine r_iconst 1 rfl ?_
      refine r_goto ?_
      refine At.enter rfl ?_
      refine q_putI (Sh.int hI0.1 kx_231 rfl) rfl ?_
      have hI37 := HI.wI0 hI0 kx_231 rfl (p := 231) (b := 30) (v := 1) rfl
      have hF38 := Fr.wI (p := 231) (b := 30) (v := 1) hF0 rfl
      refine r_aload_n rfl ?_
      refine q_getI (Sh.int hI37.1 kx_231 rfl) 1 (gI_sI_eq hI0.1 kx_231 rfl _) ?_
      refine r_iff 78 rfl (by decide) ?_
      refine At.enter rfl ?_
      refine r_lconst 0 rfl ?_
      refine r_goto ?_
      refine At.enter rfl ?_
      refine r_lret ?_
      exact ⟨_, rfl, hI37, hF38, _, rfl, trivial⟩
  by_cases c29_4 : a1.toInt = 24
  · refine r_tsw 87 (by rw [c29_4]; rfl) ?_
    refine At.enter rfl ?_
    refine r_lload_n rfl ?_
    refine r_lload rfl ?_
    refine r_lcmp _ rfl ?_
    refine r_ifs 94 rfl (fun c39 => ?_) (fun c39 => ?_)
    · have c39_ : a2.toInt ≥ a3.toInt := en_j_ge_t c39
      refine At.enter rfl ?_
      refine r_lconst 0 rfl ?_
      refine Ar.fall 99 rfl ?_
      refine At.enter rfl ?_
      refine r_lret ?_
      exact ⟨_, rfl, hI0, hF0, _, rfl, trivial⟩
    · have c39_ : a2.toInt < a3.toInt := en_j_ge_f c39
      refine At.enter rfl ?_
      refine r_lconst 1 rfl ?_
      refine r_goto ?_
      refine At.enter rfl ?_
      refine r_lret ?_
      exact ⟨_, rfl, hI0, hF0, _, rfl, trivial⟩
  by_cases c29_5 : a1.toInt = 25
  · refine r_tsw 100 (by rw [c29_5]; rfl) ?_
    refine At.enter rfl ?_
    refine r_lload_n rfl ?_
    refine r_lload rfl ?_
    refine r_lcmp _ rfl ?_
    refine r_ifs 107 rfl (fun c40 => ?_) (fun c40 => ?_)
    · have c40_ : a2.toInt ≤ a3.toInt := en_j_le_t c40
      refine At.enter rfl ?_
      refine r_lconst 0 rfl ?_
      refine Ar.fall 112 rfl ?_
      refine At.enter rfl ?_
      refine r_lret ?_
      exact ⟨_, rfl, hI0, hF0, _, rfl, trivial⟩
    · have c40_ : a2.toInt > a3.toInt := en_j_le_f c40
      refine At.enter rfl ?_
      refine r_lconst 1 rfl ?_
      refine r_goto ?_
      refine At.enter rfl ?_
      refine r_lret ?_
      exact ⟨_, rfl, hI0, hF0, _, rfl, trivial⟩
  have c41 : a1.toInt < 20 ∨ 25 < a1.toInt := by omega
  refine r_tsw 113 (by unfold en_sw; rw [if_pos c41]; rfl) ?_
  refine At.enter rfl ?_
  refine r_lload_n rfl ?_
  refine r_lload rfl ?_
  refine r_lcmp _ rfl ?_
  refine r_ifs 120 rfl (fun c42 => ?_) (fun c42 => ?_)
  · have c42_ : a2.toInt ≠ a3.toInt := en_j_ne_t c42
    refine At.enter rfl ?_
    refine r_lconst 0 rfl ?_
    refine Ar.fall 125 rfl ?_
    refine At.enter rfl ?_
    refine r_lret ?_
    exact ⟨_, rfl, hI0, hF0, _, rfl, trivial⟩
  · have c42_ : a2.toInt = a3.toInt := en_j_ne_f c42
    refine At.enter rfl ?_
    refine r_lconst 1 rfl ?_
    refine r_goto ?_
    refine At.enter rfl ?_
    refine r_lret ?_
    exact ⟨_, rfl, hI0, hF0, _, rfl, trivial⟩
