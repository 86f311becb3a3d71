def F_X1_take_188 : List (Nat × Nat) := [(188, 18)]
def A_X1_take_188 : List Nat := [195, 198, 199, 200]
set_option maxRecDepth 100000 in
set_option maxHeartbeats 4000000 in
theorem T_X1_take_188 (d : Nat) {N : Nat} {g0 : List en_E} (hI0 : HI g0) (a1 : Int32) (a2 : Int32) (h_a2 : 0 ≤ a2.toInt ∧ a2.toInt ≤ 7) : Ev (d + 2) 27 [.ref 188, .int a1, .int a2] (g0, N) (fun w h' => ∃ g', h' = (g', N) ∧ HI g' ∧ Fr F_X1_take_188 A_X1_take_188 g0 g' ∧ w = none) := by
  have hF0 : Fr F_X1_take_188 A_X1_take_188 g0 g0 := Fr.rf
  refine Ev.mk rfl rfl ⟨Nat.le_of_ble_eq_true rfl, Or.inr (q_rc hI0.1 kx_188 rfl)⟩ ?_
  show At _ none _ _ (0, [(0, .ref 188), (1, .int a1), (2, .int a2)], [], (_, _)) _
  refine At.enter rfl ?_
  refine r_aload_n rfl ?_
  refine q_getR (Sh.ref hI0.1 kx_188 rfl) ?_
  refine r_iload_n rfl ?_
  refine q_inlV 8 rfl [.ref 1, .int a1] [] (Nat.le_of_ble_eq_true rfl) rfl ?_
  refine Ev.mk rfl rfl ⟨Nat.le_of_ble_eq_true rfl, Or.inr (q_rc hI0.1 kx_1 rfl)⟩ ?_
  show At _ none _ _ (0, [(0, .ref 1), (1, .int a1)], [], (_, _)) _
  refine At.enter rfl ?_
  refine r_iload_n rfl ?_
  refine r_ifs 4 rfl (fun c51 => ?_) (fun c51 => ?_)
  · have c51_ : a1.toInt < 0 := en_k_lt_t c51
    refine At.enter rfl ?_
    refine r_iconst 0 rfl ?_
    refine Ar.fall 17 rfl ?_
    refine At.enter rfl ?_
    refine q_iretz (by decide) ?_
    refine At.enter rfl ?_
    refine r_ift (by decide) ?_
    refine At.enter rfl ?_
    refine r_vret ?_
    exact ⟨_, rfl, hI0, hF0, rfl⟩
  · have c51_ : a1.toInt ≥ 0 := en_k_lt_f c51
    refine At.enter rfl ?_
    refine r_iload_n rfl ?_
    refine r_aload_n rfl ?_
    obtain ⟨v52, hv52⟩ : ∃ v, gI g0 1 0 = v := ⟨_, rfl⟩
    have rv52 := RgF.at hI0.2.1 (p := 1) (b := 0) rfl
    rw [hv52] at rv52
    dsimp only at rv52
    refine q_getI (Sh.int hI0.1 kx_1 rfl) v52 hv52 ?_
    have bv54 := q_bnd a1
    have bv55 := q_bnd v52
    refine r_ics 12 rfl (fun c53 => ?_) (fun c53 => ?_)
    · have c53_ : a1.toInt ≥ v52.toInt := en_i_ge_t c53
      refine At.enter rfl ?_
      refine r_iconst 0 rfl ?_
      refine Ar.fall 17 rfl ?_
      refine At.enter rfl ?_
      refine q_iretz (by decide) ?_
      refine At.enter rfl ?_
      refine r_ift (by decide) ?_
      refine At.enter rfl ?_
      refine r_vret ?_
      exact ⟨_, rfl, hI0, hF0, rfl⟩
    · have c53_ : a1.toInt < v52.toInt := en_i_ge_f c53
      refine At.enter rfl ?_
      refine r_iconst 1 rfl ?_
      refine r_goto ?_
      refine At.enter rfl ?_
      refine q_iretz (by decide) ?_
      refine At.enter rfl ?_
      refine r_iff 11 rfl (by decide) ?_
      refine At.enter rfl ?_
      refine r_aload_n rfl ?_
      refine q_getR (Sh.ref hI0.1 kx_188 rfl) ?_
      refine r_iload_n rfl ?_
      refine r_iload_n rfl ?_
      refine q_iast (Sh.arr hI0.1 ka_195) (a2.toInt) rfl (by omega) ?_
      have hI56 := HI.wA0 hI0 ka_195 (p := 195) rfl rfl (a2.toInt) (a1)
      have hF57 := Fr.wA (p := 195) (j := a2.toInt) (v := a1) hF0 rfl
      refine r_aload_n rfl ?_
      refine q_getR (Sh.ref hI56.1 kx_188 rfl) ?_
      refine r_iload_n rfl ?_
      refine r_iconst 0 rfl ?_
      refine q_iast (Sh.arr hI56.1 ka_198) (a2.toInt) rfl (by omega) ?_
      have hI58 := HI.wA0 hI56 ka_198 (p := 198) rfl rfl (a2.toInt) (0)
      have hF59 := Fr.wA (p := 198) (j := a2.toInt) (v := 0) hF57 rfl
      refine r_aload_n rfl ?_
      refine r_iconst 1 rfl ?_
      refine q_putI (Sh.int hI58.1 kx_188 rfl) rfl ?_
      have hI60 := HI.wI0 hI58 kx_188 rfl (p := 188) (b := 18) (v := 1) rfl
      have hF61 := Fr.wI (p := 188) (b := 18) (v := 1) hF59 rfl
      refine r_aload_n rfl ?_
      refine q_getR (Sh.ref hI60.1 kx_188 rfl) ?_
      refine r_iload_n rfl ?_
      refine r_dup2 ⟨rfl, rfl⟩ ?_
      obtain ⟨v62, hv62⟩ : ∃ v, eA g0 199 a1.toInt = v := ⟨_, rfl⟩
      refine q_iald (Sh.arr hI60.1 ka_199) a1.toInt rfl (by omega) v62 ((eA_c ((gA_sI).trans ((gA_sA_ne (by decide)).trans (gA_sA_ne (by decide))))).trans hv62) ?_
      refine r_iconst 1 rfl ?_
      refine q_iaddO (fun v63 _ => ?_)
      refine q_iast (Sh.arr hI60.1 ka_199) (a1.toInt) rfl (by omega) ?_
      have hI64 := HI.wA0 hI60 ka_199 (p := 199) rfl rfl (a1.toInt) (v63)
      have hF65 := Fr.wA (p := 199) (j := a1.toInt) (v := v63) hF61 rfl
      refine r_aload_n rfl ?_
      refine q_getR (Sh.ref hI64.1 kx_188 rfl) ?_
      refine r_iload_n rfl ?_
      refine r_dup2 ⟨rfl, rfl⟩ ?_
      obtain ⟨v66, hv66⟩ : ∃ v, eA g0 200 a1.toInt = v := ⟨_, rfl⟩
      refine q_iald (Sh.arr hI64.1 ka_200) a1.toInt rfl (by omega) v66 ((eA_c ((gA_sA_ne (by decide)).trans ((gA_sI).trans ((gA_sA_ne (by decide)).trans (gA_sA_ne (by decide)))))).trans hv66) ?_
      refine r_aload_n rfl ?_
      refine q_getR (Sh.ref hI64.1 kx_188 rfl) ?_
      refine r_iload_n rfl ?_
      refine r_iconst 0 rfl ?_
      refine r_callV 56 rfl [.ref 1, .int a2, .int 0] [.int v66, .int a1, .ref 200] (Nat.le_of_ble_eq_true rfl) rfl (T_X0_about_1 _ hI64 a2 0) ?_
      rintro _ _ ⟨g67, rfl, hI68, hF69, v70, rfl, hr71⟩
      refine At.sti ?_
      have hF72 := Fr.tr hF65 hF69 rfl rfl
      refine At.enter rfl ?_
      refine q_iaddO (fun v73 _ => ?_)
      refine q_iast (Sh.arr hI68.1 ka_200) (a1.toInt) rfl (by omega) ?_
      have hI74 := HI.wA0 hI68 ka_200 (p := 200) rfl rfl (a1.toInt) (v73)
      have hF75 := Fr.wA (p := 200) (j := a1.toInt) (v := v73) hF72 rfl
      refine Ar.fall 58 rfl ?_
      refine At.enter rfl ?_
      refine r_vret ?_
      exact ⟨_, rfl, hI74, hF75, rfl⟩

def F_X1_giveUp_188 : List (Nat × Nat) := []
def A_X1_giveUp_188 : List Nat := [195, 199, 200]
set_option maxRecDepth 100000 in
set_option maxHeartbeats 4000000 in
theorem T_X1_giveUp_188 (d : Nat) {N : Nat} {g0 : List en_E} (hI0 : HI g0) (a1 : Int32) (a2 : Int32) (h_a2 : 0 ≤ a2.toInt ∧ a2.toInt ≤ 7) : Ev (d + 2) 28 [.ref 188, .int a1, .int a2] (g0, N) (fun w h' => ∃ g', h' = (g', N) ∧ HI g' ∧ Fr F_X1_giveUp_188 A_X1_giveUp_188 g0 g' ∧ w = none) := by
  have hF0 : Fr F_X1_giveUp_188 A_X1_giveUp_188 g0 g0 := Fr.rf
  refine Ev.mk rfl rfl ⟨Nat.le_of_ble_eq_true rfl, Or.inr (q_rc hI0.1 kx_188 rfl)⟩ ?_
  show At _ none _ _ (0, [(0, .ref 188), (1, .int a1), (2, .int a2)], [], (_, _)) _
  refine At.enter rfl ?_
  refine r_aload_n rfl ?_
  refine q_getR (Sh.ref hI0.1 kx_188 rfl) ?_
  refine r_iload_n rfl ?_
  refine q_inlV 8 rfl [.ref 1, .int a1] [] (Nat.le_of_ble_eq_true rfl) rfl ?_
  refine Ev.mk rfl rfl ⟨Nat.le_of_ble_eq_true rfl, Or.inr (q_rc hI0.1 kx_1 rfl)⟩ ?_
  show At _ none _ _ (0, [(0, .ref 1), (1, .int a1)], [], (_, _)) _
  refine At.enter rfl ?_
  refine r_iload_n rfl ?_
  refine r_ifs 4 rfl (fun c43 => ?_) (fun c43 => ?_)
  · have c43_ : a1.toInt < 0 := en_k_lt_t c43
    refine At.enter rfl ?_
    refine r_iconst 0 rfl ?_
    refine Ar.fall 17 rfl ?_
    refine At.enter rfl ?_
    refine q_iretz (by decide) ?_
    refine At.enter rfl ?_
    refine r_ift (by decide) ?_
    refine At.enter rfl ?_
    refine r_vret ?_
    exact ⟨_, rfl, hI0, hF0, rfl⟩
  · have c43_ : a1.toInt ≥ 0 := en_k_lt_f c43
    refine At.enter rfl ?_
    refine r_iload_n rfl ?_
    refine r_aload_n rfl ?_
    obtain ⟨v44, hv44⟩ : ∃ v, gI g0 1 0 = v := ⟨_, rfl⟩
    have rv44 := RgF.at hI0.2.1 (p := 1) (b := 0) rfl
    rw [hv44] at rv44
    dsimp only at rv44
    refine q_getI (Sh.int hI0.1 kx_1 rfl) v44 hv44 ?_
    have bv46 := q_bnd a1
    have bv47 := q_bnd v44
    refine r_ics 12 rfl (fun c45 => ?_) (fun c45 => ?_)
    · have c45_ : a1.toInt ≥ v44.toInt := en_i_ge_t c45
      refine At.enter rfl ?_
      refine r_iconst 0 rfl ?_
      refine Ar.fall 17 rfl ?_
      refine At.enter rfl ?_
      refine q_iretz (by decide) ?_
      refine At.enter rfl ?_
      refine r_ift (by decide) ?_
      refine At.enter rfl ?_
      refine r_vret ?_
      exact ⟨_, rfl, hI0, hF0, rfl⟩
    · have c45_ : a1.toInt < v44.toInt := en_i_ge_f c45
      refine At.enter rfl ?_
      refine r_iconst 1 rfl ?_
      refine r_goto ?_
      refine At.enter rfl ?_
      refine q_iretz (by decide) ?_
      refine At.enter rfl ?_
      refine r_iff 11 rfl (by decide) ?_
      refine At.enter rfl ?_
      refine r_aload_n rfl ?_
      refine q_getR (Sh.ref hI0.1 kx_188 rfl) ?_
      refine r_iload_n rfl ?_
      refine r_iconst (-1) rfl ?_
      refine q_iast (Sh.arr hI0.1 ka_195) (a2.toInt) rfl (by omega) ?_
      have hI48 := HI.wA0 hI0 ka_195 (p := 195) rfl rfl (a2.toInt) ((-1))
      have hF49 := Fr.wA (p := 195) (j := a2.toInt) (v := (-1)) hF0 rfl
      refine r_aload_n rfl ?_
      refine q_getR (Sh.ref hI48.1 kx_188 rfl) ?_
      refine r_iload_n rfl ?_
      refine r_dup2 ⟨rfl, rfl⟩ ?_
      obtain ⟨v50, hv50⟩ : ∃ v, eA g0 199 a1.toInt = v := ⟨_, rfl⟩
      refine q_iald (Sh.arr hI48.1 ka_199) a1.toInt rfl (by omega) v50 ((eA_c (gA_sA_ne (by decide))).trans hv50) ?_
      refine r_iconst 1 rfl ?_
      refine q_isubO (fun v51 _ => ?_)
      refine q_iast (Sh.arr hI48.1 ka_199) (a1.toInt) rfl (by omega) ?_
      have hI52 := HI.wA0 hI48 ka_199 (p := 199) rfl rfl (a1.toInt) (v51)
      have hF53 := Fr.wA (p := 199) (j := a1.toInt) (v := v51) hF49 rfl
      refine r_aload_n rfl ?_
      refine q_getR (Sh.ref hI52.1 kx_188 rfl) ?_
      refine r_iload_n rfl ?_
      refine r_dup2 ⟨rfl, rfl⟩ ?_
      obtain ⟨v54, hv54⟩ : ∃ v, eA g0 200 a1.toInt = v := ⟨_, rfl⟩
      refine q_iald (Sh.arr hI52.1 ka_200) a1.toInt rfl (by omega) v54 ((eA_c ((gA_sA_ne (by decide)).trans (gA_sA_ne (by decide)))).trans hv54) ?_
      refine r_aload_n rfl ?_
      refine q_getR (Sh.ref hI52.1 kx_188 rfl) ?_
      refine r_iload_n rfl ?_
      refine r_iconst 0 rfl ?_
      refine r_callV 44 rfl [.ref 1, .int a2, .int 0] [.int v54, .int a1, .ref 200] (Nat.le_of_ble_eq_true rfl) rfl (T_X0_about_1 _ hI52 a2 0) ?_
      rintro _ _ ⟨g55, rfl, hI56, hF57, v58, rfl, hr59⟩
      refine At.sti ?_
      have hF60 := Fr.tr hF53 hF57 rfl rfl
      refine At.enter rfl ?_
      refine q_isubO (fun v61 _ => ?_)
      refine q_iast (Sh.arr hI56.1 ka_200) (a1.toInt) rfl (by omega) ?_
      have hI62 := HI.wA0 hI56 ka_200 (p := 200) rfl rfl (a1.toInt) (v61)
      have hF63 := Fr.wA (p := 200) (j := a1.toInt) (v := v61) hF60 rfl
      refine Ar.fall 46 rfl ?_
      refine At.enter rfl ?_
      refine r_vret ?_
      exact ⟨_, rfl, hI62, hF63, rfl⟩

def F_X1_admit_188 : List (Nat × Nat) := [(188, 18)]
def A_X1_admit_188 : List Nat := [195, 196, 198, 199, 200]
set_option maxRecDepth 100000 in
set_option maxHeartbeats 4000000 in
theorem T_X1_admit_188 (d : Nat) {N : Nat} {g0 : List en_E} (hI0 : HI g0) (a1 : Int32) (h_a1 : 0 ≤ a1.toInt ∧ a1.toInt ≤ 7) (a2 : Int32) : Ev (d + 3) 25 [.ref 188, .int a1, .int a2] (g0, N) (fun w h' => ∃ g', h' = (g', N) ∧ HI g' ∧ Fr F_X1_admit_188 A_X1_admit_188 g0 g' ∧ w = none) := by
  have hF0 : Fr F_X1_admit_188 A_X1_admit_188 g0 g0 := Fr.rf
  refine Ev.mk rfl rfl ⟨Nat.le_of_ble_eq_true rfl, Or.inr (q_rc hI0.1 kx_188 rfl)⟩ ?_
  show At _ none _ _ (0, [(0, .ref 188), (1, .int a1), (2, .int a2)], [], (_, _)) _
  refine At.enter rfl ?_
  refine r_aload_n rfl ?_
  refine q_getR (Sh.ref hI0.1 kx_188 rfl) ?_
  refine r_iload_n rfl ?_
  refine r_iconst 1 rfl ?_
  refine r_callV 9 rfl [.ref 1, .int a1, .int 1] [] (Nat.le_of_ble_eq_true rfl) rfl (T_X0_about_1 _ hI0 a1 1) ?_
  rintro _ _ ⟨g57, rfl, hI58, hF59, v60, rfl, hr61⟩
  refine At.sti ?_
  have hF62 := Fr.tr hF0 hF59 rfl rfl
  refine At.enter rfl ?_
  refine r_istore_n ([(3, .int v60), (0, .ref 188), (1, .int a1), (2, .int a2)]) rfl ?_
  refine r_iload_n rfl ?_
  refine r_aload_n rfl ?_
  refine q_getR (Sh.ref hI58.1 kx_188 rfl) ?_
  refine r_iload_n rfl ?_
  refine r_iconst 2 rfl ?_
  refine r_callV 20 rfl [.ref 1, .int a1, .int 2] [.int v60] (Nat.le_of_ble_eq_true rfl) rfl (T_X0_about_1 _ hI58 a1 2) ?_
  rintro _ _ ⟨g63, rfl, hI64, hF65, v66, rfl, hr67⟩
  refine At.sti ?_
  have hF68 := Fr.tr hF62 hF65 rfl rfl
  refine At.enter rfl ?_
  refine r_ics 23 rfl (fun c69 => ?_) (fun c69 => ?_)
  · have c69_ : v60.toInt ≠ v66.toInt := en_i_ne_t c69
    refine At.enter rfl ?_
    refine r_aload_n rfl ?_
    refine r_iload_n rfl ?_
    refine r_iload_n rfl ?_
    refine r_callV 39 rfl [.ref 188, .int v60, .int a1] [] (Nat.le_of_ble_eq_true rfl) rfl (T_X1_canHold_188 _ hI64 v60 a1) ?_
    rintro _ _ ⟨g70, rfl, hI71, hF72, v73, rfl, hr74⟩
    refine At.sti ?_
    have hF75 := Fr.tr hF68 hF72 rfl rfl
    refine At.enter rfl ?_
    refine r_ifs 42 rfl (fun c76 => ?_) (fun c76 => ?_)
    · have c76_ : v73.toInt = 0 := en_k_eq_t c76
      refine At.enter rfl ?_
      refine r_vret ?_
      exact ⟨_, rfl, hI71, hF75, rfl⟩
    · have c76_ : v73.toInt ≠ 0 := en_k_eq_f c76
      refine At.enter rfl ?_
      refine r_aload_n rfl ?_
      refine r_iload_n rfl ?_
      refine r_iload_n rfl ?_
      refine r_callV 48 rfl [.ref 188, .int v60, .int a1] [] (Nat.le_of_ble_eq_true rfl) rfl (T_X1_take_188 _ hI71 v60 a1 (by omega)) ?_
      rintro _ _ ⟨g77, rfl, hI78, hF79, rfl⟩
      refine At.stn ?_
      have hF82 := Fr.tr hF75 hF79 rfl rfl
      refine At.enter rfl ?_
      refine r_vret ?_
      exact ⟨_, rfl, hI78, hF82, rfl⟩
  · have c69_ : v60.toInt = v66.toInt := en_i_ne_f c69
    refine At.enter rfl ?_
    refine r_aload_n rfl ?_
    refine q_getR (Sh.ref hI64.1 kx_188 rfl) ?_
    refine r_iload_n rfl ?_
    refine r_iload_n rfl ?_
    refine q_iast (Sh.arr hI64.1 ka_196) (a1.toInt) rfl (by omega) ?_
    have hI83 := HI.wA0 hI64 ka_196 (p := 196) rfl rfl (a1.toInt) (a2)
    have hF84 := Fr.wA (p := 196) (j := a1.toInt) (v := a2) hF68 rfl
    refine r_goto ?_
    refine At.enter rfl ?_
    refine r_vret ?_
    exact ⟨_, rfl, hI83, hF84, rfl⟩

def F_X1_arrive_188 : List (Nat × Nat) := [(188, 18)]
def A_X1_arrive_188 : List Nat := [195, 196, 198, 199, 200]
set_option maxRecDepth 100000 in
set_option maxHeartbeats 4000000 in
theorem T_X1_arrive_188 (d : Nat) {N : Nat} {g0 : List en_E} (hI0 : HI g0) (a1 : Int32) : Ev (d + 4) 24 [.ref 188, .int a1] (g0, N) (fun w h' => ∃ g', h' = (g', N) ∧ HI g' ∧ Fr F_X1_arrive_188 A_X1_arrive_188 g0 g' ∧ w = none) := by
  have hF0 : Fr F_X1_arrive_188 A_X1_arrive_188 g0 g0 := Fr.rf
  refine Ev.mk rfl rfl ⟨Nat.le_of_ble_eq_true rfl, Or.inr (q_rc hI0.1 kx_188 rfl)⟩ ?_
  show At _ none _ _ (0, [(0, .ref 188), (1, .int a1)], [], (_, _)) _
  refine At.enter rfl ?_
  refine r_iconst 0 rfl ?_
  refine r_istore_n ([(2, .int 0), (0, .ref 188), (1, .int a1)]) rfl ?_
  refine Ar.fall 2 rfl ?_
  have z_2915 : (0 : Int32).toInt = 0 := rfl
  refine w_loopI (fun n_ l_ g_ => ∃ x2904 : Int32, n_ = 8 - x2904.toInt ∧ HI g_ ∧ Fr F_X1_arrive_188 A_X1_arrive_188 g0 g_ ∧ en_get 0 l_ = some (.ref 188) ∧ en_get 1 l_ = some (.int a1) ∧ en_get 2 l_ = some (.int x2904) ∧ (0 ≤ x2904.toInt ∧ x2904.toInt ≤ 8)) ?_ (8 - 0) ⟨0, by first | rfl | omega, hI0, hF0, rfl, rfl, rfl, by decide⟩
  rintro n2909 l2908 g2905 ⟨x2904, hm2916, hI2906, hF2907, e2911, e2912, e2913, r2914⟩ ih2910
  refine At.enter rfl ?_
  refine r_iload_n e2913 ?_
  refine r_aload_n e2911 ?_
  refine q_getR (Sh.ref hI2906.1 kx_188 rfl) ?_
  obtain ⟨v2917, hv2917⟩ : ∃ v, gI g0 1 4 = v := ⟨_, rfl⟩
  have rv2917 := RgF.at hI0.2.1 (p := 1) (b := 4) rfl
  rw [hv2917] at rv2917
  dsimp only at rv2917
  refine q_getI (Sh.int hI2906.1 kx_1 rfl) v2917 ((hF2907.1 1 4 (by decide)).trans hv2917) ?_
  have bv2919 := q_bnd x2904
  have bv2920 := q_bnd v2917
  refine r_ics 13 rfl (fun c2918 => ?_) (fun c2918 => ?_)
  · have c2918_ : x2904.toInt ≥ v2917.toInt := en_i_ge_t c2918
    refine At.enter rfl ?_
    refine r_iconst 0 rfl ?_
    refine r_istore_n _ rfl ?_
    refine Ar.fall 57 rfl ?_
    have z_3030 : (0 : Int32).toInt = 0 := rfl
    refine w_loopI (fun n_ l_ g_ => ∃ x3019 : Int32, n_ = 8 - x3019.toInt ∧ HI g_ ∧ Fr F_X1_arrive_188 A_X1_arrive_188 g0 g_ ∧ en_get 0 l_ = some (.ref 188) ∧ en_get 1 l_ = some (.int a1) ∧ en_get 2 l_ = some (.int x3019) ∧ (0 ≤ x3019.toInt ∧ x3019.toInt ≤ 8)) ?_ (8 - 0) ⟨0, by first | rfl | omega, hI2906, hF2907, (w_p1 (by decide) (Or.inr rfl) e2911), (w_p1 (by decide) (Or.inr rfl) e2912), (w_e1 _ _ _), by decide⟩
    rintro n3024 l3023 g3020 ⟨x3019, hm3031, hI3021, hF3022, e3026, e3027, e3028, r3029⟩ ih3025
    refine At.enter rfl ?_
    refine r_iload_n e3028 ?_
    refine r_aload_n e3026 ?_
    refine q_getR (Sh.ref hI3021.1 kx_188 rfl) ?_
    refine q_getI (Sh.int hI3021.1 kx_1 rfl) v2917 ((hF3022.1 1 4 (by decide)).trans hv2917) ?_
    have bv3033 := q_bnd x3019
    refine r_ics 68 rfl (fun c3032 => ?_) (fun c3032 => ?_)
    · have c3032_ : x3019.toInt ≥ v2917.toInt := en_i_ge_t c3032
      refine At.enter rfl ?_
      refine r_vret ?_
      exact ⟨_, rfl, hI3021, hF3022, rfl⟩
    · have c3032_ : x3019.toInt < v2917.toInt := en_i_ge_f c3032
      refine At.enter rfl ?_
      refine r_aload_n e3026 ?_
      refine q_getR (Sh.ref hI3021.1 kx_188 rfl) ?_
      refine r_iload_n e3028 ?_
      obtain ⟨v3034, hv3034⟩ : ∃ v, eA g0 191 x3019.toInt = v := ⟨_, rfl⟩
      refine q_iald (Sh.arr hI3021.1 ka_191) x3019.toInt rfl (by omega) v3034 ((eA_c (hF3022.2.1 191 (by decide))).trans hv3034) ?_
      refine r_iload_n e3027 ?_
      refine r_ics 78 rfl (fun c3035 => ?_) (fun c3035 => ?_)
      · have c3035_ : v3034.toInt ≠ a1.toInt := en_i_ne_t c3035
        refine At.enter rfl ?_
        refine q_iinc e3028 (x3019.toInt + 1) rfl (by omega) (fun v3036 hv3036 => ?_)
        refine r_goto ?_
        exact ih3025 (8 - v3036.toInt) _ _ ⟨v3036, by first | rfl | omega, hI3021, hF3022, (w_p1 (by decide) (Or.inr rfl) e3026), (w_p1 (by decide) (Or.inr rfl) e3027), (w_e1 _ _ _), by omega⟩ ⟨by omega, by omega⟩
      · have c3035_ : v3034.toInt = a1.toInt := en_i_ne_f c3035
        refine At.enter rfl ?_
        refine r_aload_n e3026 ?_
        refine r_iload_n e3028 ?_
        refine r_iload_n e3027 ?_
        refine r_callV 84 rfl [.ref 188, .int x3019, .int a1] [] (Nat.le_of_ble_eq_true rfl) rfl (T_X1_admit_188 _ hI3021 x3019 (by omega) a1) ?_
        rintro _ _ ⟨g3037, rfl, hI3038, hF3039, rfl⟩
        refine At.stn ?_
        have hF3042 := Fr.tr hF3022 hF3039 rfl rfl
        refine At.enter rfl ?_
        refine q_iinc e3028 (x3019.toInt + 1) rfl (by omega) (fun v3043 hv3043 => ?_)
        refine r_goto ?_
        exact ih3025 (8 - v3043.toInt) _ _ ⟨v3043, by first | rfl | omega, hI3038, hF3042, (w_p1 (by decide) (Or.inr rfl) e3026), (w_p1 (by decide) (Or.inr rfl) e3027), (w_e1 _ _ _), by omega⟩ ⟨by omega, by omega⟩
  · have c2918_ : x2904.toInt < v2917.toInt := en_i_ge_f c2918
    refine At.enter rfl ?_
    refine r_aload_n e2911 ?_
    refine q_getR (Sh.ref hI2906.1 kx_188 rfl) ?_
    refine r_iload_n e2913 ?_
    obtain ⟨v3044, hv3044⟩ : ∃ v, eA g0 191 x2904.toInt = v := ⟨_, rfl⟩
    refine q_iald (Sh.arr hI2906.1 ka_191) x2904.toInt rfl (by omega) v3044 ((eA_c (hF2907.2.1 191 (by decide))).trans hv3044) ?_
    refine r_iload_n e2912 ?_
    have bv3046 := q_bnd v3044
    have bv3047 := q_bnd a1
    refine r_ics 23 rfl (fun c3045 => ?_) (fun c3045 => ?_)
    · have c3045_ : v3044.toInt ≥ a1.toInt := en_i_ge_t c3045
      refine At.enter rfl ?_
      refine q_iinc e2913 (x2904.toInt + 1) rfl (by omega) (fun v3048 hv3048 => ?_)
      refine r_goto ?_
      exact ih2910 (8 - v3048.toInt) _ _ ⟨v3048, by first | rfl | omega, hI2906, hF2907, (w_p1 (by decide) (Or.inr rfl) e2911), (w_p1 (by decide) (Or.inr rfl) e2912), (w_e1 _ _ _), by omega⟩ ⟨by omega, by omega⟩
    · have c3045_ : v3044.toInt < a1.toInt := en_i_ge_f c3045
      refine At.enter rfl ?_
      refine r_aload_n e2911 ?_
      refine q_getR (Sh.ref hI2906.1 kx_188 rfl) ?_
      refine r_iload_n e2913 ?_
      obtain ⟨v3049, hv3049⟩ : ∃ v, eA g2905 195 x2904.toInt = v := ⟨_, rfl⟩
      refine q_iald (Sh.arr hI2906.1 ka_195) x2904.toInt rfl (by omega) v3049 hv3049 ?_
      refine r_iconst (-1) rfl ?_
      refine r_ics 33 rfl (fun c3050 => ?_) (fun c3050 => ?_)
      · have c3050_ : v3049.toInt ≠ (-1) := en_i_ne_t c3050
        refine At.enter rfl ?_
        refine q_iinc e2913 (x2904.toInt + 1) rfl (by omega) (fun v3051 hv3051 => ?_)
        refine r_goto ?_
        exact ih2910 (8 - v3051.toInt) _ _ ⟨v3051, by first | rfl | omega, hI2906, hF2907, (w_p1 (by decide) (Or.inr rfl) e2911), (w_p1 (by decide) (Or.inr rfl) e2912), (w_e1 _ _ _), by omega⟩ ⟨by omega, by omega⟩
      · have c3050_ : v3049.toInt = (-1) := en_i_ne_f c3050
        refine At.enter rfl ?_
        refine r_aload_n e2911 ?_
        refine q_getR (Sh.ref hI2906.1 kx_188 rfl) ?_
        refine r_iload_n e2913 ?_
        obtain ⟨v3052, hv3052⟩ : ∃ v, eA g2905 196 x2904.toInt = v := ⟨_, rfl⟩
        refine q_iald (Sh.arr hI2906.1 ka_196) x2904.toInt rfl (by omega) v3052 hv3052 ?_
        refine r_iconst (-1) rfl ?_
        refine r_ics 43 rfl (fun c3053 => ?_) (fun c3053 => ?_)
        · have c3053_ : v3052.toInt ≠ (-1) := en_i_ne_t c3053
          refine At.enter rfl ?_
          refine q_iinc e2913 (x2904.toInt + 1) rfl (by omega) (fun v3054 hv3054 => ?_)
          refine r_goto ?_
          exact ih2910 (8 - v3054.toInt) _ _ ⟨v3054, by first | rfl | omega, hI2906, hF2907, (w_p1 (by decide) (Or.inr rfl) e2911), (w_p1 (by decide) (Or.inr rfl) e2912), (w_e1 _ _ _), by omega⟩ ⟨by omega, by omega⟩
        · have c3053_ : v3052.toInt = (-1) := en_i_ne_f c3053
          refine At.enter rfl ?_
          refine r_aload_n e2911 ?_
          refine r_iload_n e2913 ?_
          refine r_iload_n e2912 ?_
          refine r_callV 49 rfl [.ref 188, .int x2904, .int a1] [] (Nat.le_of_ble_eq_true rfl) rfl (T_X1_admit_188 _ hI2906 x2904 (by omega) a1) ?_
          rintro _ _ ⟨g3055, rfl, hI3056, hF3057, rfl⟩
          refine At.stn ?_
          have hF3060 := Fr.tr hF2907 hF3057 rfl rfl
          refine At.enter rfl ?_
          refine q_iinc e2913 (x2904.toInt + 1) rfl (by omega) (fun v3061 hv3061 => ?_)
          refine r_goto ?_
          exact ih2910 (8 - v3061.toInt) _ _ ⟨v3061, by first | rfl | omega, hI3056, hF3060, (w_p1 (by decide) (Or.inr rfl) e2911), (w_p1 (by decide) (Or.inr rfl) e2912), (w_e1 _ _ _), by omega⟩ ⟨by omega, by omega⟩
