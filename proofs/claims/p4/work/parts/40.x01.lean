def F_X1_canHold_188 : List (Nat × Nat) := []
def A_X1_canHold_188 : List Nat := []
set_option maxRecDepth 100000 in
set_option maxHeartbeats 4000000 in
theorem T_X1_canHold_188 (d : Nat) {N : Nat} {g0 : List en_E} (hI0 : HI g0) (a1 : Int32) (a2 : Int32) : Ev (d + 2) 26 [.ref 188, .int a1, .int a2] (g0, N) (fun w h' => ∃ g', h' = (g', N) ∧ HI g' ∧ Fr F_X1_canHold_188 A_X1_canHold_188 g0 g' ∧ ∃ r : Int32, w = some (.int r) ∧ (0 ≤ r.toInt ∧ r.toInt ≤ 1)) := by
  have hF0 : Fr F_X1_canHold_188 A_X1_canHold_188 g0 g0 := Fr.rf
  refine Ev.mk rfl rfl ⟨Nat.le_of_ble_eq_true rfl, Or.inr (q_rc hI0.1 kx_188 rfl)⟩ ?_
  show At _ none _ _ (0, [(0, .ref 188), (1, .int a1), (2, .int a2)], [], (_, _)) _
  refine At.enter rfl ?_
  refine r_aload_n rfl ?_
  refine q_getR (Sh.ref hI0.1 kx_188 rfl) ?_
  refine r_iload_n rfl ?_
  refine q_inlV 8 rfl [.ref 1, .int a1] [] (Nat.le_of_ble_eq_true rfl) rfl ?_
  refine Ev.mk rfl rfl ⟨Nat.le_of_ble_eq_true rfl, Or.inr (q_rc hI0.1 kx_1 rfl)⟩ ?_
  show At _ none _ _ (0, [(0, .ref 1), (1, .int a1)], [], (_, _)) _
  refine At.enter rfl ?_
  refine r_iload_n rfl ?_
  refine r_ifs 4 rfl (fun c45 => ?_) (fun c45 => ?_)
  · have c45_ : a1.toInt < 0 := en_k_lt_t c45
    refine At.enter rfl ?_
    refine r_iconst 0 rfl ?_
    refine Ar.fall 17 rfl ?_
    refine At.enter rfl ?_
    refine q_iretz (by decide) ?_
    refine At.enter rfl ?_
    refine r_ift (by decide) ?_
    refine At.enter rfl ?_
    refine r_iconst 0 rfl ?_
    refine Ar.fall 57 rfl ?_
    refine At.enter rfl ?_
    refine r_iretz (by decide) ?_
    exact ⟨_, rfl, hI0, hF0, _, rfl, by decide⟩
  · have c45_ : a1.toInt ≥ 0 := en_k_lt_f c45
    refine At.enter rfl ?_
    refine r_iload_n rfl ?_
    refine r_aload_n rfl ?_
    obtain ⟨v46, hv46⟩ : ∃ v, gI g0 1 0 = v := ⟨_, rfl⟩
    have rv46 := RgF.at hI0.2.1 (p := 1) (b := 0) rfl
    rw [hv46] at rv46
    dsimp only at rv46
    refine q_getI (Sh.int hI0.1 kx_1 rfl) v46 hv46 ?_
    have bv48 := q_bnd a1
    have bv49 := q_bnd v46
    refine r_ics 12 rfl (fun c47 => ?_) (fun c47 => ?_)
    · have c47_ : a1.toInt ≥ v46.toInt := en_i_ge_t c47
      refine At.enter rfl ?_
      refine r_iconst 0 rfl ?_
      refine Ar.fall 17 rfl ?_
      refine At.enter rfl ?_
      refine q_iretz (by decide) ?_
      refine At.enter rfl ?_
      refine r_ift (by decide) ?_
      refine At.enter rfl ?_
      refine r_iconst 0 rfl ?_
      refine Ar.fall 57 rfl ?_
      refine At.enter rfl ?_
      refine r_iretz (by decide) ?_
      exact ⟨_, rfl, hI0, hF0, _, rfl, by decide⟩
    · have c47_ : a1.toInt < v46.toInt := en_i_ge_f c47
      refine At.enter rfl ?_
      refine r_iconst 1 rfl ?_
      refine r_goto ?_
      refine At.enter rfl ?_
      refine q_iretz (by decide) ?_
      refine At.enter rfl ?_
      refine r_iff 11 rfl (by decide) ?_
      refine At.enter rfl ?_
      refine r_aload_n rfl ?_
      refine q_getR (Sh.ref hI0.1 kx_188 rfl) ?_
      refine r_iload_n rfl ?_
      obtain ⟨v50, hv50⟩ : ∃ v, eA g0 199 a1.toInt = v := ⟨_, rfl⟩
      refine q_iald (Sh.arr hI0.1 ka_199) a1.toInt rfl (by omega) v50 hv50 ?_
      refine r_aload_n rfl ?_
      refine q_getR (Sh.ref hI0.1 kx_188 rfl) ?_
      obtain ⟨v51, hv51⟩ : ∃ v, gI g0 1 11 = v := ⟨_, rfl⟩
      refine q_getI (Sh.int hI0.1 kx_1 rfl) v51 hv51 ?_
      have bv53 := q_bnd v50
      have bv54 := q_bnd v51
      refine r_ics 27 rfl (fun c52 => ?_) (fun c52 => ?_)
      · have c52_ : v50.toInt ≥ v51.toInt := en_i_ge_t c52
        refine At.enter rfl ?_
        refine r_iconst 0 rfl ?_
        refine Ar.fall 57 rfl ?_
        refine At.enter rfl ?_
        refine r_iretz (by decide) ?_
        exact ⟨_, rfl, hI0, hF0, _, rfl, by decide⟩
      · have c52_ : v50.toInt < v51.toInt := en_i_ge_f c52
        refine At.enter rfl ?_
        refine r_aload_n rfl ?_
        refine q_getR (Sh.ref hI0.1 kx_188 rfl) ?_
        refine r_iload_n rfl ?_
        obtain ⟨v55, hv55⟩ : ∃ v, eA g0 200 a1.toInt = v := ⟨_, rfl⟩
        refine q_iald (Sh.arr hI0.1 ka_200) a1.toInt rfl (by omega) v55 hv55 ?_
        refine r_aload_n rfl ?_
        refine q_getR (Sh.ref hI0.1 kx_188 rfl) ?_
        refine r_iload_n rfl ?_
        refine r_iconst 0 rfl ?_
        refine r_callV 42 rfl [.ref 1, .int a2, .int 0] [.int v55] (Nat.le_of_ble_eq_true rfl) rfl (T_X0_about_1 _ hI0 a2 0) ?_
        rintro _ _ ⟨g56, rfl, hI57, hF58, v59, rfl, hr60⟩
        refine At.sti ?_
        have hF61 := Fr.tr hF0 hF58 rfl rfl
        refine At.enter rfl ?_
        refine q_iaddO (fun v62 _ => ?_)
        refine r_aload_n rfl ?_
        refine q_getR (Sh.ref hI57.1 kx_188 rfl) ?_
        refine r_iload_n rfl ?_
        obtain ⟨v63, hv63⟩ : ∃ v, eA g0 189 a1.toInt = v := ⟨_, rfl⟩
        refine q_iald (Sh.arr hI57.1 ka_189) a1.toInt rfl (by omega) v63 ((eA_c (hF58.2.1 189 (by decide))).trans hv63) ?_
        have bv65 := q_bnd v62
        have bv66 := q_bnd v63
        refine r_ics 52 rfl (fun c64 => ?_) (fun c64 => ?_)
        · have c64_ : v62.toInt > v63.toInt := en_i_gt_t c64
          refine At.enter rfl ?_
          refine r_iconst 0 rfl ?_
          refine Ar.fall 57 rfl ?_
          refine At.enter rfl ?_
          refine r_iretz (by decide) ?_
          exact ⟨_, rfl, hI57, hF61, _, rfl, by decide⟩
        · have c64_ : v62.toInt ≤ v63.toInt := en_i_gt_f c64
          refine At.enter rfl ?_
          refine r_iconst 1 rfl ?_
          refine r_goto ?_
          refine At.enter rfl ?_
          refine r_iretz (by decide) ?_
          exact ⟨_, rfl, hI57, hF61, _, rfl, by decide⟩

def F_X1_take_188 : List (Nat × Nat) := [(188, 18)]
def A_X1_take_188 : List Nat := [195, 198, 199, 200]
set_option maxRecDepth 100000 in
set_option maxHeartbeats 4000000 in
theorem T_X1_take_188 (d : Nat) {N : Nat} {g0 : List en_E} (hI0 : HI g0) (a1 : Int32) (a2 : Int32) (h_a2 : 0 ≤ a2.toInt ∧ a2.toInt ≤ 7) : Ev (d + 2) 27 [.ref 188, .int a1, .int a2] (g0, N) (fun w h' => ∃ g', h' = (g', N) ∧ HI g' ∧ Fr F_X1_take_188 A_X1_take_188 g0 g' ∧ w = none) := by
  have hF0 : Fr F_X1_take_188 A_X1_take_188 g0 g0 := Fr.rf
  refine Ev.mk rfl rfl ⟨Nat.le_of_ble_eq_true rfl, Or.inr (q_rc hI0.1 kx_188 rfl)⟩ ?_
  show At _ none _ _ (0, [(0, .ref 188), (1, .int a1), (2, .int a2)], [], (_, _)) _
  refine At.enter rfl ?_
  refine r_aload_n rfl ?_
  refine q_getR (Sh.ref hI0.1 kx_188 rfl) ?_
  refine r_iload_n rfl ?_
  refine q_inlV 8 rfl [.ref 1, .int a1] [] (Nat.le_of_ble_eq_true rfl) rfl ?_
  refine Ev.mk rfl rfl ⟨Nat.le_of_ble_eq_true rfl, Or.inr (q_rc hI0.1 kx_1 rfl)⟩ ?_
  show At _ none _ _ (0, [(0, .ref 1), (1, .int a1)], [], (_, _)) _
  refine At.enter rfl ?_
  refine r_iload_n rfl ?_
  refine r_ifs 4 rfl (fun c51 => ?_) (fun c51 => ?_)
  · have c51_ : a1.toInt < 0 := en_k_lt_t c51
    refine At.enter rfl ?_
    refine r_iconst 0 rfl ?_
    refine Ar.fall 17 rfl ?_
    refine At.enter rfl ?_
    refine q_iretz (by decide) ?_
    refine At.enter rfl ?_
    refine r_ift (by decide) ?_
    refine At.enter rfl ?_
    refine r_vret ?_
    exact ⟨_, rfl, hI0, hF0, rfl⟩
  · have c51_ : a1.toInt ≥ 0 := en_k_lt_f c51
    refine At.enter rfl ?_
    refine r_iload_n rfl ?_
    refine r_aload_n rfl ?_
    obtain ⟨v52, hv52⟩ : ∃ v, gI g0 1 0 = v := ⟨_, rfl⟩
    have rv52 := RgF.at hI0.2.1 (p := 1) (b := 0) rfl
    rw [hv52] at rv52
    dsimp only at rv52
    refine q_getI (Sh.int hI0.1 kx_1 rfl) v52 hv52 ?_
    have bv54 := q_bnd a1
    have bv55 := q_bnd v52
    refine r_ics 12 rfl (fun c53 => ?_) (fun c53 => ?_)
    · have c53_ : a1.toInt ≥ v52.toInt := en_i_ge_t c53
      refine At.enter rfl ?_
      refine r_iconst 0 rfl ?_
      refine Ar.fall 17 rfl ?_
      refine At.enter rfl ?_
      refine q_iretz (by decide) ?_
      refine At.enter rfl ?_
      refine r_ift (by decide) ?_
      refine At.enter rfl ?_
      refine r_vret ?_
      exact ⟨_, rfl, hI0, hF0, rfl⟩
    · have c53_ : a1.toInt < v52.toInt := en_i_ge_f c53
      refine At.enter rfl ?_
      refine r_iconst 1 rfl ?_
      refine r_goto ?_
      refine At.enter rfl ?_
      refine q_iretz (by decide) ?_
      refine At.enter rfl ?_
      refine r_iff 11 rfl (by decide) ?_
      refine At.enter rfl ?_
      refine r_aload_n rfl ?_
      refine q_getR (Sh.ref hI0.1 kx_188 rfl) ?_
      refine r_iload_n rfl ?_
      refine r_iload_n rfl ?_
      refine q_iast (Sh.arr hI0.1 ka_195) (a2.toInt) rfl (by omega) ?_
      have hI56 := HI.wA0 hI0 ka_195 (p := 195) rfl rfl (a2.toInt) (a1)
      have hF57 := Fr.wA (p := 195) (j := a2.toInt) (v := a1) hF0 rfl
      refine r_aload_n rfl ?_
      refine q_getR (Sh.ref hI56.1 kx_188 rfl) ?_
      refine r_iload_n rfl ?_
      refine r_iconst 0 rfl ?_
      refine q_iast (Sh.arr hI56.1 ka_198) (a2.toInt) rfl (by omega) ?_
      have hI58 := HI.wA0 hI56 ka_198 (p := 198) rfl rfl (a2.toInt) (0)
      have hF59 := Fr.wA (p := 198) (j := a2.toInt) (v := 0) hF57 rfl
      refine r_aload_n rfl ?_
      refine r_iconst 1 rfl ?_
      refine q_putI (Sh.int hI58.1 kx_188 rfl) rfl ?_
      have hI60 := HI.wI0 hI58 kx_188 rfl (p := 188) (b := 18) (v := 1) rfl
      have hF61 := Fr.wI (p := 188) (b := 18) (v := 1) hF59 rfl
      refine r_aload_n rfl ?_
      refine q_getR (Sh.ref hI60.1 kx_188 rfl) ?_
      refine r_iload_n rfl ?_
      refine r_dup2 ⟨rfl, rfl⟩ ?_
      obtain ⟨v62, hv62⟩ : ∃ v, eA g0 199 a1.toInt = v := ⟨_, rfl⟩
      refine q_iald (Sh.arr hI60.1 ka_199) a1.toInt rfl (by omega) v62 ((eA_c ((gA_sI).trans ((gA_sA_ne (by decide)).trans (gA_sA_ne (by decide))))).trans hv62) ?_
      refine r_iconst 1 rfl ?_
      refine q_iaddO (fun v63 _ => ?_)
      refine q_iast (Sh.arr hI60.1 ka_199) (a1.toInt) rfl (by omega) ?_
      have hI64 := HI.wA0 hI60 ka_199 (p := 199) rfl rfl (a1.toInt) (v63)
      have hF65 := Fr.wA (p := 199) (j := a1.toInt) (v := v63) hF61 rfl
      refine r_aload_n rfl ?_
      refine q_getR (Sh.ref hI64.1 kx_188 rfl) ?_
      refine r_iload_n rfl ?_
      refine r_dup2 ⟨rfl, rfl⟩ ?_
      obtain ⟨v66, hv66⟩ : ∃ v, eA g0 200 a1.toInt = v := ⟨_, rfl⟩
      refine q_iald (Sh.arr hI64.1 ka_200) a1.toInt rfl (by omega) v66 ((eA_c ((gA_sA_ne (by decide)).trans ((gA_sI).trans ((gA_sA_ne (by decide)).trans (gA_sA_ne (by decide)))))).trans hv66) ?_
      refine r_aload_n rfl ?_
      refine q_getR (Sh.ref hI64.1 kx_188 rfl) ?_
      refine r_iload_n rfl ?_
      refine r_iconst 0 rfl ?_
      refine r_callV 56 rfl [.ref 1, .int a2, .int 0] [.int v66, .int a1, .ref 200] (Nat.le_of_ble_eq_true rfl) rfl (T_X0_about_1 _ hI64 a2 0) ?_
      rintro _ _ ⟨g67, rfl, hI68, hF69, v70, rfl, hr71⟩
      refine At.sti ?_
      have hF72 := Fr.tr hF65 hF69 rfl rfl
      refine At.enter rfl ?_
      refine q_iaddO (fun v73 _ => ?_)
      refine q_iast (Sh.arr hI68.1 ka_200) (a1.toInt) rfl (by omega) ?_
      have hI74 := HI.wA0 hI68 ka_200 (p := 200) rfl rfl (a1.toInt) (v73)
      have hF75 := Fr.wA (p := 200) (j := a1.toInt) (v := v73) hF72 rfl
      refine Ar.fall 58 rfl ?_
      refine At.enter rfl ?_
      refine r_vret ?_
      exact ⟨_, rfl, hI74, hF75, rfl⟩

def F_X1_giveUp_188 : List (Nat × Nat) := []
def A_X1_giveUp_188 : List Nat := [195, 199, 200]
set_option maxRecDepth 100000 in
set_option maxHeartbeats 4000000 in
theorem T_X1_giveUp_188 (d : Nat) {N : Nat} {g0 : List en_E} (hI0 : HI g0) (a1 : Int32) (a2 : Int32) (h_a2 : 0 ≤ a2.toInt ∧ a2.toInt ≤ 7) : Ev (d + 2) 28 [.ref 188, .int a1, .int a2] (g0, N) (fun w h' => ∃ g', h' = (g', N) ∧ HI g' ∧ Fr F_X1_giveUp_188 A_X1_giveUp_188 g0 g' ∧ w = none) := by
  have hF0 : Fr F_X1_giveUp_188 A_X1_giveUp_188 g0 g0 := Fr.rf
  refine Ev.mk rfl rfl ⟨Nat.le_of_ble_eq_true rfl, Or.inr (q_rc hI0.1 kx_188 rfl)⟩ ?_
  show At _ none _ _ (0, [(0, .ref 188), (1, .int a1), (2, .int a2)], [], (_, _)) _
  refine At.enter rfl ?_
  refine r_aload_n rfl ?_
  refine q_getR (Sh.ref hI0.1 kx_188 rfl) ?_
  refine r_iload_n rfl ?_
  refine q_inlV 8 rfl [.ref 1, .int a1] [] (Nat.le_of_ble_eq_true rfl) rfl ?_
  refine Ev.mk rfl rfl ⟨Nat.le_of_ble_eq_true rfl, Or.inr (q_rc hI0.1 kx_1 rfl)⟩ ?_
  show At _ none _ _ (0, [(0, .ref 1), (1, .int a1)], [], (_, _)) _
  refine At.enter rfl ?_
  refine r_iload_n rfl ?_
  refine r_ifs 4 rfl (fun c43 => ?_) (fun c43 => ?_)
  · have c43_ : a1.toInt < 0 := en_k_lt_t c43
    refine At.enter rfl ?_
    refine r_iconst 0 rfl ?_
    refine Ar.fall 17 rfl ?_
    refine At.enter rfl ?_
    refine q_iretz (by decide) ?_
    refine At.enter rfl ?_
    refine r_ift (by decide) ?_
    refine At.enter rfl ?_
    refine r_vret ?_
    exact ⟨_, rfl, hI0, hF0, rfl⟩
  · have c43_ : a1.toInt ≥ 0 := en_k_lt_f c43
    refine At.enter rfl ?_
    refine r_iload_n rfl ?_
    refine r_aload_n rfl ?_
    obtain ⟨v44, hv44⟩ : ∃ v, gI g0 1 0 = v := ⟨_, rfl⟩
    have rv44 := RgF.at hI0.2.1 (p := 1) (b := 0) rfl
    rw [hv44] at rv44
    dsimp only at rv44
    refine q_getI (Sh.int hI0.1 kx_1 rfl) v44 hv44 ?_
    have bv46 := q_bnd a1
    have bv47 := q_bnd v44
    refine r_ics 12 rfl (fun c45 => ?_) (fun c45 => ?_)
    · have c45_ : a1.toInt ≥ v44.toInt := en_i_ge_t c45
      refine At.enter rfl ?_
      refine r_iconst 0 rfl ?_
      refine Ar.fall 17 rfl ?_
      refine At.enter rfl ?_
      refine q_iretz (by decide) ?_
      refine At.enter rfl ?_
      refine r_ift (by decide) ?_
      refine At.enter rfl ?_
      refine r_vret ?_
      exact ⟨_, rfl, hI0, hF0, rfl⟩
    · have c45_ : a1.toInt < v44.toInt := en_i_ge_f c45
      refine At.enter rfl ?_
      refine r_iconst 1 rfl ?_
      refine r_goto ?_
      refine At.enter rfl ?_
      refine q_iretz (by decide) ?_
      refine At.enter rfl ?_
      refine r_iff 11 rfl (by decide) ?_
      refine At.enter rfl ?_
      refine r_aload_n rfl ?_
      refine q_getR (Sh.ref hI0.1 kx_188 rfl) ?_
      refine r_iload_n rfl ?_
      refine r_iconst (-1) rfl ?_
      refine q_iast (Sh.arr hI0.1 ka_195) (a2.toInt) rfl (by omega) ?_
      have hI48 := HI.wA0 hI0 ka_195 (p := 195) rfl rfl (a2.toInt) ((-1))
      have hF49 := Fr.wA (p := 195) (j := a2.toInt) (v := (-1)) hF0 rfl
      refine r_aload_n rfl ?_
      refine q_getR (Sh.ref hI48.1 kx_188 rfl) ?_
      refine r_iload_n rfl ?_
      refine r_dup2 ⟨rfl, rfl⟩ ?_
      obtain ⟨v50, hv50⟩ : ∃ v, eA g0 199 a1.toInt = v := ⟨_, rfl⟩
      refine q_iald (Sh.arr hI48.1 ka_199) a1.toInt rfl (by omega) v50 ((eA_c (gA_sA_ne (by decide))).trans hv50) ?_
      refine r_iconst 1 rfl ?_
      refine q_isubO (fun v51 _ => ?_)
      refine q_iast (Sh.arr hI48.1 ka_199) (a1.toInt) rfl (by omega) ?_
      have hI52 := HI.wA0 hI48 ka_199 (p := 199) rfl rfl (a1.toInt) (v51)
      have hF53 := Fr.wA (p := 199) (j := a1.toInt) (v := v51) hF49 rfl
      refine r_aload_n rfl ?_
      refine q_getR (Sh.ref hI52.1 kx_188 rfl) ?_
      refine r_iload_n rfl ?_
      refine r_dup2 ⟨rfl, rfl⟩ ?_
      obtain ⟨v54, hv54⟩ : ∃ v, eA g0 200 a1.toInt = v := ⟨_, rfl⟩
      refine q_iald (Sh.arr hI52.1 ka_200) a1.toInt rfl (by omega) v54 ((eA_c ((gA_sA_ne (by decide)).trans (gA_sA_ne (by decide)))).trans hv54) ?_
      refine r_aload_n rfl ?_
      refine q_getR (Sh.ref hI52.1 kx_188 rfl) ?_
      refine r_iload_n rfl ?_
      refine r_iconst 0 rfl ?_
      refine r_callV 44 rfl [.ref 1, .int a2, .int 0] [.int v54, .int a1, .ref 200] (Nat.le_of_ble_eq_true rfl) rfl (T_X0_about_1 _ hI52 a2 0) ?_
      rintro _ _ ⟨g55, rfl, hI56, hF57, v58, rfl, hr59⟩
      refine At.sti ?_
      have hF60 := Fr.tr hF53 hF57 rfl rfl
      refine At.enter rfl ?_
      refine q_isubO (fun v61 _ => ?_)
      refine q_iast (Sh.arr hI56.1 ka_200) (a1.toInt) rfl (by omega) ?_
      have hI62 := HI.wA0 hI56 ka_200 (p := 200) rfl rfl (a1.toInt) (v61)
      have hF63 := Fr.wA (p := 200) (j := a1.toInt) (v := v61) hF60 rfl
      refine Ar.fall 46 rfl ?_
      refine At.enter rfl ?_
      refine r_vret ?_
      exact ⟨_, rfl, hI62, hF63, rfl⟩

def F_X1_admit_188 : List (Nat × Nat) := [(188, 18)]
def A_X1_admit_188 : List Nat := [195, 196, 198, 199, 200]
set_option maxRecDepth 100000 in
set_option maxHeartbeats 4000000 in
theorem T_X1_admit_188 (d : Nat) {N : Nat} {g0 : List en_E} (hI0 : HI g0) (a1 : Int32) (h_a1 : 0 ≤ a1.toInt ∧ a1.toInt ≤ 7) (a2 : Int32) : Ev (d + 3) 25 [.ref 188, .int a1, .int a2] (g0, N) (fun w h' => ∃ g', h' = (g', N) ∧ HI g' ∧ Fr F_X1_admit_188 A_X1_admit_188 g0 g' ∧ w = none) := by
  have hF0 : Fr F_X1_admit_188 A_X1_admit_188 g0 g0 := Fr.rf
  refine Ev.mk rfl rfl ⟨Nat.le_of_ble_eq_true rfl, Or.inr (q_rc hI0.1 kx_188 rfl)⟩ ?_
  show At _ none _ _ (0, [(0, .ref 188), (1, .int a1), (2, .int a2)], [], (_, _)) _
  refine At.enter rfl ?_
  refine r_aload_n rfl ?_
  refine q_getR (Sh.ref hI0.1 kx_188 rfl) ?_
  refine r_iload_n rfl ?_
  refine r_iconst 1 rfl ?_
  refine r_callV 9 rfl [.ref 1, .int a1, .int 1] [] (Nat.le_of_ble_eq_true rfl) rfl (T_X0_about_1 _ hI0 a1 1) ?_
  rintro _ _ ⟨g57, rfl, hI58, hF59, v60, rfl, hr61⟩
  refine At.sti ?_
  have hF62 := Fr.tr hF0 hF59 rfl rfl
  refine At.enter rfl ?_
  refine r_istore_n ([(3, .int v60), (0, .ref 188), (1, .int a1), (2, .int a2)]) rfl ?_
  refine r_iload_n rfl ?_
  refine r_aload_n rfl ?_
  refine q_getR (Sh.ref hI58.1 kx_188 rfl) ?_
  refine r_iload_n rfl ?_
  refine r_iconst 2 rfl ?_
  refine r_callV 20 rfl [.ref 1, .int a1, .int 2] [.int v60] (Nat.le_of_ble_eq_true rfl) rfl (T_X0_about_1 _ hI58 a1 2) ?_
  rintro _ _ ⟨g63, rfl, hI64, hF65, v66, rfl, hr67⟩
  refine At.sti ?_
  have hF68 := Fr.tr hF62 hF65 rfl rfl
  refine At.enter rfl ?_
  refine r_ics 23 rfl (fun c69 => ?_) (fun c69 => ?_)
  · have c69_ : v60.toInt ≠ v66.toInt := en_i_ne_t c69
    refine At.enter rfl ?_
    refine r_aload_n rfl ?_
    refine r_iload_n rfl ?_
    refine r_iload_n rfl ?_
    refine r_callV 39 rfl [.ref 188, .int v60, .int a1] [] (Nat.le_of_ble_eq_true rfl) rfl (T_X1_canHold_188 _ hI64 v60 a1) ?_
    rintro _ _ ⟨g70, rfl, hI71, hF72, v73, rfl, hr74⟩
    refine At.sti ?_
    have hF75 := Fr.tr hF68 hF72 rfl rfl
    refine At.enter rfl ?_
    refine r_ifs 42 rfl (fun c76 => ?_) (fun c76 => ?_)
    · have c76_ : v73.toInt = 0 := en_k_eq_t c76
      refine At.enter rfl ?_
      refine r_vret ?_
      exact ⟨_, rfl, hI71, hF75, rfl⟩
    · have c76_ : v73.toInt ≠ 0 := en_k_eq_f c76
      refine At.enter rfl ?_
      refine r_aload_n rfl ?_
      refine r_iload_n rfl ?_
      refine r_iload_n rfl ?_
      refine r_callV 48 rfl [.ref 188, .int v60, .int a1] [] (Nat.le_of_ble_eq_true rfl) rfl (T_X1_take_188 _ hI71 v60 a1 (by omega)) ?_
      rintro _ _ ⟨g77, rfl, hI78, hF79, rfl⟩
      refine At.stn ?_
      have hF82 := Fr.tr hF75 hF79 rfl rfl
      refine At.enter rfl ?_
      refine r_vret ?_
      exact ⟨_, rfl, hI78, hF82, rfl⟩
  · have c69_ : v60.toInt = v66.toInt := en_i_ne_f c69
    refine At.enter rfl ?_
    refine r_aload_n rfl ?_
    refine q_getR (Sh.ref hI64.1 kx_188 rfl) ?_
    refine r_iload_n rfl ?_
    refine r_iload_n rfl ?_
    refine q_iast (Sh.arr hI64.1 ka_196) (a1.toInt) rfl (by omega) ?_
    have hI83 := HI.wA0 hI64 ka_196 (p := 196) rfl rfl (a1.toInt) (a2)
    have hF84 := Fr.wA (p := 196) (j := a1.toInt) (v := a2) hF68 rfl
    refine r_goto ?_
    refine At.enter rfl ?_
    refine r_vret ?_
    exact ⟨_, rfl, hI83, hF84, rfl⟩

def F_X1_arrive_188 : List (Nat × Nat) := [(188, 18)]
def A_X1_arrive_188 : List Nat := [195, 196, 198, 199, 200]
set_option maxRecDepth 100000 in
set_option maxHeartbeats 4000000 in
theorem T_X1_arrive_188 (d : Nat) {N : Nat} {g0 : List en_E} (hI0 : HI g0) (a1 : Int32) : Ev (d + 4) 24 [.ref 188, .int a1] (g0, N) (fun w h' => ∃ g', h' = (g', N) ∧ HI g' ∧ Fr F_X1_arrive_188 A_X1_arrive_188 g0 g' ∧ w = none) := by
  have hF0 : Fr F_X1_arrive_188 A_X1_arrive_188 g0 g0 := Fr.rf
  refine Ev.mk rfl rfl ⟨Nat.le_of_ble_eq_true rfl, Or.inr (q_rc hI0.1 kx_188 rfl)⟩ ?_
  show At _ none _ _ (0, [(0, .ref 188), (1, .int a1)], [], (_, _)) _
  refine At.enter rfl ?_
  refine r_iconst 0 rfl ?_
  refine r_istore_n ([(2, .int 0), (0, .ref 188), (1, .int a1)]) rfl ?_
  refine Ar.fall 2 rfl ?_
  have z_2915 : (0 : Int32).toInt = 0 := rfl
  refine w_loopI (fun n_ l_ g_ => ∃ x2904 : Int32, n_ = 8 - x2904.toInt ∧ HI g_ ∧ Fr F_X1_arrive_188 A_X1_arrive_188 g0 g_ ∧ en_get 0 l_ = some (.ref 188) ∧ en_get 1 l_ = some (.int a1) ∧ en_get 2 l_ = some (.int x2904) ∧ (0 ≤ x2904.toInt ∧ x2904.toInt ≤ 8)) ?_ (8 - 0) ⟨0, by first | rfl | omega, hI0, hF0, rfl, rfl, rfl, by decide⟩
  rintro n2909 l2908 g2905 ⟨x2904, hm2916, hI2906, hF2907, e2911, e2912, e2913, r2914⟩ ih2910
  refine At.enter rfl ?_
  refine r_iload_n e2913 ?_
  refine r_aload_n e2911 ?_
  refine q_getR (Sh.ref hI2906.1 kx_188 rfl) ?_
  obtain ⟨v2917, hv2917⟩ : ∃ v, gI g0 1 4 = v := ⟨_, rfl⟩
  have rv2917 := RgF.at hI0.2.1 (p := 1) (b := 4) rfl
  rw [hv2917] at rv2917
  dsimp only at rv2917
  refine q_getI (Sh.int hI2906.1 kx_1 rfl) v2917 ((hF2907.1 1 4 (by decide)).trans hv2917) ?_
  have bv2919 := q_bnd x2904
  have bv2920 := q_bnd v2917
  refine r_ics 13 rfl (fun c2918 => ?_) (fun c2918 => ?_)
  · have c2918_ : x2904.toInt ≥ v2917.toInt := en_i_ge_t c2918
    refine At.enter rfl ?_
    refine r_iconst 0 rfl ?_
    refine r_istore_n _ rfl ?_
    refine Ar.fall 57 rfl ?_
    have z_3030 : (0 : Int32).toInt = 0 := rfl
    refine w_loopI (fun n_ l_ g_ => ∃ x3019 : Int32, n_ = 8 - x3019.toInt ∧ HI g_ ∧ Fr F_X1_arrive_188 A_X1_arrive_188 g0 g_ ∧ en_get 0 l_ = some (.ref 188) ∧ en_get 1 l_ = some (.int a1) ∧ en_get 2 l_ = some (.int x3019) ∧ (0 ≤ x3019.toInt ∧ x3019.toInt ≤ 8)) ?_ (8 - 0) ⟨0, by first | rfl | omega, hI2906, hF2907, (w_p1 (by decide) (Or.inr rfl) e2911), (w_p1 (by decide) (Or.inr rfl) e2912), (w_e1 _ _ _), by decide⟩
    rintro n3024 l3023 g3020 ⟨x3019, hm3031, hI3021, hF3022, e3026, e3027, e3028, r3029⟩ ih3025
    refine At.enter rfl ?_
    refine r_iload_n e3028 ?_
    refine r_aload_n e3026 ?_
    refine q_getR (Sh.ref hI3021.1 kx_188 rfl) ?_
    refine q_getI (Sh.int hI3021.1 kx_1 rfl) v2917 ((hF3022.1 1 4 (by decide)).trans hv2917) ?_
    have bv3033 := q_bnd x3019
    refine r_ics 68 rfl (fun c3032 => ?_) (fun c3032 => ?_)
    · have c3032_ : x3019.toInt ≥ v2917.toInt := en_i_ge_t c3032
      refine At.enter rfl ?_
      refine r_vret ?_
      exact ⟨_, rfl, hI3021, hF3022, rfl⟩
    · have c3032_ : x3019.toInt < v2917.toInt := en_i_ge_f c3032
      refine At.enter rfl ?_
      refine r_aload_n e3026 ?_
      refine q_getR (Sh.ref hI3021.1 kx_188 rfl) ?_
      refine r_iload_n e3028 ?_
      obtain ⟨v3034, hv3034⟩ : ∃ v, eA g0 191 x3019.toInt = v := ⟨_, rfl⟩
      refine q_iald (Sh.arr hI3021.1 ka_191) x3019.toInt rfl (by omega) v3034 ((eA_c (hF3022.2.1 191 (by decide))).trans hv3034) ?_
      refine r_iload_n e3027 ?_
      refine r_ics 78 rfl (fun c3035 => ?_) (fun c3035 => ?_)
      · have c3035_ : v3034.toInt ≠ a1.toInt := en_i_ne_t c3035
        refine At.enter rfl ?_
        refine q_iinc e3028 (x3019.toInt + 1) rfl (by omega) (fun v3036 hv3036 => ?_)
        refine r_goto ?_
        exact ih3025 (8 - v3036.toInt) _ _ ⟨v3036, by first | rfl | omega, hI3021, hF3022, (w_p1 (by decide) (Or.inr rfl) e3026), (w_p1 (by decide) (Or.inr rfl) e3027), (w_e1 _ _ _), by omega⟩ ⟨by omega, by omega⟩
      · have c3035_ : v3034.toInt = a1.toInt := en_i_ne_f c3035
        refine At.enter rfl ?_
        refine r_aload_n e3026 ?_
        refine r_iload_n e3028 ?_
        refine r_iload_n e3027 ?_
        refine r_callV 84 rfl [.ref 188, .int x3019, .int a1] [] (Nat.le_of_ble_eq_true rfl) rfl (T_X1_admit_188 _ hI3021 x3019 (by omega) a1) ?_
        rintro _ _ ⟨g3037, rfl, hI3038, hF3039, rfl⟩
        refine At.stn ?_
        have hF3042 := Fr.tr hF3022 hF3039 rfl rfl
        refine At.enter rfl ?_
        refine q_iinc e3028 (x3019.toInt + 1) rfl (by omega) (fun v3043 hv3043 => ?_)
        refine r_goto ?_
        exact ih3025 (8 - v3043.toInt) _ _ ⟨v3043, by first | rfl | omega, hI3038, hF3042, (w_p1 (by decide) (Or.inr rfl) e3026), (w_p1 (by decide) (Or.inr rfl) e3027), (w_e1 _ _ _), by omega⟩ ⟨by omega, by omega⟩
  · have c2918_ : x2904.toInt < v2917.toInt := en_i_ge_f c2918
    refine At.enter rfl ?_
    refine r_aload_n e2911 ?_
    refine q_getR (Sh.ref hI2906.1 kx_188 rfl) ?_
    refine r_iload_n e2913 ?_
    obtain ⟨v3044, hv3044⟩ : ∃ v, eA g0 191 x2904.toInt = v := ⟨_, rfl⟩
    refine q_iald (Sh.arr hI2906.1 ka_191) x2904.toInt rfl (by omega) v3044 ((eA_c (hF2907.2.1 191 (by decide))).trans hv3044) ?_
    refine r_iload_n e2912 ?_
    have bv3046 := q_bnd v3044
    have bv3047 := q_bnd a1
    refine r_ics 23 rfl (fun c3045 => ?_) (fun c3045 => ?_)
    · have c3045_ : v3044.toInt ≥ a1.toInt := en_i_ge_t c3045
      refine At.enter rfl ?_
      refine q_iinc e2913 (x2904.toInt + 1) rfl (by omega) (fun v3048 hv3048 => ?_)
      refine r_goto ?_
      exact ih2910 (8 - v3048.toInt) _ _ ⟨v3048, by first | rfl | omega, hI2906, hF2907, (w_p1 (by decide) (Or.inr rfl) e2911), (w_p1 (by decide) (Or.inr rfl) e2912), (w_e1 _ _ _), by omega⟩ ⟨by omega, by omega⟩
    · have c3045_ : v3044.toInt < a1.toInt := en_i_ge_f c3045
      refine At.enter rfl ?_
      refine r_aload_n e2911 ?_
      refine q_getR (Sh.ref hI2906.1 kx_188 rfl) ?_
      refine r_iload_n e2913 ?_
      obtain ⟨v3049, hv3049⟩ : ∃ v, eA g2905 195 x2904.toInt = v := ⟨_, rfl⟩
      refine q_iald (Sh.arr hI2906.1 ka_195) x2904.toInt rfl (by omega) v3049 hv3049 ?_
      refine r_iconst (-1) rfl ?_
      refine r_ics 33 rfl (fun c3050 => ?_) (fun c3050 => ?_)
      · have c3050_ : v3049.toInt ≠ (-1) := en_i_ne_t c3050
        refine At.enter rfl ?_
        refine q_iinc e2913 (x2904.toInt + 1) rfl (by omega) (fun v3051 hv3051 => ?_)
        refine r_goto ?_
        exact ih2910 (8 - v3051.toInt) _ _ ⟨v3051, by first | rfl | omega, hI2906, hF2907, (w_p1 (by decide) (Or.inr rfl) e2911), (w_p1 (by decide) (Or.inr rfl) e2912), (w_e1 _ _ _), by omega⟩ ⟨by omega, by omega⟩
      · have c3050_ : v3049.toInt = (-1) := en_i_ne_f c3050
        refine At.enter rfl ?_
        refine r_aload_n e2911 ?_
        refine q_getR (Sh.ref hI2906.1 kx_188 rfl) ?_
        refine r_iload_n e2913 ?_
        obtain ⟨v3052, hv3052⟩ : ∃ v, eA g2905 196 x2904.toInt = v := ⟨_, rfl⟩
        refine q_iald (Sh.arr hI2906.1 ka_196) x2904.toInt rfl (by omega) v3052 hv3052 ?_
        refine r_iconst (-1) rfl ?_
        refine r_ics 43 rfl (fun c3053 => ?_) (fun c3053 => ?_)
        · have c3053_ : v3052.toInt ≠ (-1) := en_i_ne_t c3053
          refine At.enter rfl ?_
          refine q_iinc e2913 (x2904.toInt + 1) rfl (by omega) (fun v3054 hv3054 => ?_)
          refine r_goto ?_
          exact ih2910 (8 - v3054.toInt) _ _ ⟨v3054, by first | rfl | omega, hI2906, hF2907, (w_p1 (by decide) (Or.inr rfl) e2911), (w_p1 (by decide) (Or.inr rfl) e2912), (w_e1 _ _ _), by omega⟩ ⟨by omega, by omega⟩
        · have c3053_ : v3052.toInt = (-1) := en_i_ne_f c3053
          refine At.enter rfl ?_
          refine r_aload_n e2911 ?_
          refine r_iload_n e2913 ?_
          refine r_iload_n e2912 ?_
          refine r_callV 49 rfl [.ref 188, .int x2904, .int a1] [] (Nat.le_of_ble_eq_true rfl) rfl (T_X1_admit_188 _ hI2906 x2904 (by omega) a1) ?_
          rintro _ _ ⟨g3055, rfl, hI3056, hF3057, rfl⟩
          refine At.stn ?_
          have hF3060 := Fr.tr hF2907 hF3057 rfl rfl
          refine At.enter rfl ?_
          refine q_iinc e2913 (x2904.toInt + 1) rfl (by omega) (fun v3061 hv3061 => ?_)
          refine r_goto ?_
          exact ih2910 (8 - v3061.toInt) _ _ ⟨v3061, by first | rfl | omega, hI3056, hF3060, (w_p1 (by decide) (Or.inr rfl) e2911), (w_p1 (by decide) (Or.inr rfl) e2912), (w_e1 _ _ _), by omega⟩ ⟨by omega, by omega⟩

def F_X1_lineUp_188 : List (Nat × Nat) := [(185, 3), (188, 16)]
def A_X1_lineUp_188 : List Nat := [202]
set_option maxRecDepth 100000 in
set_option maxHeartbeats 4000000 in
theorem T_X1_lineUp_188 (d : Nat) {N : Nat} {g0 : List en_E} (hI0 : HI g0) (a1 : Int32) : Ev (d + 4) 29 [.ref 188, .int a1] (g0, N) (fun w h' => ∃ g', h' = (g', N) ∧ HI g' ∧ Fr F_X1_lineUp_188 A_X1_lineUp_188 g0 g' ∧ w = none) := by
  have hF0 : Fr F_X1_lineUp_188 A_X1_lineUp_188 g0 g0 := Fr.rf
  refine Ev.mk rfl rfl ⟨Nat.le_of_ble_eq_true rfl, Or.inr (q_rc hI0.1 kx_188 rfl)⟩ ?_
  show At _ none _ _ (0, [(0, .ref 188), (1, .int a1)], [], (_, _)) _
  refine At.enter rfl ?_
  refine r_aload_n rfl ?_
  refine q_getR (Sh.ref hI0.1 kx_188 rfl) ?_
  refine q_inlV 7 rfl [.ref 1] [] (Nat.le_of_ble_eq_true rfl) rfl ?_
  refine Ev.mk rfl rfl ⟨Nat.le_of_ble_eq_true rfl, Or.inr (q_rc hI0.1 kx_1 rfl)⟩ ?_
  show At _ none _ _ (0, [(0, .ref 1)], [], (_, _)) _
  refine At.enter rfl ?_
  refine r_aload_n rfl ?_
  refine r_aload_n rfl ?_
  obtain ⟨v9851, hv9851⟩ : ∃ v, gI g0 1 9 = v := ⟨_, rfl⟩
  refine q_getI (Sh.int hI0.1 kx_1 rfl) v9851 hv9851 ?_
  refine r_callV 8 rfl [.ref 1, .int v9851] [] (Nat.le_of_ble_eq_true rfl) rfl (T_X0_lawAt_1 _ hI0 v9851) ?_
  rintro _ _ ⟨g9852, rfl, hI9853, hF9854, v9855, rfl, hr9856⟩
  refine At.str ?_
  have hF9857 := Fr.tr hF0 hF9854 rfl rfl
  refine At.enter rfl ?_
  refine q_aret ?_
  refine At.enter rfl ?_
  refine r_iconst 0 rfl ?_
  refine r_callV 11 rfl [.ref (v9855), .int 0] [] (Nat.le_of_ble_eq_true rfl) rfl (T_X4_speaksOf_law _ hI9853 (v9855) hr9856 0) ?_
  rintro _ _ ⟨g9858, rfl, hI9859, hF9860, v9861, rfl, hr9862⟩
  refine At.sti ?_
  have hF9863 := Fr.tr hF9857 hF9860 rfl rfl
  refine At.enter rfl ?_
  refine r_istore_n ([(2, .int v9861), (0, .ref 188), (1, .int a1)]) rfl ?_
  refine r_aload_n rfl ?_
  refine r_iconst 0 rfl ?_
  refine q_putI (Sh.int hI9859.1 kx_188 rfl) rfl ?_
  have hI9864 := HI.wI1 hI9859 kx_188 rfl (p := 188) (b := 16) (v := 0) rfl (by decide)
  have hF9865 := Fr.wI (p := 188) (b := 16) (v := 0) hF9863 rfl
  refine r_iconst 0 rfl ?_
  refine r_istore_n ([(3, .int 0), (2, .int v9861), (0, .ref 188), (1, .int a1)]) rfl ?_
  refine Ar.fall 19 rfl ?_
  have z_14571 : (0 : Int32).toInt = 0 := rfl
  have z_14572 : (0 : Int32).toInt = 0 := rfl
  refine w_loopI (fun n_ l_ g_ => ∃ x14555 : Int32, ∃ x14556 : Int32, n_ = 8 - x14555.toInt ∧ HI g_ ∧ Fr F_X1_lineUp_188 A_X1_lineUp_188 g0 g_ ∧ gI g_ 188 16 = x14556 ∧ en_get 0 l_ = some (.ref 188) ∧ en_get 1 l_ = some (.int a1) ∧ en_get 2 l_ = some (.int v9861) ∧ en_get 3 l_ = some (.int x14555) ∧ (0 ≤ x14555.toInt ∧ x14555.toInt ≤ 8) ∧ (0 ≤ x14556.toInt ∧ x14556.toInt ≤ 8) ∧ (x14556.toInt ≤ x14555.toInt)) ?_ (8 - 0) ⟨0, 0, by first | rfl | omega, hI9864, hF9865, (gI_sI_eq hI9859.1 kx_188 rfl _), rfl, rfl, rfl, rfl, by decide, by decide, by omega⟩
  rintro n14561 l14560 g14557 ⟨x14555, x14556, hm14573, hI14558, hF14559, e14563, e14564, e14565, e14566, e14567, r14568, r14569, q14570⟩ ih14562
  refine At.enter rfl ?_
  refine r_iload_n e14567 ?_
  refine r_aload_n e14564 ?_
  refine q_getR (Sh.ref hI14558.1 kx_188 rfl) ?_
  obtain ⟨v14574, hv14574⟩ : ∃ v, gI g0 1 4 = v := ⟨_, rfl⟩
  have rv14574 := RgF.at hI0.2.1 (p := 1) (b := 4) rfl
  rw [hv14574] at rv14574
  dsimp only at rv14574
  refine q_getI (Sh.int hI14558.1 kx_1 rfl) v14574 ((hF14559.1 1 4 (by decide)).trans hv14574) ?_
  have bv14576 := q_bnd x14555
  have bv14577 := q_bnd v14574
  refine r_ics 30 rfl (fun c14575 => ?_) (fun c14575 => ?_)
  · have c14575_ : x14555.toInt ≥ v14574.toInt := en_i_ge_t c14575
    refine At.enter rfl ?_
    refine r_vret ?_
    exact ⟨_, rfl, hI14558, hF14559, rfl⟩
  · have c14575_ : x14555.toInt < v14574.toInt := en_i_ge_f c14575
    refine At.enter rfl ?_
    refine r_aload_n e14564 ?_
    refine q_getR (Sh.ref hI14558.1 kx_188 rfl) ?_
    refine r_iload_n e14567 ?_
    obtain ⟨v14578, hv14578⟩ : ∃ v, eA g0 195 x14555.toInt = v := ⟨_, rfl⟩
    refine q_iald (Sh.arr hI14558.1 ka_195) x14555.toInt rfl (by omega) v14578 ((eA_c (hF14559.2.1 195 (by decide))).trans hv14578) ?_
    refine r_istore _ rfl ?_
    refine r_aload_n (w_p1 (by decide) (Or.inr rfl) e14564) ?_
    refine q_getR (Sh.ref hI14558.1 kx_188 rfl) ?_
    refine r_iload (w_e1 _ _ _) ?_
    refine q_inlV 47 rfl [.ref 1, .int v14578] [] (Nat.le_of_ble_eq_true rfl) rfl ?_
    refine Ev.mk rfl rfl ⟨Nat.le_of_ble_eq_true rfl, Or.inr (q_rc hI14558.1 kx_1 rfl)⟩ ?_
    show At _ none _ _ (0, [(0, .ref 1), (1, .int v14578)], [], (_, _)) _
    refine At.enter rfl ?_
    refine r_iload_n rfl ?_
    refine r_ifs 4 rfl (fun c14579 => ?_) (fun c14579 => ?_)
    · have c14579_ : v14578.toInt < 0 := en_k_lt_t c14579
      refine At.enter rfl ?_
      refine r_iconst 0 rfl ?_
      refine Ar.fall 17 rfl ?_
      refine At.enter rfl ?_
      refine q_iretz (by decide) ?_
      refine At.enter rfl ?_
      refine r_iff 50 rfl (by decide) ?_
      refine At.enter rfl ?_
      refine r_goto ?_
      refine At.enter rfl ?_
      refine q_iinc (w_p1 (by decide) (Or.inr rfl) e14567) (x14555.toInt + 1) rfl (by omega) (fun v14580 hv14580 => ?_)
      refine r_goto ?_
      exact ih14562 (8 - v14580.toInt) _ _ ⟨v14580, x14556, by first | rfl | omega, hI14558, hF14559, e14563, (w_p1 (by decide) (Or.inr rfl) (w_p1 (by decide) (Or.inr rfl) e14564)), (w_p1 (by decide) (Or.inr rfl) (w_p1 (by decide) (Or.inr rfl) e14565)), (w_p1 (by decide) (Or.inr rfl) (w_p1 (by decide) (Or.inr rfl) e14566)), (w_e1 _ _ _), by omega, by omega, by omega⟩ ⟨by omega, by omega⟩
    · have c14579_ : v14578.toInt ≥ 0 := en_k_lt_f c14579
      refine At.enter rfl ?_
      refine r_iload_n rfl ?_
      refine r_aload_n rfl ?_
      obtain ⟨v14581, hv14581⟩ : ∃ v, gI g0 1 0 = v := ⟨_, rfl⟩
      have rv14581 := RgF.at hI0.2.1 (p := 1) (b := 0) rfl
      rw [hv14581] at rv14581
      dsimp only at rv14581
      refine q_getI (Sh.int hI14558.1 kx_1 rfl) v14581 ((hF14559.1 1 0 (by decide)).trans hv14581) ?_
      have bv14583 := q_bnd v14578
      have bv14584 := q_bnd v14581
      refine r_ics 12 rfl (fun c14582 => ?_) (fun c14582 => ?_)
      · have c14582_ : v14578.toInt ≥ v14581.toInt := en_i_ge_t c14582
        refine At.enter rfl ?_
        refine r_iconst 0 rfl ?_
        refine Ar.fall 17 rfl ?_
        refine At.enter rfl ?_
        refine q_iretz (by decide) ?_
        refine At.enter rfl ?_
        refine r_iff 50 rfl (by decide) ?_
        refine At.enter rfl ?_
        refine r_goto ?_
        refine At.enter rfl ?_
        refine q_iinc (w_p1 (by decide) (Or.inr rfl) e14567) (x14555.toInt + 1) rfl (by omega) (fun v14585 hv14585 => ?_)
        refine r_goto ?_
        exact ih14562 (8 - v14585.toInt) _ _ ⟨v14585, x14556, by first | rfl | omega, hI14558, hF14559, e14563, (w_p1 (by decide) (Or.inr rfl) (w_p1 (by decide) (Or.inr rfl) e14564)), (w_p1 (by decide) (Or.inr rfl) (w_p1 (by decide) (Or.inr rfl) e14565)), (w_p1 (by decide) (Or.inr rfl) (w_p1 (by decide) (Or.inr rfl) e14566)), (w_e1 _ _ _), by omega, by omega, by omega⟩ ⟨by omega, by omega⟩
      · have c14582_ : v14578.toInt < v14581.toInt := en_i_ge_f c14582
        refine At.enter rfl ?_
        refine r_iconst 1 rfl ?_
        refine r_goto ?_
        refine At.enter rfl ?_
        refine q_iretz (by decide) ?_
        refine At.enter rfl ?_
        refine r_ift (by decide) ?_
        refine At.enter rfl ?_
        refine r_aload_n (w_p1 (by decide) (Or.inr rfl) e14564) ?_
        refine q_getR (Sh.ref hI14558.1 kx_188 rfl) ?_
        refine r_iload_n (w_p1 (by decide) (Or.inr rfl) e14567) ?_
        refine r_iload_n (w_p1 (by decide) (Or.inr rfl) e14566) ?_
        refine r_ifs 62 rfl (fun c14586 => ?_) (fun c14586 => ?_)
        · have c14586_ : v9861.toInt = 0 := en_k_eq_t c14586
          refine At.enter rfl ?_
          refine r_lconst 0 rfl ?_
          refine Ar.fall 98 rfl ?_
          refine At.enter rfl ?_
          refine q_last (Sh.lar hI14558.1 ka_201) (x14555.toInt) rfl (by omega) ?_
          have hI14587 := HI.wK hI14558 ka_201 (x14555.toInt) (0)
          have hF14588 := Fr.wK (p := 201) (j := x14555.toInt) (v := 0) hF14559
          refine r_aload_n (w_p1 (by decide) (Or.inr rfl) e14564) ?_
          refine q_getI (Sh.int hI14587.1 kx_188 rfl) x14556 ((gI_sX).trans e14563) ?_
          refine r_istore _ rfl ?_
          refine Ar.fall 105 rfl ?_
          refine w_loopI (fun n_ l_ g_ => ∃ x14637 : Int32, n_ = x14637.toInt - 0 ∧ HI g_ ∧ Fr F_X1_lineUp_188 A_X1_lineUp_188 g0 g_ ∧ gI g_ 188 16 = x14556 ∧ en_get 0 l_ = some (.ref 188) ∧ en_get 1 l_ = some (.int a1) ∧ en_get 2 l_ = some (.int v9861) ∧ en_get 3 l_ = some (.int x14555) ∧ en_get 4 l_ = some (.int v14578) ∧ en_get 5 l_ = some (.int x14637) ∧ (0 ≤ x14637.toInt ∧ x14637.toInt ≤ 8) ∧ (x14637.toInt ≤ x14556.toInt)) ?_ (x14556.toInt - 0) ⟨x14556, by first | rfl | omega, hI14587, hF14588, ((gI_sX).trans e14563), (w_p1 (by decide) (Or.inr rfl) (w_p1 (by decide) (Or.inr rfl) e14564)), (w_p1 (by decide) (Or.inr rfl) (w_p1 (by decide) (Or.inr rfl) e14565)), (w_p1 (by decide) (Or.inr rfl) (w_p1 (by decide) (Or.inr rfl) e14566)), (w_p1 (by decide) (Or.inr rfl) (w_p1 (by decide) (Or.inr rfl) e14567)), (w_p1 (by decide) (Or.inr rfl) (w_e1 _ _ _)), (w_e1 _ _ _), by omega, by omega⟩
          rintro n14642 l14641 g14638 ⟨x14637, hm14653, hI14639, hF14640, e14644, e14645, e14646, e14647, e14648, e14649, e14650, r14651, q14652⟩ ih14643
          have tv14654 := congrArg Int32.toInt e14644
          refine At.enter rfl ?_
          refine r_iload e14650 ?_
          refine r_ifs 110 rfl (fun c14655 => ?_) (fun c14655 => ?_)
          · have c14655_ : x14637.toInt ≤ 0 := en_k_le_t c14655
            refine At.enter rfl ?_
            refine r_aload_n e14645 ?_
            refine q_getR (Sh.ref hI14639.1 kx_188 rfl) ?_
            refine r_iload e14650 ?_
            refine r_iload_n e14648 ?_
            refine q_iast (Sh.arr hI14639.1 ka_202) (x14637.toInt) rfl (by omega) ?_
            have hI14656 := HI.wA1 hI14639 ka_202 (p := 202) rfl rfl (x14637.toInt) (v := x14555) (by dsimp only; omega)
            have hF14657 := Fr.wA (p := 202) (j := x14637.toInt) (v := x14555) hF14640 rfl
            refine r_aload_n e14645 ?_
            refine r_dup rfl ?_
            refine q_getI (Sh.int hI14656.1 kx_188 rfl) x14556 ((gI_sW).trans e14644) ?_
            refine r_iconst 1 rfl ?_
            refine q_iadd (x14556.toInt + 1) rfl (by omega) (fun v14658 hv14658 => ?_)
            refine q_putI (Sh.int hI14656.1 kx_188 rfl) rfl ?_
            have hI14659 := HI.wI1 hI14656 kx_188 rfl (p := 188) (b := 16) (v := v14658) rfl (by dsimp only; omega)
            have hF14660 := Fr.wI (p := 188) (b := 16) (v := v14658) hF14657 rfl
            refine Ar.fall 174 rfl ?_
            refine At.enter rfl ?_
            refine q_iinc e14648 (x14555.toInt + 1) rfl (by omega) (fun v14661 hv14661 => ?_)
            refine r_goto ?_
            exact ih14562 (8 - v14661.toInt) _ _ ⟨v14661, v14658, by first | rfl | omega, hI14659, hF14660, (gI_sI_eq hI14656.1 kx_188 rfl _), (w_p1 (by decide) (Or.inr rfl) e14645), (w_p1 (by decide) (Or.inr rfl) e14646), (w_p1 (by decide) (Or.inr rfl) e14647), (w_e1 _ _ _), by omega, by omega, by omega⟩ ⟨by omega, by omega⟩
          · have c14655_ : x14637.toInt > 0 := en_k_le_f c14655
            refine At.enter rfl ?_
            refine r_aload_n e14645 ?_
            refine q_getR (Sh.ref hI14639.1 kx_188 rfl) ?_
            refine r_aload_n e14645 ?_
            refine q_getR (Sh.ref hI14639.1 kx_188 rfl) ?_
            refine r_iload e14650 ?_
            refine r_iconst 1 rfl ?_
            refine q_isub (x14637.toInt - 1) rfl (by omega) (fun v14662 hv14662 => ?_)
            obtain ⟨v14663, hv14663⟩ : ∃ v, eA g14638 202 (x14637.toInt + (-1)) = v := ⟨_, rfl⟩
            have rv14663 := RgA.at hI14639.2.2.1 (Sh.arr hI14639.1 ka_202).2 (p := 202) rfl (j := (x14637.toInt + (-1))) (by omega)
            rw [hv14663] at rv14663
            dsimp only at rv14663
            refine q_iald (Sh.arr hI14639.1 ka_202) (x14637.toInt + (-1)) (by omega) (by omega) v14663 hv14663 ?_
            refine q_lald (Sh.lar hI14639.1 ka_201) (v14663.toInt) rfl (by omega) (fun v14664 => ?_)
            refine r_aload_n e14645 ?_
            refine q_getR (Sh.ref hI14639.1 kx_188 rfl) ?_
            refine r_iload_n e14648 ?_
            refine q_lald (Sh.lar hI14639.1 ka_201) (x14555.toInt) rfl (by omega) (fun v14665 => ?_)
            refine r_lcmp _ rfl ?_
            refine r_ifs 134 rfl (fun c14666 => ?_) (fun c14666 => ?_)
            · have c14666_ : v14664.toInt ≥ v14665.toInt := en_j_ge_t c14666
              refine At.enter rfl ?_
              refine r_aload_n e14645 ?_
              refine q_getR (Sh.ref hI14639.1 kx_188 rfl) ?_
              refine r_iload e14650 ?_
              refine r_iload_n e14648 ?_
              refine q_iast (Sh.arr hI14639.1 ka_202) (x14637.toInt) rfl (by omega) ?_
              have hI14667 := HI.wA1 hI14639 ka_202 (p := 202) rfl rfl (x14637.toInt) (v := x14555) (by dsimp only; omega)
              have hF14668 := Fr.wA (p := 202) (j := x14637.toInt) (v := x14555) hF14640 rfl
              refine r_aload_n e14645 ?_
              refine r_dup rfl ?_
              refine q_getI (Sh.int hI14667.1 kx_188 rfl) x14556 ((gI_sW).trans e14644) ?_
              refine r_iconst 1 rfl ?_
              refine q_iadd (x14556.toInt + 1) rfl (by omega) (fun v14669 hv14669 => ?_)
              refine q_putI (Sh.int hI14667.1 kx_188 rfl) rfl ?_
              have hI14670 := HI.wI1 hI14667 kx_188 rfl (p := 188) (b := 16) (v := v14669) rfl (by dsimp only; omega)
              have hF14671 := Fr.wI (p := 188) (b := 16) (v := v14669) hF14668 rfl
              refine Ar.fall 174 rfl ?_
              refine At.enter rfl ?_
              refine q_iinc e14648 (x14555.toInt + 1) rfl (by omega) (fun v14672 hv14672 => ?_)
              refine r_goto ?_
              exact ih14562 (8 - v14672.toInt) _ _ ⟨v14672, v14669, by first | rfl | omega, hI14670, hF14671, (gI_sI_eq hI14667.1 kx_188 rfl _), (w_p1 (by decide) (Or.inr rfl) e14645), (w_p1 (by decide) (Or.inr rfl) e14646), (w_p1 (by decide) (Or.inr rfl) e14647), (w_e1 _ _ _), by omega, by omega, by omega⟩ ⟨by omega, by omega⟩
            · have c14666_ : v14664.toInt < v14665.toInt := en_j_ge_f c14666
              refine At.enter rfl ?_
              refine r_aload_n e14645 ?_
              refine q_getR (Sh.ref hI14639.1 kx_188 rfl) ?_
              refine r_iload e14650 ?_
              refine r_aload_n e14645 ?_
              refine q_getR (Sh.ref hI14639.1 kx_188 rfl) ?_
              refine r_iload e14650 ?_
              refine r_iconst 1 rfl ?_
              refine q_isub (x14637.toInt - 1) rfl (by omega) (fun v14673 hv14673 => ?_)
              refine q_iald (Sh.arr hI14639.1 ka_202) (x14637.toInt + (-1)) (by omega) (by omega) v14663 hv14663 ?_
              refine q_iast (Sh.arr hI14639.1 ka_202) (x14637.toInt) rfl (by omega) ?_
              have hI14674 := HI.wA1 hI14639 ka_202 (p := 202) rfl rfl (x14637.toInt) (v := v14663) (by dsimp only; omega)
              have hF14675 := Fr.wA (p := 202) (j := x14637.toInt) (v := v14663) hF14640 rfl
              refine q_iinc e14650 (x14637.toInt + (-1)) rfl (by omega) (fun v14676 hv14676 => ?_)
              refine r_goto ?_
              exact ih14643 (v14676.toInt - 0) _ _ ⟨v14676, by first | rfl | omega, hI14674, hF14675, ((gI_sW).trans e14644), (w_p1 (by decide) (Or.inr rfl) e14645), (w_p1 (by decide) (Or.inr rfl) e14646), (w_p1 (by decide) (Or.inr rfl) e14647), (w_p1 (by decide) (Or.inr rfl) e14648), (w_p1 (by decide) (Or.inr rfl) e14649), (w_e1 _ _ _), by omega, by omega⟩ ⟨by omega, by omega⟩
        · have c14586_ : v9861.toInt ≠ 0 := en_k_eq_f c14586
          refine At.enter rfl ?_
          refine r_aload_n (w_p1 (by decide) (Or.inr rfl) e14564) ?_
          refine q_getR (Sh.ref hI14558.1 kx_188 rfl) ?_
          refine r_iconst 0 rfl ?_
          refine r_iload_n (w_p1 (by decide) (Or.inr rfl) e14567) ?_
          refine r_iload (w_e1 _ _ _) ?_
          refine r_iload_n (w_p1 (by decide) (Or.inr rfl) e14565) ?_
          refine r_aload_n (w_p1 (by decide) (Or.inr rfl) e14564) ?_
          refine q_getR (Sh.ref hI14558.1 kx_188 rfl) ?_
          refine r_iload_n (w_p1 (by decide) (Or.inr rfl) e14567) ?_
          obtain ⟨v14677, hv14677⟩ : ∃ v, eA g0 198 x14555.toInt = v := ⟨_, rfl⟩
          refine q_iald (Sh.arr hI14558.1 ka_198) x14555.toInt rfl (by omega) v14677 ((eA_c (hF14559.2.1 198 (by decide))).trans hv14677) ?_
          refine r_aload_n (w_p1 (by decide) (Or.inr rfl) e14564) ?_
          refine q_getR (Sh.ref hI14558.1 kx_188 rfl) ?_
          refine r_iload (w_e1 _ _ _) ?_
          obtain ⟨v14678, hv14678⟩ : ∃ v, eA g0 189 v14578.toInt = v := ⟨_, rfl⟩
          refine q_iald (Sh.arr hI14558.1 ka_189) v14578.toInt rfl (by omega) v14678 ((eA_c (hF14559.2.1 189 (by decide))).trans hv14678) ?_
          refine r_aload_n (w_p1 (by decide) (Or.inr rfl) e14564) ?_
          refine q_getR (Sh.ref hI14558.1 kx_188 rfl) ?_
          refine r_iload (w_e1 _ _ _) ?_
          obtain ⟨v14679, hv14679⟩ : ∃ v, eA g0 190 v14578.toInt = v := ⟨_, rfl⟩
          refine q_iald (Sh.arr hI14558.1 ka_190) v14578.toInt rfl (by omega) v14679 ((eA_c (hF14559.2.1 190 (by decide))).trans hv14679) ?_
          refine r_callV 94 rfl [.ref 185, .int 0, .int x14555, .int v14578, .int a1, .int v14677, .int v14678, .int v14679] [.int x14555, .ref 201] (Nat.le_of_ble_eq_true rfl) rfl (T_X3_tells_185 _ hI14558 0 x14555 v14578 a1 v14677 v14678 v14679) ?_
          rintro _ _ ⟨g14680, rfl, hI14681, hF14682, v14683, rfl, hr14684⟩
          refine At.stl ?_
          have hF14685 := Fr.tr hF14559 hF14682 rfl rfl
          refine At.enter rfl ?_
          refine r_goto ?_
          refine At.enter rfl ?_
          refine q_last (Sh.lar hI14681.1 ka_201) (x14555.toInt) rfl (by omega) ?_
          have hI14686 := HI.wK hI14681 ka_201 (x14555.toInt) (v14683)
          have hF14687 := Fr.wK (p := 201) (j := x14555.toInt) (v := v14683) hF14685
          refine r_aload_n (w_p1 (by decide) (Or.inr rfl) e14564) ?_
          refine q_getI (Sh.int hI14686.1 kx_188 rfl) x14556 (((gI_sX).trans (hF14682.1 188 16 (by decide))).trans e14563) ?_
          refine r_istore _ rfl ?_
          refine Ar.fall 105 rfl ?_
          refine w_loopI (fun n_ l_ g_ => ∃ x14736 : Int32, n_ = x14736.toInt - 0 ∧ HI g_ ∧ Fr F_X1_lineUp_188 A_X1_lineUp_188 g0 g_ ∧ gI g_ 188 16 = x14556 ∧ en_get 0 l_ = some (.ref 188) ∧ en_get 1 l_ = some (.int a1) ∧ en_get 2 l_ = some (.int v9861) ∧ en_get 3 l_ = some (.int x14555) ∧ en_get 4 l_ = some (.int v14578) ∧ en_get 5 l_ = some (.int x14736) ∧ (0 ≤ x14736.toInt ∧ x14736.toInt ≤ 8) ∧ (x14736.toInt ≤ x14556.toInt)) ?_ (x14556.toInt - 0) ⟨x14556, by first | rfl | omega, hI14686, hF14687, (((gI_sX).trans (hF14682.1 188 16 (by decide))).trans e14563), (w_p1 (by decide) (Or.inr rfl) (w_p1 (by decide) (Or.inr rfl) e14564)), (w_p1 (by decide) (Or.inr rfl) (w_p1 (by decide) (Or.inr rfl) e14565)), (w_p1 (by decide) (Or.inr rfl) (w_p1 (by decide) (Or.inr rfl) e14566)), (w_p1 (by decide) (Or.inr rfl) (w_p1 (by decide) (Or.inr rfl) e14567)), (w_p1 (by decide) (Or.inr rfl) (w_e1 _ _ _)), (w_e1 _ _ _), by omega, by omega⟩
          rintro n14741 l14740 g14737 ⟨x14736, hm14752, hI14738, hF14739, e14743, e14744, e14745, e14746, e14747, e14748, e14749, r14750, q14751⟩ ih14742
          have tv14753 := congrArg Int32.toInt e14743
          refine At.enter rfl ?_
          refine r_iload e14749 ?_
          refine r_ifs 110 rfl (fun c14754 => ?_) (fun c14754 => ?_)
          · have c14754_ : x14736.toInt ≤ 0 := en_k_le_t c14754
            refine At.enter rfl ?_
            refine r_aload_n e14744 ?_
            refine q_getR (Sh.ref hI14738.1 kx_188 rfl) ?_
            refine r_iload e14749 ?_
            refine r_iload_n e14747 ?_
            refine q_iast (Sh.arr hI14738.1 ka_202) (x14736.toInt) rfl (by omega) ?_
            have hI14755 := HI.wA1 hI14738 ka_202 (p := 202) rfl rfl (x14736.toInt) (v := x14555) (by dsimp only; omega)
            have hF14756 := Fr.wA (p := 202) (j := x14736.toInt) (v := x14555) hF14739 rfl
            refine r_aload_n e14744 ?_
            refine r_dup rfl ?_
            refine q_getI (Sh.int hI14755.1 kx_188 rfl) x14556 ((gI_sW).trans e14743) ?_
            refine r_iconst 1 rfl ?_
            refine q_iadd (x14556.toInt + 1) rfl (by omega) (fun v14757 hv14757 => ?_)
            refine q_putI (Sh.int hI14755.1 kx_188 rfl) rfl ?_
            have hI14758 := HI.wI1 hI14755 kx_188 rfl (p := 188) (b := 16) (v := v14757) rfl (by dsimp only; omega)
            have hF14759 := Fr.wI (p := 188) (b := 16) (v := v14757) hF14756 rfl
            refine Ar.fall 174 rfl ?_
            refine At.enter rfl ?_
            refine q_iinc e14747 (x14555.toInt + 1) rfl (by omega) (fun v14760 hv14760 => ?_)
            refine r_goto ?_
            exact ih14562 (8 - v14760.toInt) _ _ ⟨v14760, v14757, by first | rfl | omega, hI14758, hF14759, (gI_sI_eq hI14755.1 kx_188 rfl _), (w_p1 (by decide) (Or.inr rfl) e14744), (w_p1 (by decide) (Or.inr rfl) e14745), (w_p1 (by decide) (Or.inr rfl) e14746), (w_e1 _ _ _), by omega, by omega, by omega⟩ ⟨by omega, by omega⟩
          · have c14754_ : x14736.toInt > 0 := en_k_le_f c14754
            refine At.enter rfl ?_
            refine r_aload_n e14744 ?_
            refine q_getR (Sh.ref hI14738.1 kx_188 rfl) ?_
            refine r_aload_n e14744 ?_
            refine q_getR (Sh.ref hI14738.1 kx_188 rfl) ?_
            refine r_iload e14749 ?_
            refine r_iconst 1 rfl ?_
            refine q_isub (x14736.toInt - 1) rfl (by omega) (fun v14761 hv14761 => ?_)
            obtain ⟨v14762, hv14762⟩ : ∃ v, eA g14737 202 (x14736.toInt + (-1)) = v := ⟨_, rfl⟩
            have rv14762 := RgA.at hI14738.2.2.1 (Sh.arr hI14738.1 ka_202).2 (p := 202) rfl (j := (x14736.toInt + (-1))) (by omega)
            rw [hv14762] at rv14762
            dsimp only at rv14762
            refine q_iald (Sh.arr hI14738.1 ka_202) (x14736.toInt + (-1)) (by omega) (by omega) v14762 hv14762 ?_
            refine q_lald (Sh.lar hI14738.1 ka_201) (v14762.toInt) rfl (by omega) (fun v14763 => ?_)
            refine r_aload_n e14744 ?_
            refine q_getR (Sh.ref hI14738.1 kx_188 rfl) ?_
            refine r_iload_n e14747 ?_
            refine q_lald (Sh.lar hI14738.1 ka_201) (x14555.toInt) rfl (by omega) (fun v14764 => ?_)
            refine r_lcmp _ rfl ?_
            refine r_ifs 134 rfl (fun c14765 => ?_) (fun c14765 => ?_)
            · have c14765_ : v14763.toInt ≥ v14764.toInt := en_j_ge_t c14765
              refine At.enter rfl ?_
              refine r_aload_n e14744 ?_
              refine q_getR (Sh.ref hI14738.1 kx_188 rfl) ?_
              refine r_iload e14749 ?_
              refine r_iload_n e14747 ?_
              refine q_iast (Sh.arr hI14738.1 ka_202) (x14736.toInt) rfl (by omega) ?_
              have hI14766 := HI.wA1 hI14738 ka_202 (p := 202) rfl rfl (x14736.toInt) (v := x14555) (by dsimp only; omega)
              have hF14767 := Fr.wA (p := 202) (j := x14736.toInt) (v := x14555) hF14739 rfl
              refine r_aload_n e14744 ?_
              refine r_dup rfl ?_
              refine q_getI (Sh.int hI14766.1 kx_188 rfl) x14556 ((gI_sW).trans e14743) ?_
              refine r_iconst 1 rfl ?_
              refine q_iadd (x14556.toInt + 1) rfl (by omega) (fun v14768 hv14768 => ?_)
              refine q_putI (Sh.int hI14766.1 kx_188 rfl) rfl ?_
              have hI14769 := HI.wI1 hI14766 kx_188 rfl (p := 188) (b := 16) (v := v14768) rfl (by dsimp only; omega)
              have hF14770 := Fr.wI (p := 188) (b := 16) (v := v14768) hF14767 rfl
              refine Ar.fall 174 rfl ?_
              refine At.enter rfl ?_
              refine q_iinc e14747 (x14555.toInt + 1) rfl (by omega) (fun v14771 hv14771 => ?_)
              refine r_goto ?_
              exact ih14562 (8 - v14771.toInt) _ _ ⟨v14771, v14768, by first | rfl | omega, hI14769, hF14770, (gI_sI_eq hI14766.1 kx_188 rfl _), (w_p1 (by decide) (Or.inr rfl) e14744), (w_p1 (by decide) (Or.inr rfl) e14745), (w_p1 (by decide) (Or.inr rfl) e14746), (w_e1 _ _ _), by omega, by omega, by omega⟩ ⟨by omega, by omega⟩
            · have c14765_ : v14763.toInt < v14764.toInt := en_j_ge_f c14765
              refine At.enter rfl ?_
              refine r_aload_n e14744 ?_
              refine q_getR (Sh.ref hI14738.1 kx_188 rfl) ?_
              refine r_iload e14749 ?_
              refine r_aload_n e14744 ?_
              refine q_getR (Sh.ref hI14738.1 kx_188 rfl) ?_
              refine r_iload e14749 ?_
              refine r_iconst 1 rfl ?_
              refine q_isub (x14736.toInt - 1) rfl (by omega) (fun v14772 hv14772 => ?_)
              refine q_iald (Sh.arr hI14738.1 ka_202) (x14736.toInt + (-1)) (by omega) (by omega) v14762 hv14762 ?_
              refine q_iast (Sh.arr hI14738.1 ka_202) (x14736.toInt) rfl (by omega) ?_
              have hI14773 := HI.wA1 hI14738 ka_202 (p := 202) rfl rfl (x14736.toInt) (v := v14762) (by dsimp only; omega)
              have hF14774 := Fr.wA (p := 202) (j := x14736.toInt) (v := v14762) hF14739 rfl
              refine q_iinc e14749 (x14736.toInt + (-1)) rfl (by omega) (fun v14775 hv14775 => ?_)
              refine r_goto ?_
              exact ih14742 (v14775.toInt - 0) _ _ ⟨v14775, by first | rfl | omega, hI14773, hF14774, ((gI_sW).trans e14743), (w_p1 (by decide) (Or.inr rfl) e14744), (w_p1 (by decide) (Or.inr rfl) e14745), (w_p1 (by decide) (Or.inr rfl) e14746), (w_p1 (by decide) (Or.inr rfl) e14747), (w_p1 (by decide) (Or.inr rfl) e14748), (w_e1 _ _ _), by omega, by omega⟩ ⟨by omega, by omega⟩

def F_X1_goOn_188 : List (Nat × Nat) := [(185, 3), (188, 18)]
def A_X1_goOn_188 : List Nat := [194, 195, 196, 197, 198, 199, 200]
set_option maxRecDepth 100000 in
set_option maxHeartbeats 4000000 in
theorem T_X1_goOn_188 (d : Nat) {N : Nat} {g0 : List en_E} (hI0 : HI g0) (a1 : Int32) : Ev (d + 4) 30 [.ref 188, .int a1] (g0, N) (fun w h' => ∃ g', h' = (g', N) ∧ HI g' ∧ Fr F_X1_goOn_188 A_X1_goOn_188 g0 g' ∧ w = none) := by
  have hF0 : Fr F_X1_goOn_188 A_X1_goOn_188 g0 g0 := Fr.rf
  refine Ev.mk rfl rfl ⟨Nat.le_of_ble_eq_true rfl, Or.inr (q_rc hI0.1 kx_188 rfl)⟩ ?_
  show At _ none _ _ (0, [(0, .ref 188), (1, .int a1)], [], (_, _)) _
  refine At.enter rfl ?_
  refine r_aload_n rfl ?_
  refine q_getR (Sh.ref hI0.1 kx_188 rfl) ?_
  refine q_inlV 7 rfl [.ref 1] [] (Nat.le_of_ble_eq_true rfl) rfl ?_
  refine Ev.mk rfl rfl ⟨Nat.le_of_ble_eq_true rfl, Or.inr (q_rc hI0.1 kx_1 rfl)⟩ ?_
  show At _ none _ _ (0, [(0, .ref 1)], [], (_, _)) _
  refine At.enter rfl ?_
  refine r_aload_n rfl ?_
  refine r_aload_n rfl ?_
  obtain ⟨v2691, hv2691⟩ : ∃ v, gI g0 1 9 = v := ⟨_, rfl⟩
  refine q_getI (Sh.int hI0.1 kx_1 rfl) v2691 hv2691 ?_
  refine r_callV 8 rfl [.ref 1, .int v2691] [] (Nat.le_of_ble_eq_true rfl) rfl (T_X0_lawAt_1 _ hI0 v2691) ?_
  rintro _ _ ⟨g2692, rfl, hI2693, hF2694, v2695, rfl, hr2696⟩
  refine At.str ?_
  have hF2697 := Fr.tr hF0 hF2694 rfl rfl
  refine At.enter rfl ?_
  refine q_aret ?_
  refine At.enter rfl ?_
  refine r_iconst 2 rfl ?_
  refine r_callV 11 rfl [.ref (v2695), .int 2] [] (Nat.le_of_ble_eq_true rfl) rfl (T_X4_speaksOf_law _ hI2693 (v2695) hr2696 2) ?_
  rintro _ _ ⟨g2698, rfl, hI2699, hF2700, v2701, rfl, hr2702⟩
  refine At.sti ?_
  have hF2703 := Fr.tr hF2697 hF2700 rfl rfl
  refine At.enter rfl ?_
  refine r_istore_n ([(2, .int v2701), (0, .ref 188), (1, .int a1)]) rfl ?_
  refine r_iconst 0 rfl ?_
  refine r_istore_n ([(3, .int 0), (2, .int v2701), (0, .ref 188), (1, .int a1)]) rfl ?_
  refine Ar.fall 14 rfl ?_
  have z_3871 : (0 : Int32).toInt = 0 := rfl
  refine w_loopI (fun n_ l_ g_ => ∃ x3859 : Int32, n_ = 8 - x3859.toInt ∧ HI g_ ∧ Fr F_X1_goOn_188 A_X1_goOn_188 g0 g_ ∧ en_get 0 l_ = some (.ref 188) ∧ en_get 1 l_ = some (.int a1) ∧ en_get 2 l_ = some (.int v2701) ∧ en_get 3 l_ = some (.int x3859) ∧ (0 ≤ x3859.toInt ∧ x3859.toInt ≤ 8)) ?_ (8 - 0) ⟨0, by first | rfl | omega, hI2699, hF2703, rfl, rfl, rfl, rfl, by decide⟩
  rintro n3864 l3863 g3860 ⟨x3859, hm3872, hI3861, hF3862, e3866, e3867, e3868, e3869, r3870⟩ ih3865
  refine At.enter rfl ?_
  refine r_iload_n e3869 ?_
  refine r_aload_n e3866 ?_
  obtain ⟨v3873, hv3873⟩ : ∃ v, gI g0 188 16 = v := ⟨_, rfl⟩
  have rv3873 := RgF.at hI0.2.1 (p := 188) (b := 16) rfl
  rw [hv3873] at rv3873
  dsimp only at rv3873
  refine q_getI (Sh.int hI3861.1 kx_188 rfl) v3873 ((hF3862.1 188 16 (by decide)).trans hv3873) ?_
  have bv3875 := q_bnd x3859
  have bv3876 := q_bnd v3873
  refine r_ics 22 rfl (fun c3874 => ?_) (fun c3874 => ?_)
  · have c3874_ : x3859.toInt ≥ v3873.toInt := en_i_ge_t c3874
    refine At.enter rfl ?_
    refine r_vret ?_
    exact ⟨_, rfl, hI3861, hF3862, rfl⟩
  · have c3874_ : x3859.toInt < v3873.toInt := en_i_ge_f c3874
    refine At.enter rfl ?_
    refine r_aload_n e3866 ?_
    refine q_getR (Sh.ref hI3861.1 kx_188 rfl) ?_
    refine r_iload_n e3869 ?_
    obtain ⟨v3877, hv3877⟩ : ∃ v, eA g0 202 x3859.toInt = v := ⟨_, rfl⟩
    have rv3877 := RgA.at hI0.2.2.1 (Sh.arr hI0.1 ka_202).2 (p := 202) rfl (j := x3859.toInt) (by omega)
    rw [hv3877] at rv3877
    dsimp only at rv3877
    refine q_iald (Sh.arr hI3861.1 ka_202) x3859.toInt rfl (by omega) v3877 ((eA_c (hF3862.2.1 202 (by decide))).trans hv3877) ?_
    refine r_istore _ rfl ?_
    refine r_aload_n (w_p1 (by decide) (Or.inr rfl) e3866) ?_
    refine q_getR (Sh.ref hI3861.1 kx_188 rfl) ?_
    refine r_iload (w_e1 _ _ _) ?_
    obtain ⟨v3878, hv3878⟩ : ∃ v, eA g3860 195 v3877.toInt = v := ⟨_, rfl⟩
    refine q_iald (Sh.arr hI3861.1 ka_195) v3877.toInt rfl (by omega) v3878 hv3878 ?_
    refine r_istore _ rfl ?_
    refine r_aload_n (w_p1 (by decide) (Or.inr rfl) (w_p1 (by decide) (Or.inr rfl) e3866)) ?_
    refine q_getR (Sh.ref hI3861.1 kx_188 rfl) ?_
    refine r_iload (w_e1 _ _ _) ?_
    refine q_inlV 48 rfl [.ref 1, .int v3878] [] (Nat.le_of_ble_eq_true rfl) rfl ?_
    refine Ev.mk rfl rfl ⟨Nat.le_of_ble_eq_true rfl, Or.inr (q_rc hI3861.1 kx_1 rfl)⟩ ?_
    show At _ none _ _ (0, [(0, .ref 1), (1, .int v3878)], [], (_, _)) _
    refine At.enter rfl ?_
    refine r_iload_n rfl ?_
    refine r_ifs 4 rfl (fun c3879 => ?_) (fun c3879 => ?_)
    · have c3879_ : v3878.toInt < 0 := en_k_lt_t c3879
      refine At.enter rfl ?_
      refine r_iconst 0 rfl ?_
      refine Ar.fall 17 rfl ?_
      refine At.enter rfl ?_
      refine q_iretz (by decide) ?_
      refine At.enter rfl ?_
      refine r_iff 51 rfl (by decide) ?_
      refine At.enter rfl ?_
      refine r_goto ?_
      refine At.enter rfl ?_
      refine q_iinc (w_p1 (by decide) (Or.inr rfl) (w_p1 (by decide) (Or.inr rfl) e3869)) (x3859.toInt + 1) rfl (by omega) (fun v3880 hv3880 => ?_)
      refine r_goto ?_
      exact ih3865 (8 - v3880.toInt) _ _ ⟨v3880, by first | rfl | omega, hI3861, hF3862, (w_p1 (by decide) (Or.inr rfl) (w_p1 (by decide) (Or.inr rfl) (w_p1 (by decide) (Or.inr rfl) e3866))), (w_p1 (by decide) (Or.inr rfl) (w_p1 (by decide) (Or.inr rfl) (w_p1 (by decide) (Or.inr rfl) e3867))), (w_p1 (by decide) (Or.inr rfl) (w_p1 (by decide) (Or.inr rfl) (w_p1 (by decide) (Or.inr rfl) e3868))), (w_e1 _ _ _), by omega⟩ ⟨by omega, by omega⟩
    · have c3879_ : v3878.toInt ≥ 0 := en_k_lt_f c3879
      refine At.enter rfl ?_
      refine r_iload_n rfl ?_
      refine r_aload_n rfl ?_
      obtain ⟨v3881, hv3881⟩ : ∃ v, gI g0 1 0 = v := ⟨_, rfl⟩
      have rv3881 := RgF.at hI0.2.1 (p := 1) (b := 0) rfl
      rw [hv3881] at rv3881
      dsimp only at rv3881
      refine q_getI (Sh.int hI3861.1 kx_1 rfl) v3881 ((hF3862.1 1 0 (by decide)).trans hv3881) ?_
      have bv3883 := q_bnd v3878
      have bv3884 := q_bnd v3881
      refine r_ics 12 rfl (fun c3882 => ?_) (fun c3882 => ?_)
      · have c3882_ : v3878.toInt ≥ v3881.toInt := en_i_ge_t c3882
        refine At.enter rfl ?_
        refine r_iconst 0 rfl ?_
        refine Ar.fall 17 rfl ?_
        refine At.enter rfl ?_
        refine q_iretz (by decide) ?_
        refine At.enter rfl ?_
        refine r_iff 51 rfl (by decide) ?_
        refine At.enter rfl ?_
        refine r_goto ?_
        refine At.enter rfl ?_
        refine q_iinc (w_p1 (by decide) (Or.inr rfl) (w_p1 (by decide) (Or.inr rfl) e3869)) (x3859.toInt + 1) rfl (by omega) (fun v3885 hv3885 => ?_)
        refine r_goto ?_
        exact ih3865 (8 - v3885.toInt) _ _ ⟨v3885, by first | rfl | omega, hI3861, hF3862, (w_p1 (by decide) (Or.inr rfl) (w_p1 (by decide) (Or.inr rfl) (w_p1 (by decide) (Or.inr rfl) e3866))), (w_p1 (by decide) (Or.inr rfl) (w_p1 (by decide) (Or.inr rfl) (w_p1 (by decide) (Or.inr rfl) e3867))), (w_p1 (by decide) (Or.inr rfl) (w_p1 (by decide) (Or.inr rfl) (w_p1 (by decide) (Or.inr rfl) e3868))), (w_e1 _ _ _), by omega⟩ ⟨by omega, by omega⟩
      · have c3882_ : v3878.toInt < v3881.toInt := en_i_ge_f c3882
        refine At.enter rfl ?_
        refine r_iconst 1 rfl ?_
        refine r_goto ?_
        refine At.enter rfl ?_
        refine q_iretz (by decide) ?_
        refine At.enter rfl ?_
        refine r_ift (by decide) ?_
        refine At.enter rfl ?_
        refine r_aload_n (w_p1 (by decide) (Or.inr rfl) (w_p1 (by decide) (Or.inr rfl) e3866)) ?_
        refine q_getR (Sh.ref hI3861.1 kx_188 rfl) ?_
        refine r_iload (w_e1 _ _ _) ?_
        obtain ⟨v3886, hv3886⟩ : ∃ v, eA g0 192 v3878.toInt = v := ⟨_, rfl⟩
        refine q_iald (Sh.arr hI3861.1 ka_192) v3878.toInt rfl (by omega) v3886 ((eA_c (hF3862.2.1 192 (by decide))).trans hv3886) ?_
        refine r_istore _ rfl ?_
        refine r_iload (w_e1 _ _ _) ?_
        refine r_aload_n (w_p1 (by decide) (Or.inr rfl) (w_p1 (by decide) (Or.inr rfl) (w_p1 (by decide) (Or.inr rfl) e3866))) ?_
        refine q_getR (Sh.ref hI3861.1 kx_188 rfl) ?_
        refine r_iload (w_p1 (by decide) (Or.inr rfl) (w_p1 (by decide) (Or.inr rfl) (w_e1 _ _ _))) ?_
        refine r_iconst 2 rfl ?_
        refine r_callV 75 rfl [.ref 1, .int v3877, .int 2] [.int v3886] (Nat.le_of_ble_eq_true rfl) rfl (T_X0_about_1 _ hI3861 v3877 2) ?_
        rintro _ _ ⟨g3887, rfl, hI3888, hF3889, v3890, rfl, hr3891⟩
        refine At.sti ?_
        have hF3892 := Fr.tr hF3862 hF3889 rfl rfl
        refine At.enter rfl ?_
        refine r_ics 78 rfl (fun c3893 => ?_) (fun c3893 => ?_)
        · have c3893_ : v3886.toInt ≠ v3890.toInt := en_i_ne_t c3893
          refine At.enter rfl ?_
          refine r_iconst 0 rfl ?_
          refine Ar.fall 83 rfl ?_
          refine At.enter rfl ?_
          refine r_istore _ rfl ?_
          refine r_iload (w_p1 (by decide) (Or.inr rfl) (w_e1 _ _ _)) ?_
          refine r_iconst (-1) rfl ?_
          refine r_ics 91 rfl (fun c3894 => ?_) (fun c3894 => ?_)
          · have c3894_ : v3886.toInt = (-1) := en_i_eq_t c3894
            refine At.enter rfl ?_
            refine r_iconst 0 rfl ?_
            refine Ar.fall 112 rfl ?_
            refine At.enter rfl ?_
            refine r_istore _ rfl ?_
            refine r_iload (w_e1 _ _ _) ?_
            refine r_ift (by decide) ?_
            refine At.enter rfl ?_
            refine r_iload (w_e1 _ _ _) ?_
            refine r_iff 174 rfl (by decide) ?_
            refine At.enter rfl ?_
            refine r_aload_n (w_p1 (by decide) (Or.inr rfl) (w_p1 (by decide) (Or.inr rfl) (w_p1 (by decide) (Or.inr rfl) (w_p1 (by decide) (Or.inr rfl) (w_p1 (by decide) (Or.inr rfl) e3866))))) ?_
            refine q_getR (Sh.ref hI3888.1 kx_188 rfl) ?_
            refine r_iload (w_p1 (by decide) (Or.inr rfl) (w_p1 (by decide) (Or.inr rfl) (w_p1 (by decide) (Or.inr rfl) (w_p1 (by decide) (Or.inr rfl) (w_e1 _ _ _))))) ?_
            refine r_dup2 ⟨rfl, rfl⟩ ?_
            obtain ⟨v3895, hv3895⟩ : ∃ v, eA g3860 198 v3877.toInt = v := ⟨_, rfl⟩
            refine q_iald (Sh.arr hI3888.1 ka_198) v3877.toInt rfl (by omega) v3895 ((eA_c (hF3889.2.1 198 (by decide))).trans hv3895) ?_
            refine r_iconst 1 rfl ?_
            refine q_iaddO (fun v3896 _ => ?_)
            refine q_iast (Sh.arr hI3888.1 ka_198) (v3877.toInt) rfl (by omega) ?_
            have hI3897 := HI.wA0 hI3888 ka_198 (p := 198) rfl rfl (v3877.toInt) (v3896)
            have hF3898 := Fr.wA (p := 198) (j := v3877.toInt) (v := v3896) hF3892 rfl
            refine r_aload_n (w_p1 (by decide) (Or.inr rfl) (w_p1 (by decide) (Or.inr rfl) (w_p1 (by decide) (Or.inr rfl) (w_p1 (by decide) (Or.inr rfl) (w_p1 (by decide) (Or.inr rfl) e3866))))) ?_
            refine q_getR (Sh.ref hI3897.1 kx_188 rfl) ?_
            refine r_iload (w_p1 (by decide) (Or.inr rfl) (w_p1 (by decide) (Or.inr rfl) (w_p1 (by decide) (Or.inr rfl) (w_p1 (by decide) (Or.inr rfl) (w_e1 _ _ _))))) ?_
            refine r_dup2 ⟨rfl, rfl⟩ ?_
            obtain ⟨v3899, hv3899⟩ : ∃ v, eA g3860 197 v3877.toInt = v := ⟨_, rfl⟩
            refine q_iald (Sh.arr hI3897.1 ka_197) v3877.toInt rfl (by omega) v3899 ((eA_c ((gA_sA_ne (by decide)).trans (hF3889.2.1 197 (by decide)))).trans hv3899) ?_
            refine r_iconst 1 rfl ?_
            refine q_iaddO (fun v3900 _ => ?_)
            refine q_iast (Sh.arr hI3897.1 ka_197) (v3877.toInt) rfl (by omega) ?_
            have hI3901 := HI.wA0 hI3897 ka_197 (p := 197) rfl rfl (v3877.toInt) (v3900)
            have hF3902 := Fr.wA (p := 197) (j := v3877.toInt) (v := v3900) hF3898 rfl
            refine r_goto ?_
            refine At.enter rfl ?_
            refine q_iinc (w_p1 (by decide) (Or.inr rfl) (w_p1 (by decide) (Or.inr rfl) (w_p1 (by decide) (Or.inr rfl) (w_p1 (by decide) (Or.inr rfl) (w_p1 (by decide) (Or.inr rfl) e3869))))) (x3859.toInt + 1) rfl (by omega) (fun v3903 hv3903 => ?_)
            refine r_goto ?_
            exact ih3865 (8 - v3903.toInt) _ _ ⟨v3903, by first | rfl | omega, hI3901, hF3902, (w_p1 (by decide) (Or.inr rfl) (w_p1 (by decide) (Or.inr rfl) (w_p1 (by decide) (Or.inr rfl) (w_p1 (by decide) (Or.inr rfl) (w_p1 (by decide) (Or.inr rfl) (w_p1 (by decide) (Or.inr rfl) e3866)))))), (w_p1 (by decide) (Or.inr rfl) (w_p1 (by decide) (Or.inr rfl) (w_p1 (by decide) (Or.inr rfl) (w_p1 (by decide) (Or.inr rfl) (w_p1 (by decide) (Or.inr rfl) (w_p1 (by decide) (Or.inr rfl) e3867)))))), (w_p1 (by decide) (Or.inr rfl) (w_p1 (by decide) (Or.inr rfl) (w_p1 (by decide) (Or.inr rfl) (w_p1 (by decide) (Or.inr rfl) (w_p1 (by decide) (Or.inr rfl) (w_p1 (by decide) (Or.inr rfl) e3868)))))), (w_e1 _ _ _), by omega⟩ ⟨by omega, by omega⟩
          · have c3894_ : v3886.toInt ≠ (-1) := en_i_eq_f c3894
            refine At.enter rfl ?_
            refine r_iload (w_e1 _ _ _) ?_
            refine r_iff 96 rfl (by decide) ?_
            refine At.enter rfl ?_
            refine r_aload_n (w_p1 (by decide) (Or.inr rfl) (w_p1 (by decide) (Or.inr rfl) (w_p1 (by decide) (Or.inr rfl) (w_p1 (by decide) (Or.inr rfl) e3866)))) ?_
            refine r_iload (w_p1 (by decide) (Or.inr rfl) (w_e1 _ _ _)) ?_
            refine r_iload (w_p1 (by decide) (Or.inr rfl) (w_p1 (by decide) (Or.inr rfl) (w_p1 (by decide) (Or.inr rfl) (w_e1 _ _ _)))) ?_
            refine r_callV 104 rfl [.ref 188, .int v3886, .int v3877] [] (Nat.le_of_ble_eq_true rfl) rfl (T_X1_canHold_188 _ hI3888 v3886 v3877) ?_
            rintro _ _ ⟨g3904, rfl, hI3905, hF3906, v3907, rfl, hr3908⟩
            refine At.sti ?_
            have hF3909 := Fr.tr hF3892 hF3906 rfl rfl
            refine At.enter rfl ?_
            refine r_ifs 107 rfl (fun c3910 => ?_) (fun c3910 => ?_)
            · have c3910_ : v3907.toInt = 0 := en_k_eq_t c3910
              refine At.enter rfl ?_
              refine r_iconst 0 rfl ?_
              refine Ar.fall 112 rfl ?_
              refine At.enter rfl ?_
              refine r_istore _ rfl ?_
              refine r_iload (w_e1 _ _ _) ?_
              refine r_ift (by decide) ?_
              refine At.enter rfl ?_
              refine r_iload (w_e1 _ _ _) ?_
              refine r_iff 174 rfl (by decide) ?_
              refine At.enter rfl ?_
              refine r_aload_n (w_p1 (by decide) (Or.inr rfl) (w_p1 (by decide) (Or.inr rfl) (w_p1 (by decide) (Or.inr rfl) (w_p1 (by decide) (Or.inr rfl) (w_p1 (by decide) (Or.inr rfl) e3866))))) ?_
              refine q_getR (Sh.ref hI3905.1 kx_188 rfl) ?_
              refine r_iload (w_p1 (by decide) (Or.inr rfl) (w_p1 (by decide) (Or.inr rfl) (w_p1 (by decide) (Or.inr rfl) (w_p1 (by decide) (Or.inr rfl) (w_e1 _ _ _))))) ?_
              refine r_dup2 ⟨rfl, rfl⟩ ?_
              obtain ⟨v3911, hv3911⟩ : ∃ v, eA g3860 198 v3877.toInt = v := ⟨_, rfl⟩
              refine q_iald (Sh.arr hI3905.1 ka_198) v3877.toInt rfl (by omega) v3911 ((eA_c ((hF3906.2.1 198 (by decide)).trans (hF3889.2.1 198 (by decide)))).trans hv3911) ?_
              refine r_iconst 1 rfl ?_
              refine q_iaddO (fun v3912 _ => ?_)
              refine q_iast (Sh.arr hI3905.1 ka_198) (v3877.toInt) rfl (by omega) ?_
              have hI3913 := HI.wA0 hI3905 ka_198 (p := 198) rfl rfl (v3877.toInt) (v3912)
              have hF3914 := Fr.wA (p := 198) (j := v3877.toInt) (v := v3912) hF3909 rfl
              refine r_aload_n (w_p1 (by decide) (Or.inr rfl) (w_p1 (by decide) (Or.inr rfl) (w_p1 (by decide) (Or.inr rfl) (w_p1 (by decide) (Or.inr rfl) (w_p1 (by decide) (Or.inr rfl) e3866))))) ?_
              refine q_getR (Sh.ref hI3913.1 kx_188 rfl) ?_
              refine r_iload (w_p1 (by decide) (Or.inr rfl) (w_p1 (by decide) (Or.inr rfl) (w_p1 (by decide) (Or.inr rfl) (w_p1 (by decide) (Or.inr rfl) (w_e1 _ _ _))))) ?_
              refine r_dup2 ⟨rfl, rfl⟩ ?_
              obtain ⟨v3915, hv3915⟩ : ∃ v, eA g3860 197 v3877.toInt = v := ⟨_, rfl⟩
              refine q_iald (Sh.arr hI3913.1 ka_197) v3877.toInt rfl (by omega) v3915 ((eA_c ((gA_sA_ne (by decide)).trans ((hF3906.2.1 197 (by decide)).trans (hF3889.2.1 197 (by decide))))).trans hv3915) ?_
              refine r_iconst 1 rfl ?_
              refine q_iaddO (fun v3916 _ => ?_)
              refine q_iast (Sh.arr hI3913.1 ka_197) (v3877.toInt) rfl (by omega) ?_
              have hI3917 := HI.wA0 hI3913 ka_197 (p := 197) rfl rfl (v3877.toInt) (v3916)
              have hF3918 := Fr.wA (p := 197) (j := v3877.toInt) (v := v3916) hF3914 rfl
              refine r_goto ?_
              refine At.enter rfl ?_
              refine q_iinc (w_p1 (by decide) (Or.inr rfl) (w_p1 (by decide) (Or.inr rfl) (w_p1 (by decide) (Or.inr rfl) (w_p1 (by decide) (Or.inr rfl) (w_p1 (by decide) (Or.inr rfl) e3869))))) (x3859.toInt + 1) rfl (by omega) (fun v3919 hv3919 => ?_)
              refine r_goto ?_
              exact ih3865 (8 - v3919.toInt) _ _ ⟨v3919, by first | rfl | omega, hI3917, hF3918, (w_p1 (by decide) (Or.inr rfl) (w_p1 (by decide) (Or.inr rfl) (w_p1 (by decide) (Or.inr rfl) (w_p1 (by decide) (Or.inr rfl) (w_p1 (by decide) (Or.inr rfl) (w_p1 (by decide) (Or.inr rfl) e3866)))))), (w_p1 (by decide) (Or.inr rfl) (w_p1 (by decide) (Or.inr rfl) (w_p1 (by decide) (Or.inr rfl) (w_p1 (by decide) (Or.inr rfl) (w_p1 (by decide) (Or.inr rfl) (w_p1 (by decide) (Or.inr rfl) e3867)))))), (w_p1 (by decide) (Or.inr rfl) (w_p1 (by decide) (Or.inr rfl) (w_p1 (by decide) (Or.inr rfl) (w_p1 (by decide) (Or.inr rfl) (w_p1 (by decide) (Or.inr rfl) (w_p1 (by decide) (Or.inr rfl) e3868)))))), (w_e1 _ _ _), by omega⟩ ⟨by omega, by omega⟩
            · have c3910_ : v3907.toInt ≠ 0 := en_k_eq_f c3910
              refine At.enter rfl ?_
              refine r_iconst 1 rfl ?_
              refine r_goto ?_
              refine At.enter rfl ?_
              refine r_istore _ rfl ?_
              refine r_iload (w_e1 _ _ _) ?_
              refine r_iff 119 rfl (by decide) ?_
              refine At.enter rfl ?_
              refine r_iload_n (w_p1 (by decide) (Or.inr rfl) (w_p1 (by decide) (Or.inr rfl) (w_p1 (by decide) (Or.inr rfl) (w_p1 (by decide) (Or.inr rfl) (w_p1 (by decide) (Or.inr rfl) e3868))))) ?_
              refine r_ifs 123 rfl (fun c3920 => ?_) (fun c3920 => ?_)
              · have c3920_ : v2701.toInt = 0 := en_k_eq_t c3920
                refine At.enter rfl ?_
                refine r_iload (w_e1 _ _ _) ?_
                refine r_ift (by decide) ?_
                refine At.enter rfl ?_
                refine r_aload_n (w_p1 (by decide) (Or.inr rfl) (w_p1 (by decide) (Or.inr rfl) (w_p1 (by decide) (Or.inr rfl) (w_p1 (by decide) (Or.inr rfl) (w_p1 (by decide) (Or.inr rfl) e3866))))) ?_
                refine r_iconst 1 rfl ?_
                refine q_putI (Sh.int hI3905.1 kx_188 rfl) rfl ?_
                have hI3921 := HI.wI0 hI3905 kx_188 rfl (p := 188) (b := 18) (v := 1) rfl
                have hF3922 := Fr.wI (p := 188) (b := 18) (v := 1) hF3909 rfl
                refine r_aload_n (w_p1 (by decide) (Or.inr rfl) (w_p1 (by decide) (Or.inr rfl) (w_p1 (by decide) (Or.inr rfl) (w_p1 (by decide) (Or.inr rfl) (w_p1 (by decide) (Or.inr rfl) e3866))))) ?_
                refine r_iload (w_p1 (by decide) (Or.inr rfl) (w_p1 (by decide) (Or.inr rfl) (w_p1 (by decide) (Or.inr rfl) (w_e1 _ _ _)))) ?_
                refine r_iload (w_p1 (by decide) (Or.inr rfl) (w_p1 (by decide) (Or.inr rfl) (w_p1 (by decide) (Or.inr rfl) (w_p1 (by decide) (Or.inr rfl) (w_e1 _ _ _))))) ?_
                refine r_callV 212 rfl [.ref 188, .int v3878, .int v3877] [] (Nat.le_of_ble_eq_true rfl) rfl (T_X1_giveUp_188 _ hI3921 v3878 v3877 (by omega)) ?_
                rintro _ _ ⟨g3923, rfl, hI3924, hF3925, rfl⟩
                refine At.stn ?_
                have hF3928 := Fr.tr hF3922 hF3925 rfl rfl
                refine At.enter rfl ?_
                refine r_aload_n (w_p1 (by decide) (Or.inr rfl) (w_p1 (by decide) (Or.inr rfl) (w_p1 (by decide) (Or.inr rfl) (w_p1 (by decide) (Or.inr rfl) (w_p1 (by decide) (Or.inr rfl) e3866))))) ?_
                refine q_getR (Sh.ref hI3924.1 kx_188 rfl) ?_
                refine r_iload (w_p1 (by decide) (Or.inr rfl) (w_p1 (by decide) (Or.inr rfl) (w_p1 (by decide) (Or.inr rfl) (w_p1 (by decide) (Or.inr rfl) (w_e1 _ _ _))))) ?_
                refine r_dup2 ⟨rfl, rfl⟩ ?_
                obtain ⟨v3929, hv3929⟩ : ∃ v, eA g3860 194 v3877.toInt = v := ⟨_, rfl⟩
                refine q_iald (Sh.arr hI3924.1 ka_194) v3877.toInt rfl (by omega) v3929 ((eA_c ((hF3925.2.1 194 (by decide)).trans ((gA_sI).trans ((hF3906.2.1 194 (by decide)).trans (hF3889.2.1 194 (by decide)))))).trans hv3929) ?_
                refine r_iconst 1 rfl ?_
                refine q_isubO (fun v3930 _ => ?_)
                refine q_iast (Sh.arr hI3924.1 ka_194) (v3877.toInt) rfl (by omega) ?_
                have hI3931 := HI.wA0 hI3924 ka_194 (p := 194) rfl rfl (v3877.toInt) (v3930)
                have hF3932 := Fr.wA (p := 194) (j := v3877.toInt) (v := v3930) hF3928 rfl
                refine r_iload (w_p1 (by decide) (Or.inr rfl) (w_e1 _ _ _)) ?_
                refine r_ift (by decide) ?_
                refine At.enter rfl ?_
                refine r_aload_n (w_p1 (by decide) (Or.inr rfl) (w_p1 (by decide) (Or.inr rfl) (w_p1 (by decide) (Or.inr rfl) (w_p1 (by decide) (Or.inr rfl) (w_p1 (by decide) (Or.inr rfl) e3866))))) ?_
                refine r_iload (w_p1 (by decide) (Or.inr rfl) (w_p1 (by decide) (Or.inr rfl) (w_e1 _ _ _))) ?_
                refine r_iload (w_p1 (by decide) (Or.inr rfl) (w_p1 (by decide) (Or.inr rfl) (w_p1 (by decide) (Or.inr rfl) (w_p1 (by decide) (Or.inr rfl) (w_e1 _ _ _))))) ?_
                refine r_callV 247 rfl [.ref 188, .int v3886, .int v3877] [] (Nat.le_of_ble_eq_true rfl) rfl (T_X1_take_188 _ hI3931 v3886 v3877 (by omega)) ?_
                rintro _ _ ⟨g3933, rfl, hI3934, hF3935, rfl⟩
                refine At.stn ?_
                have hF3938 := Fr.tr hF3932 hF3935 rfl rfl
                refine At.enter rfl ?_
                refine q_iinc (w_p1 (by decide) (Or.inr rfl) (w_p1 (by decide) (Or.inr rfl) (w_p1 (by decide) (Or.inr rfl) (w_p1 (by decide) (Or.inr rfl) (w_p1 (by decide) (Or.inr rfl) e3869))))) (x3859.toInt + 1) rfl (by omega) (fun v3939 hv3939 => ?_)
                refine r_goto ?_
                exact ih3865 (8 - v3939.toInt) _ _ ⟨v3939, by first | rfl | omega, hI3934, hF3938, (w_p1 (by decide) (Or.inr rfl) (w_p1 (by decide) (Or.inr rfl) (w_p1 (by decide) (Or.inr rfl) (w_p1 (by decide) (Or.inr rfl) (w_p1 (by decide) (Or.inr rfl) (w_p1 (by decide) (Or.inr rfl) e3866)))))), (w_p1 (by decide) (Or.inr rfl) (w_p1 (by decide) (Or.inr rfl) (w_p1 (by decide) (Or.inr rfl) (w_p1 (by decide) (Or.inr rfl) (w_p1 (by decide) (Or.inr rfl) (w_p1 (by decide) (Or.inr rfl) e3867)))))), (w_p1 (by decide) (Or.inr rfl) (w_p1 (by decide) (Or.inr rfl) (w_p1 (by decide) (Or.inr rfl) (w_p1 (by decide) (Or.inr rfl) (w_p1 (by decide) (Or.inr rfl) (w_p1 (by decide) (Or.inr rfl) e3868)))))), (w_e1 _ _ _), by omega⟩ ⟨by omega, by omega⟩
              · have c3920_ : v2701.toInt ≠ 0 := en_k_eq_f c3920
                refine At.enter rfl ?_
                refine r_aload_n (w_p1 (by decide) (Or.inr rfl) (w_p1 (by decide) (Or.inr rfl) (w_p1 (by decide) (Or.inr rfl) (w_p1 (by decide) (Or.inr rfl) (w_p1 (by decide) (Or.inr rfl) e3866))))) ?_
                refine q_getR (Sh.ref hI3905.1 kx_188 rfl) ?_
                refine r_iconst 2 rfl ?_
                refine r_iload (w_p1 (by decide) (Or.inr rfl) (w_p1 (by decide) (Or.inr rfl) (w_p1 (by decide) (Or.inr rfl) (w_p1 (by decide) (Or.inr rfl) (w_e1 _ _ _))))) ?_
                refine r_iload (w_p1 (by decide) (Or.inr rfl) (w_p1 (by decide) (Or.inr rfl) (w_p1 (by decide) (Or.inr rfl) (w_e1 _ _ _)))) ?_
                refine r_iload_n (w_p1 (by decide) (Or.inr rfl) (w_p1 (by decide) (Or.inr rfl) (w_p1 (by decide) (Or.inr rfl) (w_p1 (by decide) (Or.inr rfl) (w_p1 (by decide) (Or.inr rfl) e3867))))) ?_
                refine r_aload_n (w_p1 (by decide) (Or.inr rfl) (w_p1 (by decide) (Or.inr rfl) (w_p1 (by decide) (Or.inr rfl) (w_p1 (by decide) (Or.inr rfl) (w_p1 (by decide) (Or.inr rfl) e3866))))) ?_
                refine q_getR (Sh.ref hI3905.1 kx_188 rfl) ?_
                refine r_iload (w_p1 (by decide) (Or.inr rfl) (w_p1 (by decide) (Or.inr rfl) (w_p1 (by decide) (Or.inr rfl) (w_p1 (by decide) (Or.inr rfl) (w_e1 _ _ _))))) ?_
                obtain ⟨v3940, hv3940⟩ : ∃ v, eA g3860 198 v3877.toInt = v := ⟨_, rfl⟩
                refine q_iald (Sh.arr hI3905.1 ka_198) v3877.toInt rfl (by omega) v3940 ((eA_c ((hF3906.2.1 198 (by decide)).trans (hF3889.2.1 198 (by decide)))).trans hv3940) ?_
                refine r_aload_n (w_p1 (by decide) (Or.inr rfl) (w_p1 (by decide) (Or.inr rfl) (w_p1 (by decide) (Or.inr rfl) (w_p1 (by decide) (Or.inr rfl) (w_p1 (by decide) (Or.inr rfl) e3866))))) ?_
                refine q_getR (Sh.ref hI3905.1 kx_188 rfl) ?_
                refine r_iload (w_p1 (by decide) (Or.inr rfl) (w_p1 (by decide) (Or.inr rfl) (w_p1 (by decide) (Or.inr rfl) (w_e1 _ _ _)))) ?_
                obtain ⟨v3941, hv3941⟩ : ∃ v, eA g0 189 v3878.toInt = v := ⟨_, rfl⟩
                refine q_iald (Sh.arr hI3905.1 ka_189) v3878.toInt rfl (by omega) v3941 ((eA_c ((hF3906.2.1 189 (by decide)).trans ((hF3889.2.1 189 (by decide)).trans (hF3862.2.1 189 (by decide))))).trans hv3941) ?_
                refine r_aload_n (w_p1 (by decide) (Or.inr rfl) (w_p1 (by decide) (Or.inr rfl) (w_p1 (by decide) (Or.inr rfl) (w_p1 (by decide) (Or.inr rfl) (w_p1 (by decide) (Or.inr rfl) e3866))))) ?_
                refine q_getR (Sh.ref hI3905.1 kx_188 rfl) ?_
                refine r_iload (w_p1 (by decide) (Or.inr rfl) (w_p1 (by decide) (Or.inr rfl) (w_p1 (by decide) (Or.inr rfl) (w_e1 _ _ _)))) ?_
                obtain ⟨v3942, hv3942⟩ : ∃ v, eA g0 190 v3878.toInt = v := ⟨_, rfl⟩
                refine q_iald (Sh.arr hI3905.1 ka_190) v3878.toInt rfl (by omega) v3942 ((eA_c ((hF3906.2.1 190 (by decide)).trans ((hF3889.2.1 190 (by decide)).trans (hF3862.2.1 190 (by decide))))).trans hv3942) ?_
                refine r_callV 157 rfl [.ref 185, .int 2, .int v3877, .int v3878, .int a1, .int v3940, .int v3941, .int v3942] [] (Nat.le_of_ble_eq_true rfl) rfl (T_X3_tells_185 _ hI3905 2 v3877 v3878 a1 v3940 v3941 v3942) ?_
                rintro _ _ ⟨g3943, rfl, hI3944, hF3945, v3946, rfl, hr3947⟩
                refine At.stl ?_
                have hF3948 := Fr.tr hF3909 hF3945 rfl rfl
                refine At.enter rfl ?_
                refine r_lconst 0 rfl ?_
                refine r_lcmp _ rfl ?_
                refine r_ifs 162 rfl (fun c3949 => ?_) (fun c3949 => ?_)
                · have c3949_ : v3946.toInt ≠ 0 := en_j_ne_t c3949
                  refine At.enter rfl ?_
                  refine r_iconst 0 rfl ?_
                  refine Ar.fall 167 rfl ?_
                  refine At.enter rfl ?_
                  refine r_istore _ rfl ?_
                  refine Ar.fall 169 rfl ?_
                  refine At.enter rfl ?_
                  refine r_iload (w_e1 _ _ _) ?_
                  refine r_iff 174 rfl (by decide) ?_
                  refine At.enter rfl ?_
                  refine r_aload_n (w_p1 (by decide) (Or.inr rfl) (w_p1 (by decide) (Or.inr rfl) (w_p1 (by decide) (Or.inr rfl) (w_p1 (by decide) (Or.inr rfl) (w_p1 (by decide) (Or.inr rfl) (w_p1 (by decide) (Or.inr rfl) e3866)))))) ?_
                  refine q_getR (Sh.ref hI3944.1 kx_188 rfl) ?_
                  refine r_iload (w_p1 (by decide) (Or.inr rfl) (w_p1 (by decide) (Or.inr rfl) (w_p1 (by decide) (Or.inr rfl) (w_p1 (by decide) (Or.inr rfl) (w_p1 (by decide) (Or.inr rfl) (w_e1 _ _ _)))))) ?_
                  refine r_dup2 ⟨rfl, rfl⟩ ?_
                  refine q_iald (Sh.arr hI3944.1 ka_198) v3877.toInt rfl (by omega) v3940 ((eA_c ((hF3945.2.1 198 (by decide)).trans ((hF3906.2.1 198 (by decide)).trans (hF3889.2.1 198 (by decide))))).trans hv3940) ?_
                  refine r_iconst 1 rfl ?_
                  refine q_iaddO (fun v3950 _ => ?_)
                  refine q_iast (Sh.arr hI3944.1 ka_198) (v3877.toInt) rfl (by omega) ?_
                  have hI3951 := HI.wA0 hI3944 ka_198 (p := 198) rfl rfl (v3877.toInt) (v3950)
                  have hF3952 := Fr.wA (p := 198) (j := v3877.toInt) (v := v3950) hF3948 rfl
                  refine r_aload_n (w_p1 (by decide) (Or.inr rfl) (w_p1 (by decide) (Or.inr rfl) (w_p1 (by decide) (Or.inr rfl) (w_p1 (by decide) (Or.inr rfl) (w_p1 (by decide) (Or.inr rfl) (w_p1 (by decide) (Or.inr rfl) e3866)))))) ?_
                  refine q_getR (Sh.ref hI3951.1 kx_188 rfl) ?_
                  refine r_iload (w_p1 (by decide) (Or.inr rfl) (w_p1 (by decide) (Or.inr rfl) (w_p1 (by decide) (Or.inr rfl) (w_p1 (by decide) (Or.inr rfl) (w_p1 (by decide) (Or.inr rfl) (w_e1 _ _ _)))))) ?_
                  refine r_dup2 ⟨rfl, rfl⟩ ?_
                  obtain ⟨v3953, hv3953⟩ : ∃ v, eA g3860 197 v3877.toInt = v := ⟨_, rfl⟩
                  refine q_iald (Sh.arr hI3951.1 ka_197) v3877.toInt rfl (by omega) v3953 ((eA_c ((gA_sA_ne (by decide)).trans ((hF3945.2.1 197 (by decide)).trans ((hF3906.2.1 197 (by decide)).trans (hF3889.2.1 197 (by decide)))))).trans hv3953) ?_
                  refine r_iconst 1 rfl ?_
                  refine q_iaddO (fun v3954 _ => ?_)
                  refine q_iast (Sh.arr hI3951.1 ka_197) (v3877.toInt) rfl (by omega) ?_
                  have hI3955 := HI.wA0 hI3951 ka_197 (p := 197) rfl rfl (v3877.toInt) (v3954)
                  have hF3956 := Fr.wA (p := 197) (j := v3877.toInt) (v := v3954) hF3952 rfl
                  refine r_goto ?_
                  refine At.enter rfl ?_
                  refine q_iinc (w_p1 (by decide) (Or.inr rfl) (w_p1 (by decide) (Or.inr rfl) (w_p1 (by decide) (Or.inr rfl) (w_p1 (by decide) (Or.inr rfl) (w_p1 (by decide) (Or.inr rfl) (w_p1 (by decide) (Or.inr rfl) e3869)))))) (x3859.toInt + 1) rfl (by omega) (fun v3957 hv3957 => ?_)
                  refine r_goto ?_
                  exact ih3865 (8 - v3957.toInt) _ _ ⟨v3957, by first | rfl | omega, hI3955, hF3956, (w_p1 (by decide) (Or.inr rfl) (w_p1 (by decide) (Or.inr rfl) (w_p1 (by decide) (Or.inr rfl) (w_p1 (by decide) (Or.inr rfl) (w_p1 (by decide) (Or.inr rfl) (w_p1 (by decide) (Or.inr rfl) (w_p1 (by decide) (Or.inr rfl) e3866))))))), (w_p1 (by decide) (Or.inr rfl) (w_p1 (by decide) (Or.inr rfl) (w_p1 (by decide) (Or.inr rfl) (w_p1 (by decide) (Or.inr rfl) (w_p1 (by decide) (Or.inr rfl) (w_p1 (by decide) (Or.inr rfl) (w_p1 (by decide) (Or.inr rfl) e3867))))))), (w_p1 (by decide) (Or.inr rfl) (w_p1 (by decide) (Or.inr rfl) (w_p1 (by decide) (Or.inr rfl) (w_p1 (by decide) (Or.inr rfl) (w_p1 (by decide) (Or.inr rfl) (w_p1 (by decide) (Or.inr rfl) (w_p1 (by decide) (Or.inr rfl) e3868))))))), (w_e1 _ _ _), by omega⟩ ⟨by omega, by omega⟩
                · have c3949_ : v3946.toInt = 0 := en_j_ne_f c3949
                  refine At.enter rfl ?_
                  refine r_iconst 1 rfl ?_
                  refine r_goto ?_
                  refine At.enter rfl ?_
                  refine r_istore _ rfl ?_
                  refine Ar.fall 169 rfl ?_
                  refine At.enter rfl ?_
                  refine r_iload (w_e1 _ _ _) ?_
                  refine r_ift (by decide) ?_
                  refine At.enter rfl ?_
                  refine r_aload_n (w_p1 (by decide) (Or.inr rfl) (w_p1 (by decide) (Or.inr rfl) (w_p1 (by decide) (Or.inr rfl) (w_p1 (by decide) (Or.inr rfl) (w_p1 (by decide) (Or.inr rfl) (w_p1 (by decide) (Or.inr rfl) e3866)))))) ?_
                  refine r_iconst 1 rfl ?_
                  refine q_putI (Sh.int hI3944.1 kx_188 rfl) rfl ?_
                  have hI3958 := HI.wI0 hI3944 kx_188 rfl (p := 188) (b := 18) (v := 1) rfl
                  have hF3959 := Fr.wI (p := 188) (b := 18) (v := 1) hF3948 rfl
                  refine r_aload_n (w_p1 (by decide) (Or.inr rfl) (w_p1 (by decide) (Or.inr rfl) (w_p1 (by decide) (Or.inr rfl) (w_p1 (by decide) (Or.inr rfl) (w_p1 (by decide) (Or.inr rfl) (w_p1 (by decide) (Or.inr rfl) e3866)))))) ?_
                  refine r_iload (w_p1 (by decide) (Or.inr rfl) (w_p1 (by decide) (Or.inr rfl) (w_p1 (by decide) (Or.inr rfl) (w_p1 (by decide) (Or.inr rfl) (w_e1 _ _ _))))) ?_
                  refine r_iload (w_p1 (by decide) (Or.inr rfl) (w_p1 (by decide) (Or.inr rfl) (w_p1 (by decide) (Or.inr rfl) (w_p1 (by decide) (Or.inr rfl) (w_p1 (by decide) (Or.inr rfl) (w_e1 _ _ _)))))) ?_
                  refine r_callV 212 rfl [.ref 188, .int v3878, .int v3877] [] (Nat.le_of_ble_eq_true rfl) rfl (T_X1_giveUp_188 _ hI3958 v3878 v3877 (by omega)) ?_
                  rintro _ _ ⟨g3960, rfl, hI3961, hF3962, rfl⟩
                  refine At.stn ?_
                  have hF3965 := Fr.tr hF3959 hF3962 rfl rfl
                  refine At.enter rfl ?_
                  refine r_aload_n (w_p1 (by decide) (Or.inr rfl) (w_p1 (by decide) (Or.inr rfl) (w_p1 (by decide) (Or.inr rfl) (w_p1 (by decide) (Or.inr rfl) (w_p1 (by decide) (Or.inr rfl) (w_p1 (by decide) (Or.inr rfl) e3866)))))) ?_
                  refine q_getR (Sh.ref hI3961.1 kx_188 rfl) ?_
                  refine r_iload (w_p1 (by decide) (Or.inr rfl) (w_p1 (by decide) (Or.inr rfl) (w_p1 (by decide) (Or.inr rfl) (w_p1 (by decide) (Or.inr rfl) (w_p1 (by decide) (Or.inr rfl) (w_e1 _ _ _)))))) ?_
                  refine r_dup2 ⟨rfl, rfl⟩ ?_
                  obtain ⟨v3966, hv3966⟩ : ∃ v, eA g3860 194 v3877.toInt = v := ⟨_, rfl⟩
                  refine q_iald (Sh.arr hI3961.1 ka_194) v3877.toInt rfl (by omega) v3966 ((eA_c ((hF3962.2.1 194 (by decide)).trans ((gA_sI).trans ((hF3945.2.1 194 (by decide)).trans ((hF3906.2.1 194 (by decide)).trans (hF3889.2.1 194 (by decide))))))).trans hv3966) ?_
                  refine r_iconst 1 rfl ?_
                  refine q_isubO (fun v3967 _ => ?_)
                  refine q_iast (Sh.arr hI3961.1 ka_194) (v3877.toInt) rfl (by omega) ?_
                  have hI3968 := HI.wA0 hI3961 ka_194 (p := 194) rfl rfl (v3877.toInt) (v3967)
                  have hF3969 := Fr.wA (p := 194) (j := v3877.toInt) (v := v3967) hF3965 rfl
                  refine r_iload (w_p1 (by decide) (Or.inr rfl) (w_p1 (by decide) (Or.inr rfl) (w_e1 _ _ _))) ?_
                  refine r_ift (by decide) ?_
                  refine At.enter rfl ?_
                  refine r_aload_n (w_p1 (by decide) (Or.inr rfl) (w_p1 (by decide) (Or.inr rfl) (w_p1 (by decide) (Or.inr rfl) (w_p1 (by decide) (Or.inr rfl) (w_p1 (by decide) (Or.inr rfl) (w_p1 (by decide) (Or.inr rfl) e3866)))))) ?_
                  refine r_iload (w_p1 (by decide) (Or.inr rfl) (w_p1 (by decide) (Or.inr rfl) (w_p1 (by decide) (Or.inr rfl) (w_e1 _ _ _)))) ?_
                  refine r_iload (w_p1 (by decide) (Or.inr rfl) (w_p1 (by decide) (Or.inr rfl) (w_p1 (by decide) (Or.inr rfl) (w_p1 (by decide) (Or.inr rfl) (w_p1 (by decide) (Or.inr rfl) (w_e1 _ _ _)))))) ?_
                  refine r_callV 247 rfl [.ref 188, .int v3886, .int v3877] [] (Nat.le_of_ble_eq_true rfl) rfl (T_X1_take_188 _ hI3968 v3886 v3877 (by omega)) ?_
                  rintro _ _ ⟨g3970, rfl, hI3971, hF3972, rfl⟩
                  refine At.stn ?_
                  have hF3975 := Fr.tr hF3969 hF3972 rfl rfl
                  refine At.enter rfl ?_
                  refine q_iinc (w_p1 (by decide) (Or.inr rfl) (w_p1 (by decide) (Or.inr rfl) (w_p1 (by decide) (Or.inr rfl) (w_p1 (by decide) (Or.inr rfl) (w_p1 (by decide) (Or.inr rfl) (w_p1 (by decide) (Or.inr rfl) e3869)))))) (x3859.toInt + 1) rfl (by omega) (fun v3976 hv3976 => ?_)
                  refine r_goto ?_
                  exact ih3865 (8 - v3976.toInt) _ _ ⟨v3976, by first | rfl | omega, hI3971, hF3975, (w_p1 (by decide) (Or.inr rfl) (w_p1 (by decide) (Or.inr rfl) (w_p1 (by decide) (Or.inr rfl) (w_p1 (by decide) (Or.inr rfl) (w_p1 (by decide) (Or.inr rfl) (w_p1 (by decide) (Or.inr rfl) (w_p1 (by decide) (Or.inr rfl) e3866))))))), (w_p1 (by decide) (Or.inr rfl) (w_p1 (by decide) (Or.inr rfl) (w_p1 (by decide) (Or.inr rfl) (w_p1 (by decide) (Or.inr rfl) (w_p1 (by decide) (Or.inr rfl) (w_p1 (by decide) (Or.inr rfl) (w_p1 (by decide) (Or.inr rfl) e3867))))))), (w_p1 (by decide) (Or.inr rfl) (w_p1 (by decide) (Or.inr rfl) (w_p1 (by decide) (Or.inr rfl) (w_p1 (by decide) (Or.inr rfl) (w_p1 (by decide) (Or.inr rfl) (w_p1 (by decide) (Or.inr rfl) (w_p1 (by decide) (Or.inr rfl) e3868))))))), (w_e1 _ _ _), by omega⟩ ⟨by omega, by omega⟩
        · have c3893_ : v3886.toInt = v3890.toInt := en_i_ne_f c3893
          refine At.enter rfl ?_
          refine r_iconst 1 rfl ?_
          refine r_goto ?_
          refine At.enter rfl ?_
          refine r_istore _ rfl ?_
          refine r_iload (w_p1 (by decide) (Or.inr rfl) (w_e1 _ _ _)) ?_
          refine r_iconst (-1) rfl ?_
          refine r_ics 91 rfl (fun c3977 => ?_) (fun c3977 => ?_)
          · have c3977_ : v3886.toInt = (-1) := en_i_eq_t c3977
            refine At.enter rfl ?_
            refine r_iconst 0 rfl ?_
            refine Ar.fall 112 rfl ?_
            refine At.enter rfl ?_
            refine r_istore _ rfl ?_
            refine r_iload (w_e1 _ _ _) ?_
            refine r_ift (by decide) ?_
            refine At.enter rfl ?_
            refine r_iload (w_e1 _ _ _) ?_
            refine r_iff 174 rfl (by decide) ?_
            refine At.enter rfl ?_
            refine r_aload_n (w_p1 (by decide) (Or.inr rfl) (w_p1 (by decide) (Or.inr rfl) (w_p1 (by decide) (Or.inr rfl) (w_p1 (by decide) (Or.inr rfl) (w_p1 (by decide) (Or.inr rfl) e3866))))) ?_
            refine q_getR (Sh.ref hI3888.1 kx_188 rfl) ?_
            refine r_iload (w_p1 (by decide) (Or.inr rfl) (w_p1 (by decide) (Or.inr rfl) (w_p1 (by decide) (Or.inr rfl) (w_p1 (by decide) (Or.inr rfl) (w_e1 _ _ _))))) ?_
            refine r_dup2 ⟨rfl, rfl⟩ ?_
            obtain ⟨v3978, hv3978⟩ : ∃ v, eA g3860 198 v3877.toInt = v := ⟨_, rfl⟩
            refine q_iald (Sh.arr hI3888.1 ka_198) v3877.toInt rfl (by omega) v3978 ((eA_c (hF3889.2.1 198 (by decide))).trans hv3978) ?_
            refine r_iconst 1 rfl ?_
            refine q_iaddO (fun v3979 _ => ?_)
            refine q_iast (Sh.arr hI3888.1 ka_198) (v3877.toInt) rfl (by omega) ?_
            have hI3980 := HI.wA0 hI3888 ka_198 (p := 198) rfl rfl (v3877.toInt) (v3979)
            have hF3981 := Fr.wA (p := 198) (j := v3877.toInt) (v := v3979) hF3892 rfl
            refine r_aload_n (w_p1 (by decide) (Or.inr rfl) (w_p1 (by decide) (Or.inr rfl) (w_p1 (by decide) (Or.inr rfl) (w_p1 (by decide) (Or.inr rfl) (w_p1 (by decide) (Or.inr rfl) e3866))))) ?_
            refine q_getR (Sh.ref hI3980.1 kx_188 rfl) ?_
            refine r_iload (w_p1 (by decide) (Or.inr rfl) (w_p1 (by decide) (Or.inr rfl) (w_p1 (by decide) (Or.inr rfl) (w_p1 (by decide) (Or.inr rfl) (w_e1 _ _ _))))) ?_
            refine r_dup2 ⟨rfl, rfl⟩ ?_
            obtain ⟨v3982, hv3982⟩ : ∃ v, eA g3860 197 v3877.toInt = v := ⟨_, rfl⟩
            refine q_iald (Sh.arr hI3980.1 ka_197) v3877.toInt rfl (by omega) v3982 ((eA_c ((gA_sA_ne (by decide)).trans (hF3889.2.1 197 (by decide)))).trans hv3982) ?_
            refine r_iconst 1 rfl ?_
            refine q_iaddO (fun v3983 _ => ?_)
            refine q_iast (Sh.arr hI3980.1 ka_197) (v3877.toInt) rfl (by omega) ?_
            have hI3984 := HI.wA0 hI3980 ka_197 (p := 197) rfl rfl (v3877.toInt) (v3983)
            have hF3985 := Fr.wA (p := 197) (j := v3877.toInt) (v := v3983) hF3981 rfl
            refine r_goto ?_
            refine At.enter rfl ?_
            refine q_iinc (w_p1 (by decide) (Or.inr rfl) (w_p1 (by decide) (Or.inr rfl) (w_p1 (by decide) (Or.inr rfl) (w_p1 (by decide) (Or.inr rfl) (w_p1 (by decide) (Or.inr rfl) e3869))))) (x3859.toInt + 1) rfl (by omega) (fun v3986 hv3986 => ?_)
            refine r_goto ?_
            exact ih3865 (8 - v3986.toInt) _ _ ⟨v3986, by first | rfl | omega, hI3984, hF3985, (w_p1 (by decide) (Or.inr rfl) (w_p1 (by decide) (Or.inr rfl) (w_p1 (by decide) (Or.inr rfl) (w_p1 (by decide) (Or.inr rfl) (w_p1 (by decide) (Or.inr rfl) (w_p1 (by decide) (Or.inr rfl) e3866)))))), (w_p1 (by decide) (Or.inr rfl) (w_p1 (by decide) (Or.inr rfl) (w_p1 (by decide) (Or.inr rfl) (w_p1 (by decide) (Or.inr rfl) (w_p1 (by decide) (Or.inr rfl) (w_p1 (by decide) (Or.inr rfl) e3867)))))), (w_p1 (by decide) (Or.inr rfl) (w_p1 (by decide) (Or.inr rfl) (w_p1 (by decide) (Or.inr rfl) (w_p1 (by decide) (Or.inr rfl) (w_p1 (by decide) (Or.inr rfl) (w_p1 (by decide) (Or.inr rfl) e3868)))))), (w_e1 _ _ _), by omega⟩ ⟨by omega, by omega⟩
          · have c3977_ : v3886.toInt ≠ (-1) := en_i_eq_f c3977
            refine At.enter rfl ?_
            refine r_iload (w_e1 _ _ _) ?_
            refine r_ift (by decide) ?_
            refine At.enter rfl ?_
            refine r_iconst 1 rfl ?_
            refine r_goto ?_
            refine At.enter rfl ?_
            refine r_istore _ rfl ?_
            refine r_iload (w_e1 _ _ _) ?_
            refine r_iff 119 rfl (by decide) ?_
            refine At.enter rfl ?_
            refine r_iload_n (w_p1 (by decide) (Or.inr rfl) (w_p1 (by decide) (Or.inr rfl) (w_p1 (by decide) (Or.inr rfl) (w_p1 (by decide) (Or.inr rfl) (w_p1 (by decide) (Or.inr rfl) e3868))))) ?_
            refine r_ifs 123 rfl (fun c3987 => ?_) (fun c3987 => ?_)
            · have c3987_ : v2701.toInt = 0 := en_k_eq_t c3987
              refine At.enter rfl ?_
              refine r_iload (w_e1 _ _ _) ?_
              refine r_ift (by decide) ?_
              refine At.enter rfl ?_
              refine r_aload_n (w_p1 (by decide) (Or.inr rfl) (w_p1 (by decide) (Or.inr rfl) (w_p1 (by decide) (Or.inr rfl) (w_p1 (by decide) (Or.inr rfl) (w_p1 (by decide) (Or.inr rfl) e3866))))) ?_
              refine r_iconst 1 rfl ?_
              refine q_putI (Sh.int hI3888.1 kx_188 rfl) rfl ?_
              have hI3988 := HI.wI0 hI3888 kx_188 rfl (p := 188) (b := 18) (v := 1) rfl
              have hF3989 := Fr.wI (p := 188) (b := 18) (v := 1) hF3892 rfl
              refine r_aload_n (w_p1 (by decide) (Or.inr rfl) (w_p1 (by decide) (Or.inr rfl) (w_p1 (by decide) (Or.inr rfl) (w_p1 (by decide) (Or.inr rfl) (w_p1 (by decide) (Or.inr rfl) e3866))))) ?_
              refine r_iload (w_p1 (by decide) (Or.inr rfl) (w_p1 (by decide) (Or.inr rfl) (w_p1 (by decide) (Or.inr rfl) (w_e1 _ _ _)))) ?_
              refine r_iload (w_p1 (by decide) (Or.inr rfl) (w_p1 (by decide) (Or.inr rfl) (w_p1 (by decide) (Or.inr rfl) (w_p1 (by decide) (Or.inr rfl) (w_e1 _ _ _))))) ?_
              refine r_callV 212 rfl [.ref 188, .int v3878, .int v3877] [] (Nat.le_of_ble_eq_true rfl) rfl (T_X1_giveUp_188 _ hI3988 v3878 v3877 (by omega)) ?_
              rintro _ _ ⟨g3990, rfl, hI3991, hF3992, rfl⟩
              refine At.stn ?_
              have hF3995 := Fr.tr hF3989 hF3992 rfl rfl
              refine At.enter rfl ?_
              refine r_aload_n (w_p1 (by decide) (Or.inr rfl) (w_p1 (by decide) (Or.inr rfl) (w_p1 (by decide) (Or.inr rfl) (w_p1 (by decide) (Or.inr rfl) (w_p1 (by decide) (Or.inr rfl) e3866))))) ?_
              refine q_getR (Sh.ref hI3991.1 kx_188 rfl) ?_
              refine r_iload (w_p1 (by decide) (Or.inr rfl) (w_p1 (by decide) (Or.inr rfl) (w_p1 (by decide) (Or.inr rfl) (w_p1 (by decide) (Or.inr rfl) (w_e1 _ _ _))))) ?_
              refine r_dup2 ⟨rfl, rfl⟩ ?_
              obtain ⟨v3996, hv3996⟩ : ∃ v, eA g3860 194 v3877.toInt = v := ⟨_, rfl⟩
              refine q_iald (Sh.arr hI3991.1 ka_194) v3877.toInt rfl (by omega) v3996 ((eA_c ((hF3992.2.1 194 (by decide)).trans ((gA_sI).trans (hF3889.2.1 194 (by decide))))).trans hv3996) ?_
              refine r_iconst 1 rfl ?_
              refine q_isubO (fun v3997 _ => ?_)
              refine q_iast (Sh.arr hI3991.1 ka_194) (v3877.toInt) rfl (by omega) ?_
              have hI3998 := HI.wA0 hI3991 ka_194 (p := 194) rfl rfl (v3877.toInt) (v3997)
              have hF3999 := Fr.wA (p := 194) (j := v3877.toInt) (v := v3997) hF3995 rfl
              refine r_iload (w_p1 (by decide) (Or.inr rfl) (w_e1 _ _ _)) ?_
              refine r_iff 228 rfl (by decide) ?_
              refine At.enter rfl ?_
              refine r_aload_n (w_p1 (by decide) (Or.inr rfl) (w_p1 (by decide) (Or.inr rfl) (w_p1 (by decide) (Or.inr rfl) (w_p1 (by decide) (Or.inr rfl) (w_p1 (by decide) (Or.inr rfl) e3866))))) ?_
              refine q_getR (Sh.ref hI3998.1 kx_188 rfl) ?_
              refine r_iload (w_p1 (by decide) (Or.inr rfl) (w_p1 (by decide) (Or.inr rfl) (w_p1 (by decide) (Or.inr rfl) (w_p1 (by decide) (Or.inr rfl) (w_e1 _ _ _))))) ?_
              refine r_iload_n (w_p1 (by decide) (Or.inr rfl) (w_p1 (by decide) (Or.inr rfl) (w_p1 (by decide) (Or.inr rfl) (w_p1 (by decide) (Or.inr rfl) (w_p1 (by decide) (Or.inr rfl) e3867))))) ?_
              refine q_iast (Sh.arr hI3998.1 ka_196) (v3877.toInt) rfl (by omega) ?_
              have hI4000 := HI.wA0 hI3998 ka_196 (p := 196) rfl rfl (v3877.toInt) (a1)
              have hF4001 := Fr.wA (p := 196) (j := v3877.toInt) (v := a1) hF3999 rfl
              refine r_goto ?_
              refine At.enter rfl ?_
              refine q_iinc (w_p1 (by decide) (Or.inr rfl) (w_p1 (by decide) (Or.inr rfl) (w_p1 (by decide) (Or.inr rfl) (w_p1 (by decide) (Or.inr rfl) (w_p1 (by decide) (Or.inr rfl) e3869))))) (x3859.toInt + 1) rfl (by omega) (fun v4002 hv4002 => ?_)
              refine r_goto ?_
              exact ih3865 (8 - v4002.toInt) _ _ ⟨v4002, by first | rfl | omega, hI4000, hF4001, (w_p1 (by decide) (Or.inr rfl) (w_p1 (by decide) (Or.inr rfl) (w_p1 (by decide) (Or.inr rfl) (w_p1 (by decide) (Or.inr rfl) (w_p1 (by decide) (Or.inr rfl) (w_p1 (by decide) (Or.inr rfl) e3866)))))), (w_p1 (by decide) (Or.inr rfl) (w_p1 (by decide) (Or.inr rfl) (w_p1 (by decide) (Or.inr rfl) (w_p1 (by decide) (Or.inr rfl) (w_p1 (by decide) (Or.inr rfl) (w_p1 (by decide) (Or.inr rfl) e3867)))))), (w_p1 (by decide) (Or.inr rfl) (w_p1 (by decide) (Or.inr rfl) (w_p1 (by decide) (Or.inr rfl) (w_p1 (by decide) (Or.inr rfl) (w_p1 (by decide) (Or.inr rfl) (w_p1 (by decide) (Or.inr rfl) e3868)))))), (w_e1 _ _ _), by omega⟩ ⟨by omega, by omega⟩
            · have c3987_ : v2701.toInt ≠ 0 := en_k_eq_f c3987
              refine At.enter rfl ?_
              refine r_aload_n (w_p1 (by decide) (Or.inr rfl) (w_p1 (by decide) (Or.inr rfl) (w_p1 (by decide) (Or.inr rfl) (w_p1 (by decide) (Or.inr rfl) (w_p1 (by decide) (Or.inr rfl) e3866))))) ?_
              refine q_getR (Sh.ref hI3888.1 kx_188 rfl) ?_
              refine r_iconst 2 rfl ?_
              refine r_iload (w_p1 (by decide) (Or.inr rfl) (w_p1 (by decide) (Or.inr rfl) (w_p1 (by decide) (Or.inr rfl) (w_p1 (by decide) (Or.inr rfl) (w_e1 _ _ _))))) ?_
              refine r_iload (w_p1 (by decide) (Or.inr rfl) (w_p1 (by decide) (Or.inr rfl) (w_p1 (by decide) (Or.inr rfl) (w_e1 _ _ _)))) ?_
              refine r_iload_n (w_p1 (by decide) (Or.inr rfl) (w_p1 (by decide) (Or.inr rfl) (w_p1 (by decide) (Or.inr rfl) (w_p1 (by decide) (Or.inr rfl) (w_p1 (by decide) (Or.inr rfl) e3867))))) ?_
              refine r_aload_n (w_p1 (by decide) (Or.inr rfl) (w_p1 (by decide) (Or.inr rfl) (w_p1 (by decide) (Or.inr rfl) (w_p1 (by decide) (Or.inr rfl) (w_p1 (by decide) (Or.inr rfl) e3866))))) ?_
              refine q_getR (Sh.ref hI3888.1 kx_188 rfl) ?_
              refine r_iload (w_p1 (by decide) (Or.inr rfl) (w_p1 (by decide) (Or.inr rfl) (w_p1 (by decide) (Or.inr rfl) (w_p1 (by decide) (Or.inr rfl) (w_e1 _ _ _))))) ?_
              obtain ⟨v4003, hv4003⟩ : ∃ v, eA g3860 198 v3877.toInt = v := ⟨_, rfl⟩
              refine q_iald (Sh.arr hI3888.1 ka_198) v3877.toInt rfl (by omega) v4003 ((eA_c (hF3889.2.1 198 (by decide))).trans hv4003) ?_
              refine r_aload_n (w_p1 (by decide) (Or.inr rfl) (w_p1 (by decide) (Or.inr rfl) (w_p1 (by decide) (Or.inr rfl) (w_p1 (by decide) (Or.inr rfl) (w_p1 (by decide) (Or.inr rfl) e3866))))) ?_
              refine q_getR (Sh.ref hI3888.1 kx_188 rfl) ?_
              refine r_iload (w_p1 (by decide) (Or.inr rfl) (w_p1 (by decide) (Or.inr rfl) (w_p1 (by decide) (Or.inr rfl) (w_e1 _ _ _)))) ?_
              obtain ⟨v4004, hv4004⟩ : ∃ v, eA g0 189 v3878.toInt = v := ⟨_, rfl⟩
              refine q_iald (Sh.arr hI3888.1 ka_189) v3878.toInt rfl (by omega) v4004 ((eA_c ((hF3889.2.1 189 (by decide)).trans (hF3862.2.1 189 (by decide)))).trans hv4004) ?_
              refine r_aload_n (w_p1 (by decide) (Or.inr rfl) (w_p1 (by decide) (Or.inr rfl) (w_p1 (by decide) (Or.inr rfl) (w_p1 (by decide) (Or.inr rfl) (w_p1 (by decide) (Or.inr rfl) e3866))))) ?_
              refine q_getR (Sh.ref hI3888.1 kx_188 rfl) ?_
              refine r_iload (w_p1 (by decide) (Or.inr rfl) (w_p1 (by decide) (Or.inr rfl) (w_p1 (by decide) (Or.inr rfl) (w_e1 _ _ _)))) ?_
              obtain ⟨v4005, hv4005⟩ : ∃ v, eA g0 190 v3878.toInt = v := ⟨_, rfl⟩
              refine q_iald (Sh.arr hI3888.1 ka_190) v3878.toInt rfl (by omega) v4005 ((eA_c ((hF3889.2.1 190 (by decide)).trans (hF3862.2.1 190 (by decide)))).trans hv4005) ?_
              refine r_callV 157 rfl [.ref 185, .int 2, .int v3877, .int v3878, .int a1, .int v4003, .int v4004, .int v4005] [] (Nat.le_of_ble_eq_true rfl) rfl (T_X3_tells_185 _ hI3888 2 v3877 v3878 a1 v4003 v4004 v4005) ?_
              rintro _ _ ⟨g4006, rfl, hI4007, hF4008, v4009, rfl, hr4010⟩
              refine At.stl ?_
              have hF4011 := Fr.tr hF3892 hF4008 rfl rfl
              refine At.enter rfl ?_
              refine r_lconst 0 rfl ?_
              refine r_lcmp _ rfl ?_
              refine r_ifs 162 rfl (fun c4012 => ?_) (fun c4012 => ?_)
              · have c4012_ : v4009.toInt ≠ 0 := en_j_ne_t c4012
                refine At.enter rfl ?_
                refine r_iconst 0 rfl ?_
                refine Ar.fall 167 rfl ?_
                refine At.enter rfl ?_
                refine r_istore _ rfl ?_
                refine Ar.fall 169 rfl ?_
                refine At.enter rfl ?_
                refine r_iload (w_e1 _ _ _) ?_
                refine r_iff 174 rfl (by decide) ?_
                refine At.enter rfl ?_
                refine r_aload_n (w_p1 (by decide) (Or.inr rfl) (w_p1 (by decide) (Or.inr rfl) (w_p1 (by decide) (Or.inr rfl) (w_p1 (by decide) (Or.inr rfl) (w_p1 (by decide) (Or.inr rfl) (w_p1 (by decide) (Or.inr rfl) e3866)))))) ?_
                refine q_getR (Sh.ref hI4007.1 kx_188 rfl) ?_
                refine r_iload (w_p1 (by decide) (Or.inr rfl) (w_p1 (by decide) (Or.inr rfl) (w_p1 (by decide) (Or.inr rfl) (w_p1 (by decide) (Or.inr rfl) (w_p1 (by decide) (Or.inr rfl) (w_e1 _ _ _)))))) ?_
                refine r_dup2 ⟨rfl, rfl⟩ ?_
                refine q_iald (Sh.arr hI4007.1 ka_198) v3877.toInt rfl (by omega) v4003 ((eA_c ((hF4008.2.1 198 (by decide)).trans (hF3889.2.1 198 (by decide)))).trans hv4003) ?_
                refine r_iconst 1 rfl ?_
                refine q_iaddO (fun v4013 _ => ?_)
                refine q_iast (Sh.arr hI4007.1 ka_198) (v3877.toInt) rfl (by omega) ?_
                have hI4014 := HI.wA0 hI4007 ka_198 (p := 198) rfl rfl (v3877.toInt) (v4013)
                have hF4015 := Fr.wA (p := 198) (j := v3877.toInt) (v := v4013) hF4011 rfl
                refine r_aload_n (w_p1 (by decide) (Or.inr rfl) (w_p1 (by decide) (Or.inr rfl) (w_p1 (by decide) (Or.inr rfl) (w_p1 (by decide) (Or.inr rfl) (w_p1 (by decide) (Or.inr rfl) (w_p1 (by decide) (Or.inr rfl) e3866)))))) ?_
                refine q_getR (Sh.ref hI4014.1 kx_188 rfl) ?_
                refine r_iload (w_p1 (by decide) (Or.inr rfl) (w_p1 (by decide) (Or.inr rfl) (w_p1 (by decide) (Or.inr rfl) (w_p1 (by decide) (Or.inr rfl) (w_p1 (by decide) (Or.inr rfl) (w_e1 _ _ _)))))) ?_
                refine r_dup2 ⟨rfl, rfl⟩ ?_
                obtain ⟨v4016, hv4016⟩ : ∃ v, eA g3860 197 v3877.toInt = v := ⟨_, rfl⟩
                refine q_iald (Sh.arr hI4014.1 ka_197) v3877.toInt rfl (by omega) v4016 ((eA_c ((gA_sA_ne (by decide)).trans ((hF4008.2.1 197 (by decide)).trans (hF3889.2.1 197 (by decide))))).trans hv4016) ?_
                refine r_iconst 1 rfl ?_
                refine q_iaddO (fun v4017 _ => ?_)
                refine q_iast (Sh.arr hI4014.1 ka_197) (v3877.toInt) rfl (by omega) ?_
                have hI4018 := HI.wA0 hI4014 ka_197 (p := 197) rfl rfl (v3877.toInt) (v4017)
                have hF4019 := Fr.wA (p := 197) (j := v3877.toInt) (v := v4017) hF4015 rfl
                refine r_goto ?_
                refine At.enter rfl ?_
                refine q_iinc (w_p1 (by decide) (Or.inr rfl) (w_p1 (by decide) (Or.inr rfl) (w_p1 (by decide) (Or.inr rfl) (w_p1 (by decide) (Or.inr rfl) (w_p1 (by decide) (Or.inr rfl) (w_p1 (by decide) (Or.inr rfl) e3869)))))) (x3859.toInt + 1) rfl (by omega) (fun v4020 hv4020 => ?_)
                refine r_goto ?_
                exact ih3865 (8 - v4020.toInt) _ _ ⟨v4020, by first | rfl | omega, hI4018, hF4019, (w_p1 (by decide) (Or.inr rfl) (w_p1 (by decide) (Or.inr rfl) (w_p1 (by decide) (Or.inr rfl) (w_p1 (by decide) (Or.inr rfl) (w_p1 (by decide) (Or.inr rfl) (w_p1 (by decide) (Or.inr rfl) (w_p1 (by decide) (Or.inr rfl) e3866))))))), (w_p1 (by decide) (Or.inr rfl) (w_p1 (by decide) (Or.inr rfl) (w_p1 (by decide) (Or.inr rfl) (w_p1 (by decide) (Or.inr rfl) (w_p1 (by decide) (Or.inr rfl) (w_p1 (by decide) (Or.inr rfl) (w_p1 (by decide) (Or.inr rfl) e3867))))))), (w_p1 (by decide) (Or.inr rfl) (w_p1 (by decide) (Or.inr rfl) (w_p1 (by decide) (Or.inr rfl) (w_p1 (by decide) (Or.inr rfl) (w_p1 (by decide) (Or.inr rfl) (w_p1 (by decide) (Or.inr rfl) (w_p1 (by decide) (Or.inr rfl) e3868))))))), (w_e1 _ _ _), by omega⟩ ⟨by omega, by omega⟩
              · have c4012_ : v4009.toInt = 0 := en_j_ne_f c4012
                refine At.enter rfl ?_
                refine r_iconst 1 rfl ?_
                refine r_goto ?_
                refine At.enter rfl ?_
                refine r_istore _ rfl ?_
                refine Ar.fall 169 rfl ?_
                refine At.enter rfl ?_
                refine r_iload (w_e1 _ _ _) ?_
                refine r_ift (by decide) ?_
                refine At.enter rfl ?_
                refine r_aload_n (w_p1 (by decide) (Or.inr rfl) (w_p1 (by decide) (Or.inr rfl) (w_p1 (by decide) (Or.inr rfl) (w_p1 (by decide) (Or.inr rfl) (w_p1 (by decide) (Or.inr rfl) (w_p1 (by decide) (Or.inr rfl) e3866)))))) ?_
                refine r_iconst 1 rfl ?_
                refine q_putI (Sh.int hI4007.1 kx_188 rfl) rfl ?_
                have hI4021 := HI.wI0 hI4007 kx_188 rfl (p := 188) (b := 18) (v := 1) rfl
                have hF4022 := Fr.wI (p := 188) (b := 18) (v := 1) hF4011 rfl
                refine r_aload_n (w_p1 (by decide) (Or.inr rfl) (w_p1 (by decide) (Or.inr rfl) (w_p1 (by decide) (Or.inr rfl) (w_p1 (by decide) (Or.inr rfl) (w_p1 (by decide) (Or.inr rfl) (w_p1 (by decide) (Or.inr rfl) e3866)))))) ?_
                refine r_iload (w_p1 (by decide) (Or.inr rfl) (w_p1 (by decide) (Or.inr rfl) (w_p1 (by decide) (Or.inr rfl) (w_p1 (by decide) (Or.inr rfl) (w_e1 _ _ _))))) ?_
                refine r_iload (w_p1 (by decide) (Or.inr rfl) (w_p1 (by decide) (Or.inr rfl) (w_p1 (by decide) (Or.inr rfl) (w_p1 (by decide) (Or.inr rfl) (w_p1 (by decide) (Or.inr rfl) (w_e1 _ _ _)))))) ?_
                refine r_callV 212 rfl [.ref 188, .int v3878, .int v3877] [] (Nat.le_of_ble_eq_true rfl) rfl (T_X1_giveUp_188 _ hI4021 v3878 v3877 (by omega)) ?_
                rintro _ _ ⟨g4023, rfl, hI4024, hF4025, rfl⟩
                refine At.stn ?_
                have hF4028 := Fr.tr hF4022 hF4025 rfl rfl
                refine At.enter rfl ?_
                refine r_aload_n (w_p1 (by decide) (Or.inr rfl) (w_p1 (by decide) (Or.inr rfl) (w_p1 (by decide) (Or.inr rfl) (w_p1 (by decide) (Or.inr rfl) (w_p1 (by decide) (Or.inr rfl) (w_p1 (by decide) (Or.inr rfl) e3866)))))) ?_
                refine q_getR (Sh.ref hI4024.1 kx_188 rfl) ?_
                refine r_iload (w_p1 (by decide) (Or.inr rfl) (w_p1 (by decide) (Or.inr rfl) (w_p1 (by decide) (Or.inr rfl) (w_p1 (by decide) (Or.inr rfl) (w_p1 (by decide) (Or.inr rfl) (w_e1 _ _ _)))))) ?_
                refine r_dup2 ⟨rfl, rfl⟩ ?_
                obtain ⟨v4029, hv4029⟩ : ∃ v, eA g3860 194 v3877.toInt = v := ⟨_, rfl⟩
                refine q_iald (Sh.arr hI4024.1 ka_194) v3877.toInt rfl (by omega) v4029 ((eA_c ((hF4025.2.1 194 (by decide)).trans ((gA_sI).trans ((hF4008.2.1 194 (by decide)).trans (hF3889.2.1 194 (by decide)))))).trans hv4029) ?_
                refine r_iconst 1 rfl ?_
                refine q_isubO (fun v4030 _ => ?_)
                refine q_iast (Sh.arr hI4024.1 ka_194) (v3877.toInt) rfl (by omega) ?_
                have hI4031 := HI.wA0 hI4024 ka_194 (p := 194) rfl rfl (v3877.toInt) (v4030)
                have hF4032 := Fr.wA (p := 194) (j := v3877.toInt) (v := v4030) hF4028 rfl
                refine r_iload (w_p1 (by decide) (Or.inr rfl) (w_p1 (by decide) (Or.inr rfl) (w_e1 _ _ _))) ?_
                refine r_iff 228 rfl (by decide) ?_
                refine At.enter rfl ?_
                refine r_aload_n (w_p1 (by decide) (Or.inr rfl) (w_p1 (by decide) (Or.inr rfl) (w_p1 (by decide) (Or.inr rfl) (w_p1 (by decide) (Or.inr rfl) (w_p1 (by decide) (Or.inr rfl) (w_p1 (by decide) (Or.inr rfl) e3866)))))) ?_
                refine q_getR (Sh.ref hI4031.1 kx_188 rfl) ?_
                refine r_iload (w_p1 (by decide) (Or.inr rfl) (w_p1 (by decide) (Or.inr rfl) (w_p1 (by decide) (Or.inr rfl) (w_p1 (by decide) (Or.inr rfl) (w_p1 (by decide) (Or.inr rfl) (w_e1 _ _ _)))))) ?_
                refine r_iload_n (w_p1 (by decide) (Or.inr rfl) (w_p1 (by decide) (Or.inr rfl) (w_p1 (by decide) (Or.inr rfl) (w_p1 (by decide) (Or.inr rfl) (w_p1 (by decide) (Or.inr rfl) (w_p1 (by decide) (Or.inr rfl) e3867)))))) ?_
                refine q_iast (Sh.arr hI4031.1 ka_196) (v3877.toInt) rfl (by omega) ?_
                have hI4033 := HI.wA0 hI4031 ka_196 (p := 196) rfl rfl (v3877.toInt) (a1)
                have hF4034 := Fr.wA (p := 196) (j := v3877.toInt) (v := a1) hF4032 rfl
                refine r_goto ?_
                refine At.enter rfl ?_
                refine q_iinc (w_p1 (by decide) (Or.inr rfl) (w_p1 (by decide) (Or.inr rfl) (w_p1 (by decide) (Or.inr rfl) (w_p1 (by decide) (Or.inr rfl) (w_p1 (by decide) (Or.inr rfl) (w_p1 (by decide) (Or.inr rfl) e3869)))))) (x3859.toInt + 1) rfl (by omega) (fun v4035 hv4035 => ?_)
                refine r_goto ?_
                exact ih3865 (8 - v4035.toInt) _ _ ⟨v4035, by first | rfl | omega, hI4033, hF4034, (w_p1 (by decide) (Or.inr rfl) (w_p1 (by decide) (Or.inr rfl) (w_p1 (by decide) (Or.inr rfl) (w_p1 (by decide) (Or.inr rfl) (w_p1 (by decide) (Or.inr rfl) (w_p1 (by decide) (Or.inr rfl) (w_p1 (by decide) (Or.inr rfl) e3866))))))), (w_p1 (by decide) (Or.inr rfl) (w_p1 (by decide) (Or.inr rfl) (w_p1 (by decide) (Or.inr rfl) (w_p1 (by decide) (Or.inr rfl) (w_p1 (by decide) (Or.inr rfl) (w_p1 (by decide) (Or.inr rfl) (w_p1 (by decide) (Or.inr rfl) e3867))))))), (w_p1 (by decide) (Or.inr rfl) (w_p1 (by decide) (Or.inr rfl) (w_p1 (by decide) (Or.inr rfl) (w_p1 (by decide) (Or.inr rfl) (w_p1 (by decide) (Or.inr rfl) (w_p1 (by decide) (Or.inr rfl) (w_p1 (by decide) (Or.inr rfl) e3868))))))), (w_e1 _ _ _), by omega⟩ ⟨by omega, by omega⟩

def F_X1_begin_188 : List (Nat × Nat) := []
def A_X1_begin_188 : List Nat := [194, 195, 196, 197, 198, 199, 200]
set_option maxRecDepth 100000 in
set_option maxHeartbeats 4000000 in
theorem T_X1_begin_188 (d : Nat) {N : Nat} {g0 : List en_E} (hI0 : HI g0) : Ev (d + 2) 23 [.ref 188] (g0, N) (fun w h' => ∃ g', h' = (g', N) ∧ HI g' ∧ Fr F_X1_begin_188 A_X1_begin_188 g0 g' ∧ w = none) := by
  have hF0 : Fr F_X1_begin_188 A_X1_begin_188 g0 g0 := Fr.rf
  refine Ev.mk rfl rfl ⟨Nat.le_of_ble_eq_true rfl, Or.inr (q_rc hI0.1 kx_188 rfl)⟩ ?_
  show At _ none _ _ (0, [(0, .ref 188)], [], (_, _)) _
  refine At.enter rfl ?_
  refine r_aload_n rfl ?_
  refine q_getR (Sh.ref hI0.1 kx_188 rfl) ?_
  refine r_iconst (-1) rfl ?_
  refine q_inlS 8 rfl [.ref 195, .int (-1)] [] (Nat.le_of_ble_eq_true rfl) rfl ?_
  refine Ev.mk rfl rfl ⟨Nat.le_of_ble_eq_true rfl, Or.inl rfl⟩ ?_
  show At _ none _ _ (0, [(0, .ref 195), (1, .int (-1))], [], (_, _)) _
  refine At.enter rfl ?_
  refine r_iconst 0 rfl ?_
  refine r_istore_n ([(2, .int 0), (0, .ref 195), (1, .int (-1))]) rfl ?_
  refine r_aload_n rfl ?_
  refine r_alen (Sh.arr hI0.1 ka_195).1 (by decide) 8 (by unfold en_sz; dsimp only; rw [(Sh.arr hI0.1 ka_195).2]; rfl) ?_
  refine r_istore_n ([(3, .int 8), (2, .int 0), (0, .ref 195), (1, .int (-1))]) rfl ?_
  refine Ar.fall 5 rfl ?_
  have z_11715 : (0 : Int32).toInt = 0 := rfl
  refine w_loopI (fun n_ l_ g_ => ∃ x11703 : Int32, n_ = 8 - x11703.toInt ∧ HI g_ ∧ Fr F_X1_begin_188 A_X1_begin_188 g0 g_ ∧ en_get 0 l_ = some (.ref 195) ∧ en_get 1 l_ = some (.int (-1)) ∧ en_get 2 l_ = some (.int x11703) ∧ en_get 3 l_ = some (.int 8) ∧ (0 ≤ x11703.toInt ∧ x11703.toInt ≤ 8)) ?_ (8 - 0) ⟨0, by first | rfl | omega, hI0, hF0, rfl, rfl, rfl, rfl, by decide⟩
  rintro n11708 l11707 g11704 ⟨x11703, hm11716, hI11705, hF11706, e11710, e11711, e11712, e11713, r11714⟩ ih11709
  refine At.enter rfl ?_
  refine r_iload_n e11712 ?_
  refine r_iload_n e11713 ?_
  refine r_ics 10 rfl (fun c11717 => ?_) (fun c11717 => ?_)
  · have c11717_ : x11703.toInt ≥ 8 := en_i_ge_t c11717
    refine At.enter rfl ?_
    refine q_vret ?_
    refine At.enter rfl ?_
    refine r_aload_n rfl ?_
    refine q_getR (Sh.ref hI11705.1 kx_188 rfl) ?_
    refine r_iconst (-1) rfl ?_
    refine q_inlS 16 rfl [.ref 196, .int (-1)] [] (Nat.le_of_ble_eq_true rfl) rfl ?_
    refine Ev.mk rfl rfl ⟨Nat.le_of_ble_eq_true rfl, Or.inl rfl⟩ ?_
    show At _ none _ _ (0, [(0, .ref 196), (1, .int (-1))], [], (_, _)) _
    refine At.enter rfl ?_
    refine r_iconst 0 rfl ?_
    refine r_istore_n ([(2, .int 0), (0, .ref 196), (1, .int (-1))]) rfl ?_
    refine r_aload_n rfl ?_
    refine r_alen (Sh.arr hI11705.1 ka_196).1 (by decide) 8 (by unfold en_sz; dsimp only; rw [(Sh.arr hI11705.1 ka_196).2]; rfl) ?_
    refine r_istore_n ([(3, .int 8), (2, .int 0), (0, .ref 196), (1, .int (-1))]) rfl ?_
    refine Ar.fall 5 rfl ?_
    have z_12896 : (0 : Int32).toInt = 0 := rfl
    refine w_loopI (fun n_ l_ g_ => ∃ x12884 : Int32, n_ = 8 - x12884.toInt ∧ HI g_ ∧ Fr F_X1_begin_188 A_X1_begin_188 g0 g_ ∧ en_get 0 l_ = some (.ref 196) ∧ en_get 1 l_ = some (.int (-1)) ∧ en_get 2 l_ = some (.int x12884) ∧ en_get 3 l_ = some (.int 8) ∧ (0 ≤ x12884.toInt ∧ x12884.toInt ≤ 8)) ?_ (8 - 0) ⟨0, by first | rfl | omega, hI11705, hF11706, rfl, rfl, rfl, rfl, by decide⟩
    rintro n12889 l12888 g12885 ⟨x12884, hm12897, hI12886, hF12887, e12891, e12892, e12893, e12894, r12895⟩ ih12890
    refine At.enter rfl ?_
    refine r_iload_n e12893 ?_
    refine r_iload_n e12894 ?_
    refine r_ics 10 rfl (fun c12898 => ?_) (fun c12898 => ?_)
    · have c12898_ : x12884.toInt ≥ 8 := en_i_ge_t c12898
      refine At.enter rfl ?_
      refine q_vret ?_
      refine At.enter rfl ?_
      refine r_aload_n rfl ?_
      refine q_getR (Sh.ref hI12886.1 kx_188 rfl) ?_
      refine r_iconst 0 rfl ?_
      refine q_inlS 24 rfl [.ref 198, .int 0] [] (Nat.le_of_ble_eq_true rfl) rfl ?_
      refine Ev.mk rfl rfl ⟨Nat.le_of_ble_eq_true rfl, Or.inl rfl⟩ ?_
      show At _ none _ _ (0, [(0, .ref 198), (1, .int 0)], [], (_, _)) _
      refine At.enter rfl ?_
      refine r_iconst 0 rfl ?_
      refine r_istore_n ([(2, .int 0), (0, .ref 198), (1, .int 0)]) rfl ?_
      refine r_aload_n rfl ?_
      refine r_alen (Sh.arr hI12886.1 ka_198).1 (by decide) 8 (by unfold en_sz; dsimp only; rw [(Sh.arr hI12886.1 ka_198).2]; rfl) ?_
      refine r_istore_n ([(3, .int 8), (2, .int 0), (0, .ref 198), (1, .int 0)]) rfl ?_
      refine Ar.fall 5 rfl ?_
      have z_13485 : (0 : Int32).toInt = 0 := rfl
      refine w_loopI (fun n_ l_ g_ => ∃ x13473 : Int32, n_ = 8 - x13473.toInt ∧ HI g_ ∧ Fr F_X1_begin_188 A_X1_begin_188 g0 g_ ∧ en_get 0 l_ = some (.ref 198) ∧ en_get 1 l_ = some (.int 0) ∧ en_get 2 l_ = some (.int x13473) ∧ en_get 3 l_ = some (.int 8) ∧ (0 ≤ x13473.toInt ∧ x13473.toInt ≤ 8)) ?_ (8 - 0) ⟨0, by first | rfl | omega, hI12886, hF12887, rfl, rfl, rfl, rfl, by decide⟩
      rintro n13478 l13477 g13474 ⟨x13473, hm13486, hI13475, hF13476, e13480, e13481, e13482, e13483, r13484⟩ ih13479
      refine At.enter rfl ?_
      refine r_iload_n e13482 ?_
      refine r_iload_n e13483 ?_
      refine r_ics 10 rfl (fun c13487 => ?_) (fun c13487 => ?_)
      · have c13487_ : x13473.toInt ≥ 8 := en_i_ge_t c13487
        refine At.enter rfl ?_
        refine q_vret ?_
        refine At.enter rfl ?_
        refine r_aload_n rfl ?_
        refine q_getR (Sh.ref hI13475.1 kx_188 rfl) ?_
        refine r_iconst 0 rfl ?_
        refine q_inlS 32 rfl [.ref 197, .int 0] [] (Nat.le_of_ble_eq_true rfl) rfl ?_
        refine Ev.mk rfl rfl ⟨Nat.le_of_ble_eq_true rfl, Or.inl rfl⟩ ?_
        show At _ none _ _ (0, [(0, .ref 197), (1, .int 0)], [], (_, _)) _
        refine At.enter rfl ?_
        refine r_iconst 0 rfl ?_
        refine r_istore_n ([(2, .int 0), (0, .ref 197), (1, .int 0)]) rfl ?_
        refine r_aload_n rfl ?_
        refine r_alen (Sh.arr hI13475.1 ka_197).1 (by decide) 8 (by unfold en_sz; dsimp only; rw [(Sh.arr hI13475.1 ka_197).2]; rfl) ?_
        refine r_istore_n ([(3, .int 8), (2, .int 0), (0, .ref 197), (1, .int 0)]) rfl ?_
        refine Ar.fall 5 rfl ?_
        have z_13778 : (0 : Int32).toInt = 0 := rfl
        refine w_loopI (fun n_ l_ g_ => ∃ x13766 : Int32, n_ = 8 - x13766.toInt ∧ HI g_ ∧ Fr F_X1_begin_188 A_X1_begin_188 g0 g_ ∧ en_get 0 l_ = some (.ref 197) ∧ en_get 1 l_ = some (.int 0) ∧ en_get 2 l_ = some (.int x13766) ∧ en_get 3 l_ = some (.int 8) ∧ (0 ≤ x13766.toInt ∧ x13766.toInt ≤ 8)) ?_ (8 - 0) ⟨0, by first | rfl | omega, hI13475, hF13476, rfl, rfl, rfl, rfl, by decide⟩
        rintro n13771 l13770 g13767 ⟨x13766, hm13779, hI13768, hF13769, e13773, e13774, e13775, e13776, r13777⟩ ih13772
        refine At.enter rfl ?_
        refine r_iload_n e13775 ?_
        refine r_iload_n e13776 ?_
        refine r_ics 10 rfl (fun c13780 => ?_) (fun c13780 => ?_)
        · have c13780_ : x13766.toInt ≥ 8 := en_i_ge_t c13780
          refine At.enter rfl ?_
          refine q_vret ?_
          refine At.enter rfl ?_
          refine r_aload_n rfl ?_
          refine q_getR (Sh.ref hI13768.1 kx_188 rfl) ?_
          refine r_iconst 0 rfl ?_
          refine q_inlS 40 rfl [.ref 199, .int 0] [] (Nat.le_of_ble_eq_true rfl) rfl ?_
          refine Ev.mk rfl rfl ⟨Nat.le_of_ble_eq_true rfl, Or.inl rfl⟩ ?_
          show At _ none _ _ (0, [(0, .ref 199), (1, .int 0)], [], (_, _)) _
          refine At.enter rfl ?_
          refine r_iconst 0 rfl ?_
          refine r_istore_n ([(2, .int 0), (0, .ref 199), (1, .int 0)]) rfl ?_
          refine r_aload_n rfl ?_
          refine r_alen (Sh.arr hI13768.1 ka_199).1 (by decide) 12 (by unfold en_sz; dsimp only; rw [(Sh.arr hI13768.1 ka_199).2]; rfl) ?_
          refine r_istore_n ([(3, .int 12), (2, .int 0), (0, .ref 199), (1, .int 0)]) rfl ?_
          refine Ar.fall 5 rfl ?_
          have z_13929 : (0 : Int32).toInt = 0 := rfl
          refine w_loopI (fun n_ l_ g_ => ∃ x13917 : Int32, n_ = 12 - x13917.toInt ∧ HI g_ ∧ Fr F_X1_begin_188 A_X1_begin_188 g0 g_ ∧ en_get 0 l_ = some (.ref 199) ∧ en_get 1 l_ = some (.int 0) ∧ en_get 2 l_ = some (.int x13917) ∧ en_get 3 l_ = some (.int 12) ∧ (0 ≤ x13917.toInt ∧ x13917.toInt ≤ 12)) ?_ (12 - 0) ⟨0, by first | rfl | omega, hI13768, hF13769, rfl, rfl, rfl, rfl, by decide⟩
          rintro n13922 l13921 g13918 ⟨x13917, hm13930, hI13919, hF13920, e13924, e13925, e13926, e13927, r13928⟩ ih13923
          refine At.enter rfl ?_
          refine r_iload_n e13926 ?_
          refine r_iload_n e13927 ?_
          refine r_ics 10 rfl (fun c13931 => ?_) (fun c13931 => ?_)
          · have c13931_ : x13917.toInt ≥ 12 := en_i_ge_t c13931
            refine At.enter rfl ?_
            refine q_vret ?_
            refine At.enter rfl ?_
            refine r_aload_n rfl ?_
            refine q_getR (Sh.ref hI13919.1 kx_188 rfl) ?_
            refine r_iconst 0 rfl ?_
            refine q_inlS 48 rfl [.ref 200, .int 0] [] (Nat.le_of_ble_eq_true rfl) rfl ?_
            refine Ev.mk rfl rfl ⟨Nat.le_of_ble_eq_true rfl, Or.inl rfl⟩ ?_
            show At _ none _ _ (0, [(0, .ref 200), (1, .int 0)], [], (_, _)) _
            refine At.enter rfl ?_
            refine r_iconst 0 rfl ?_
            refine r_istore_n ([(2, .int 0), (0, .ref 200), (1, .int 0)]) rfl ?_
            refine r_aload_n rfl ?_
            refine r_alen (Sh.arr hI13919.1 ka_200).1 (by decide) 12 (by unfold en_sz; dsimp only; rw [(Sh.arr hI13919.1 ka_200).2]; rfl) ?_
            refine r_istore_n ([(3, .int 12), (2, .int 0), (0, .ref 200), (1, .int 0)]) rfl ?_
            refine Ar.fall 5 rfl ?_
            have z_14003 : (0 : Int32).toInt = 0 := rfl
            refine w_loopI (fun n_ l_ g_ => ∃ x13991 : Int32, n_ = 12 - x13991.toInt ∧ HI g_ ∧ Fr F_X1_begin_188 A_X1_begin_188 g0 g_ ∧ en_get 0 l_ = some (.ref 200) ∧ en_get 1 l_ = some (.int 0) ∧ en_get 2 l_ = some (.int x13991) ∧ en_get 3 l_ = some (.int 12) ∧ (0 ≤ x13991.toInt ∧ x13991.toInt ≤ 12)) ?_ (12 - 0) ⟨0, by first | rfl | omega, hI13919, hF13920, rfl, rfl, rfl, rfl, by decide⟩
            rintro n13996 l13995 g13992 ⟨x13991, hm14004, hI13993, hF13994, e13998, e13999, e14000, e14001, r14002⟩ ih13997
            refine At.enter rfl ?_
            refine r_iload_n e14000 ?_
            refine r_iload_n e14001 ?_
            refine r_ics 10 rfl (fun c14005 => ?_) (fun c14005 => ?_)
            · have c14005_ : x13991.toInt ≥ 12 := en_i_ge_t c14005
              refine At.enter rfl ?_
              refine q_vret ?_
              refine At.enter rfl ?_
              refine r_aload_n rfl ?_
              refine q_getR (Sh.ref hI13993.1 kx_188 rfl) ?_
              refine r_iconst 0 rfl ?_
              refine r_aload_n rfl ?_
              refine q_getR (Sh.ref hI13993.1 kx_188 rfl) ?_
              refine r_iconst 0 rfl ?_
              refine r_bipush 8 rfl ?_
              have zv14006 : (0 : Int32).toInt = 0 := rfl
              have zv14007 : (0 : Int32).toInt = 0 := rfl
              have zv14008 : (8 : Int32).toInt = 8 := rfl
              refine q_cpy rfl (Nat.le_of_ble_eq_true rfl) (Sh.arr hI13993.1 ka_193) (Sh.arr hI13993.1 ka_194) ⟨by omega, by omega, by omega, by omega, by omega⟩ ?_
              have hI14009 := HI.cpy0 hI13993 ka_193 ka_194 rfl rfl ((0 : Int32).toInt.toNat) ((0 : Int32).toInt.toNat) ((8 : Int32).toInt.toNat) (by omega) (by omega)
              have hF14010 := Fr.cpy (p0 := 193) (p1 := 194) hF13994 rfl ((0 : Int32).toInt.toNat) ((0 : Int32).toInt.toNat) ((8 : Int32).toInt.toNat)
              refine r_vret ?_
              exact ⟨_, rfl, hI14009, hF14010, rfl⟩
            · have c14005_ : x13991.toInt < 12 := en_i_ge_f c14005
              refine At.enter rfl ?_
              refine r_aload_n e13998 ?_
              refine r_iload_n e14000 ?_
              refine r_iload_n e13999 ?_
              refine q_iast (Sh.arr hI13993.1 ka_200) (x13991.toInt) rfl (by omega) ?_
              have hI14011 := HI.wA0 hI13993 ka_200 (p := 200) rfl rfl (x13991.toInt) (0)
              have hF14012 := Fr.wA (p := 200) (j := x13991.toInt) (v := 0) hF13994 rfl
              refine q_iinc e14000 (x13991.toInt + 1) rfl (by omega) (fun v14013 hv14013 => ?_)
              refine r_goto ?_
              exact ih13997 (12 - v14013.toInt) _ _ ⟨v14013, by first | rfl | omega, hI14011, hF14012, (w_p1 (by decide) (Or.inr rfl) e13998), (w_p1 (by decide) (Or.inr rfl) e13999), (w_e1 _ _ _), (w_p1 (by decide) (Or.inr rfl) e14001), by omega⟩ ⟨by omega, by omega⟩
          · have c13931_ : x13917.toInt < 12 := en_i_ge_f c13931
            refine At.enter rfl ?_
            refine r_aload_n e13924 ?_
            refine r_iload_n e13926 ?_
            refine r_iload_n e13925 ?_
            refine q_iast (Sh.arr hI13919.1 ka_199) (x13917.toInt) rfl (by omega) ?_
            have hI14014 := HI.wA0 hI13919 ka_199 (p := 199) rfl rfl (x13917.toInt) (0)
            have hF14015 := Fr.wA (p := 199) (j := x13917.toInt) (v := 0) hF13920 rfl
            refine q_iinc e13926 (x13917.toInt + 1) rfl (by omega) (fun v14016 hv14016 => ?_)
            refine r_goto ?_
            exact ih13923 (12 - v14016.toInt) _ _ ⟨v14016, by first | rfl | omega, hI14014, hF14015, (w_p1 (by decide) (Or.inr rfl) e13924), (w_p1 (by decide) (Or.inr rfl) e13925), (w_e1 _ _ _), (w_p1 (by decide) (Or.inr rfl) e13927), by omega⟩ ⟨by omega, by omega⟩
        · have c13780_ : x13766.toInt < 8 := en_i_ge_f c13780
          refine At.enter rfl ?_
          refine r_aload_n e13773 ?_
          refine r_iload_n e13775 ?_
          refine r_iload_n e13774 ?_
          refine q_iast (Sh.arr hI13768.1 ka_197) (x13766.toInt) rfl (by omega) ?_
          have hI14017 := HI.wA0 hI13768 ka_197 (p := 197) rfl rfl (x13766.toInt) (0)
          have hF14018 := Fr.wA (p := 197) (j := x13766.toInt) (v := 0) hF13769 rfl
          refine q_iinc e13775 (x13766.toInt + 1) rfl (by omega) (fun v14019 hv14019 => ?_)
          refine r_goto ?_
          exact ih13772 (8 - v14019.toInt) _ _ ⟨v14019, by first | rfl | omega, hI14017, hF14018, (w_p1 (by decide) (Or.inr rfl) e13773), (w_p1 (by decide) (Or.inr rfl) e13774), (w_e1 _ _ _), (w_p1 (by decide) (Or.inr rfl) e13776), by omega⟩ ⟨by omega, by omega⟩
      · have c13487_ : x13473.toInt < 8 := en_i_ge_f c13487
        refine At.enter rfl ?_
        refine r_aload_n e13480 ?_
        refine r_iload_n e13482 ?_
        refine r_iload_n e13481 ?_
        refine q_iast (Sh.arr hI13475.1 ka_198) (x13473.toInt) rfl (by omega) ?_
        have hI14020 := HI.wA0 hI13475 ka_198 (p := 198) rfl rfl (x13473.toInt) (0)
        have hF14021 := Fr.wA (p := 198) (j := x13473.toInt) (v := 0) hF13476 rfl
        refine q_iinc e13482 (x13473.toInt + 1) rfl (by omega) (fun v14022 hv14022 => ?_)
        refine r_goto ?_
        exact ih13479 (8 - v14022.toInt) _ _ ⟨v14022, by first | rfl | omega, hI14020, hF14021, (w_p1 (by decide) (Or.inr rfl) e13480), (w_p1 (by decide) (Or.inr rfl) e13481), (w_e1 _ _ _), (w_p1 (by decide) (Or.inr rfl) e13483), by omega⟩ ⟨by omega, by omega⟩
    · have c12898_ : x12884.toInt < 8 := en_i_ge_f c12898
      refine At.enter rfl ?_
      refine r_aload_n e12891 ?_
      refine r_iload_n e12893 ?_
      refine r_iload_n e12892 ?_
      refine q_iast (Sh.arr hI12886.1 ka_196) (x12884.toInt) rfl (by omega) ?_
      have hI14023 := HI.wA0 hI12886 ka_196 (p := 196) rfl rfl (x12884.toInt) ((-1))
      have hF14024 := Fr.wA (p := 196) (j := x12884.toInt) (v := (-1)) hF12887 rfl
      refine q_iinc e12893 (x12884.toInt + 1) rfl (by omega) (fun v14025 hv14025 => ?_)
      refine r_goto ?_
      exact ih12890 (8 - v14025.toInt) _ _ ⟨v14025, by first | rfl | omega, hI14023, hF14024, (w_p1 (by decide) (Or.inr rfl) e12891), (w_p1 (by decide) (Or.inr rfl) e12892), (w_e1 _ _ _), (w_p1 (by decide) (Or.inr rfl) e12894), by omega⟩ ⟨by omega, by omega⟩
  · have c11717_ : x11703.toInt < 8 := en_i_ge_f c11717
    refine At.enter rfl ?_
    refine r_aload_n e11710 ?_
    refine r_iload_n e11712 ?_
    refine r_iload_n e11711 ?_
    refine q_iast (Sh.arr hI11705.1 ka_195) (x11703.toInt) rfl (by omega) ?_
    have hI14026 := HI.wA0 hI11705 ka_195 (p := 195) rfl rfl (x11703.toInt) ((-1))
    have hF14027 := Fr.wA (p := 195) (j := x11703.toInt) (v := (-1)) hF11706 rfl
    refine q_iinc e11712 (x11703.toInt + 1) rfl (by omega) (fun v14028 hv14028 => ?_)
    refine r_goto ?_
    exact ih11709 (8 - v14028.toInt) _ _ ⟨v14028, by first | rfl | omega, hI14026, hF14027, (w_p1 (by decide) (Or.inr rfl) e11710), (w_p1 (by decide) (Or.inr rfl) e11711), (w_e1 _ _ _), (w_p1 (by decide) (Or.inr rfl) e11713), by omega⟩ ⟨by omega, by omega⟩

def F_X1_runWhole_188 : List (Nat × Nat) := [(185, 3), (188, 16), (188, 18)]
def A_X1_runWhole_188 : List Nat := [194, 195, 196, 197, 198, 199, 200, 202, 203]
set_option maxRecDepth 100000 in
set_option maxHeartbeats 4000000 in
theorem T_X1_runWhole_188 (d : Nat) {N : Nat} {g0 : List en_E} (hI0 : HI g0) : Ev (d + 5) 18 [.ref 188] (g0, N) (fun w h' => ∃ g', h' = (g', N) ∧ HI g' ∧ Fr F_X1_runWhole_188 A_X1_runWhole_188 g0 g' ∧ w = none) := by
  have hF0 : Fr F_X1_runWhole_188 A_X1_runWhole_188 g0 g0 := Fr.rf
  refine Ev.mk rfl rfl ⟨Nat.le_of_ble_eq_true rfl, Or.inr (q_rc hI0.1 kx_188 rfl)⟩ ?_
  show At _ none _ _ (0, [(0, .ref 188)], [], (_, _)) _
  refine At.enter rfl ?_
  refine r_aload_n rfl ?_
  refine r_callV 4 rfl [.ref 188] [] (Nat.le_of_ble_eq_true rfl) rfl (T_X1_begin_188 _ hI0) ?_
  rintro _ _ ⟨g843, rfl, hI844, hF845, rfl⟩
  refine At.stn ?_
  have hF848 := Fr.tr hF0 hF845 rfl rfl
  refine At.enter rfl ?_
  refine r_iconst 0 rfl ?_
  refine r_istore_n ([(1, .int 0), (0, .ref 188)]) rfl ?_
  refine Ar.fall 6 rfl ?_
  have z_1237 : (0 : Int32).toInt = 0 := rfl
  refine w_loopI (fun n_ l_ g_ => ∃ x1227 : Int32, n_ = 100 - x1227.toInt ∧ HI g_ ∧ Fr F_X1_runWhole_188 A_X1_runWhole_188 g0 g_ ∧ en_get 0 l_ = some (.ref 188) ∧ en_get 1 l_ = some (.int x1227) ∧ (0 ≤ x1227.toInt ∧ x1227.toInt ≤ 100)) ?_ (100 - 0) ⟨0, by first | rfl | omega, hI844, hF848, rfl, rfl, by decide⟩
  rintro n1232 l1231 g1228 ⟨x1227, hm1238, hI1229, hF1230, e1234, e1235, r1236⟩ ih1233
  refine At.enter rfl ?_
  refine r_iload_n e1235 ?_
  refine r_bipush 100 rfl ?_
  refine r_ics 12 rfl (fun c1239 => ?_) (fun c1239 => ?_)
  · have c1239_ : x1227.toInt ≥ 100 := en_i_ge_t c1239
    refine At.enter rfl ?_
    refine r_vret ?_
    exact ⟨_, rfl, hI1229, hF1230, rfl⟩
  · have c1239_ : x1227.toInt < 100 := en_i_ge_f c1239
    refine At.enter rfl ?_
    refine r_aload_n e1234 ?_
    refine r_iload_n e1235 ?_
    refine r_callV 17 rfl [.ref 188, .int x1227] [] (Nat.le_of_ble_eq_true rfl) rfl (T_X1_arrive_188 _ hI1229 x1227) ?_
    rintro _ _ ⟨g1240, rfl, hI1241, hF1242, rfl⟩
    refine At.stn ?_
    have hF1245 := Fr.tr hF1230 hF1242 rfl rfl
    refine At.enter rfl ?_
    refine r_aload_n e1234 ?_
    refine r_iload_n e1235 ?_
    refine r_callV 22 rfl [.ref 188, .int x1227] [] (Nat.le_of_ble_eq_true rfl) rfl (T_X1_lineUp_188 _ hI1241 x1227) ?_
    rintro _ _ ⟨g1246, rfl, hI1247, hF1248, rfl⟩
    refine At.stn ?_
    have hF1251 := Fr.tr hF1245 hF1248 rfl rfl
    refine At.enter rfl ?_
    refine r_aload_n e1234 ?_
    refine r_iload_n e1235 ?_
    refine r_callV 27 rfl [.ref 188, .int x1227] [] (Nat.le_of_ble_eq_true rfl) rfl (T_X1_goOn_188 _ hI1247 x1227) ?_
    rintro _ _ ⟨g1252, rfl, hI1253, hF1254, rfl⟩
    refine At.stn ?_
    have hF1257 := Fr.tr hF1251 hF1254 rfl rfl
    refine At.enter rfl ?_
    refine r_aload_n e1234 ?_
    refine q_getR (Sh.ref hI1253.1 kx_188 rfl) ?_
    refine r_iconst 0 rfl ?_
    refine r_aload_n e1234 ?_
    refine q_getR (Sh.ref hI1253.1 kx_188 rfl) ?_
    refine r_iload_n e1235 ?_
    refine r_bipush 8 rfl ?_
    refine q_imul (x1227.toInt * 8) rfl (by omega) (fun v1258 hv1258 => ?_)
    refine r_bipush 8 rfl ?_
    have zv1259 : (0 : Int32).toInt = 0 := rfl
    have zv1260 : (8 : Int32).toInt = 8 := rfl
    refine q_cpy rfl (Nat.le_of_ble_eq_true rfl) (Sh.arr hI1253.1 ka_195) (Sh.arr hI1253.1 ka_203) ⟨by omega, by omega, by omega, by omega, by omega⟩ ?_
    have hI1261 := HI.cpy0 hI1253 ka_195 ka_203 rfl rfl ((0 : Int32).toInt.toNat) ((v1258 : Int32).toInt.toNat) ((8 : Int32).toInt.toNat) (by omega) (by omega)
    have hF1262 := Fr.cpy (p0 := 195) (p1 := 203) hF1257 rfl ((0 : Int32).toInt.toNat) ((v1258 : Int32).toInt.toNat) ((8 : Int32).toInt.toNat)
    refine q_iinc e1235 (x1227.toInt + 1) rfl (by omega) (fun v1263 hv1263 => ?_)
    refine r_goto ?_
    exact ih1233 (100 - v1263.toInt) _ _ ⟨v1263, by first | rfl | omega, hI1261, hF1262, (w_p1 (by decide) (Or.inr rfl) e1234), (w_e1 _ _ _), by omega⟩ ⟨by omega, by omega⟩

def F_X1_comeByNoon_188 : List (Nat × Nat) := []
def A_X1_comeByNoon_188 : List Nat := []
set_option maxRecDepth 100000 in
set_option maxHeartbeats 4000000 in
theorem T_X1_comeByNoon_188 (d : Nat) {N : Nat} {g0 : List en_E} (hI0 : HI g0) : Ev (d + 1) 32 [.ref 188] (g0, N) (fun w h' => ∃ g', h' = (g', N) ∧ HI g' ∧ Fr F_X1_comeByNoon_188 A_X1_comeByNoon_188 g0 g' ∧ ∃ r : Int32, w = some (.int r) ∧ True) := by
  have hF0 : Fr F_X1_comeByNoon_188 A_X1_comeByNoon_188 g0 g0 := Fr.rf
  refine Ev.mk rfl rfl ⟨Nat.le_of_ble_eq_true rfl, Or.inr (q_rc hI0.1 kx_188 rfl)⟩ ?_
  show At _ none _ _ (0, [(0, .ref 188)], [], (_, _)) _
  refine At.enter rfl ?_
  refine r_iconst 0 rfl ?_
  refine r_istore_n ([(1, .int 0), (0, .ref 188)]) rfl ?_
  refine r_iconst 0 rfl ?_
  refine r_istore_n ([(2, .int 0), (1, .int 0), (0, .ref 188)]) rfl ?_
  refine Ar.fall 4 rfl ?_
  have z_1193 : (0 : Int32).toInt = 0 := rfl
  have z_1194 : (0 : Int32).toInt = 0 := rfl
  refine w_loopI (fun n_ l_ g_ => ∃ x1181 : Int32, ∃ x1182 : Int32, n_ = 8 - x1182.toInt ∧ HI g_ ∧ Fr F_X1_comeByNoon_188 A_X1_comeByNoon_188 g0 g_ ∧ en_get 0 l_ = some (.ref 188) ∧ en_get 1 l_ = some (.int x1181) ∧ en_get 2 l_ = some (.int x1182) ∧ (0 ≤ x1182.toInt ∧ x1182.toInt ≤ 8)) ?_ (8 - 0) ⟨0, 0, by first | rfl | omega, hI0, hF0, rfl, rfl, rfl, by decide⟩
  rintro n1187 l1186 g1183 ⟨x1181, x1182, hm1195, hI1184, hF1185, e1189, e1190, e1191, r1192⟩ ih1188
  refine At.enter rfl ?_
  refine r_iload_n e1191 ?_
  refine r_aload_n e1189 ?_
  refine q_getR (Sh.ref hI1184.1 kx_188 rfl) ?_
  obtain ⟨v1196, hv1196⟩ : ∃ v, gI g0 1 4 = v := ⟨_, rfl⟩
  have rv1196 := RgF.at hI0.2.1 (p := 1) (b := 4) rfl
  rw [hv1196] at rv1196
  dsimp only at rv1196
  refine q_getI (Sh.int hI1184.1 kx_1 rfl) v1196 ((hF1185.1 1 4 (by decide)).trans hv1196) ?_
  have bv1198 := q_bnd x1182
  have bv1199 := q_bnd v1196
  refine r_ics 15 rfl (fun c1197 => ?_) (fun c1197 => ?_)
  · have c1197_ : x1182.toInt ≥ v1196.toInt := en_i_ge_t c1197
    refine At.enter rfl ?_
    refine r_iload_n e1190 ?_
    refine r_ireti ?_
    exact ⟨_, rfl, hI1184, hF1185, _, rfl, trivial⟩
  · have c1197_ : x1182.toInt < v1196.toInt := en_i_ge_f c1197
    refine At.enter rfl ?_
    refine r_aload_n e1189 ?_
    refine q_getR (Sh.ref hI1184.1 kx_188 rfl) ?_
    refine r_iload_n e1191 ?_
    obtain ⟨v1200, hv1200⟩ : ∃ v, eA g0 196 x1182.toInt = v := ⟨_, rfl⟩
    refine q_iald (Sh.arr hI1184.1 ka_196) x1182.toInt rfl (by omega) v1200 ((eA_c (hF1185.2.1 196 (by decide))).trans hv1200) ?_
    refine r_iconst (-1) rfl ?_
    refine r_ics 25 rfl (fun c1201 => ?_) (fun c1201 => ?_)
    · have c1201_ : v1200.toInt = (-1) := en_i_eq_t c1201
      refine At.enter rfl ?_
      refine q_iinc e1191 (x1182.toInt + 1) rfl (by omega) (fun v1202 hv1202 => ?_)
      refine r_goto ?_
      have bv1203 := q_bnd x1181
      exact ih1188 (8 - v1202.toInt) _ _ ⟨x1181, v1202, by first | rfl | omega, hI1184, hF1185, (w_p1 (by decide) (Or.inr rfl) e1189), (w_p1 (by decide) (Or.inr rfl) e1190), (w_e1 _ _ _), by omega⟩ ⟨by omega, by omega⟩
    · have c1201_ : v1200.toInt ≠ (-1) := en_i_eq_f c1201
      refine At.enter rfl ?_
      refine r_aload_n e1189 ?_
      refine q_getR (Sh.ref hI1184.1 kx_188 rfl) ?_
      refine r_iload_n e1191 ?_
      refine q_iald (Sh.arr hI1184.1 ka_196) x1182.toInt rfl (by omega) v1200 ((eA_c (hF1185.2.1 196 (by decide))).trans hv1200) ?_
      refine r_aload_n e1189 ?_
      refine q_getR (Sh.ref hI1184.1 kx_188 rfl) ?_
      obtain ⟨v1204, hv1204⟩ : ∃ v, gI g0 1 10 = v := ⟨_, rfl⟩
      refine q_getI (Sh.int hI1184.1 kx_1 rfl) v1204 ((hF1185.1 1 10 (by decide)).trans hv1204) ?_
      have bv1206 := q_bnd v1200
      have bv1207 := q_bnd v1204
      refine r_ics 41 rfl (fun c1205 => ?_) (fun c1205 => ?_)
      · have c1205_ : v1200.toInt > v1204.toInt := en_i_gt_t c1205
        refine At.enter rfl ?_
        refine q_iinc e1191 (x1182.toInt + 1) rfl (by omega) (fun v1208 hv1208 => ?_)
        refine r_goto ?_
        have bv1209 := q_bnd x1181
        exact ih1188 (8 - v1208.toInt) _ _ ⟨x1181, v1208, by first | rfl | omega, hI1184, hF1185, (w_p1 (by decide) (Or.inr rfl) e1189), (w_p1 (by decide) (Or.inr rfl) e1190), (w_e1 _ _ _), by omega⟩ ⟨by omega, by omega⟩
      · have c1205_ : v1200.toInt ≤ v1204.toInt := en_i_gt_f c1205
        refine At.enter rfl ?_
        refine q_iincO e1190 (fun v1210 _ => ?_)
        refine Ar.fall 44 rfl ?_
        refine At.enter rfl ?_
        refine q_iinc (w_p1 (by decide) (Or.inr rfl) e1191) (x1182.toInt + 1) rfl (by omega) (fun v1211 hv1211 => ?_)
        refine r_goto ?_
        have bv1212 := q_bnd v1210
        exact ih1188 (8 - v1211.toInt) _ _ ⟨v1210, v1211, by first | rfl | omega, hI1184, hF1185, (w_p1 (by decide) (Or.inr rfl) (w_p1 (by decide) (Or.inr rfl) e1189)), (w_p1 (by decide) (Or.inr rfl) (w_e1 _ _ _)), (w_e1 _ _ _), by omega⟩ ⟨by omega, by omega⟩

def F_X1_failures_188 : List (Nat × Nat) := []
def A_X1_failures_188 : List Nat := []
set_option maxRecDepth 100000 in
set_option maxHeartbeats 4000000 in
theorem T_X1_failures_188 (d : Nat) {N : Nat} {g0 : List en_E} (hI0 : HI g0) : Ev (d + 1) 33 [.ref 188] (g0, N) (fun w h' => ∃ g', h' = (g', N) ∧ HI g' ∧ Fr F_X1_failures_188 A_X1_failures_188 g0 g' ∧ ∃ r : Int32, w = some (.int r) ∧ True) := by
  have hF0 : Fr F_X1_failures_188 A_X1_failures_188 g0 g0 := Fr.rf
  refine Ev.mk rfl rfl ⟨Nat.le_of_ble_eq_true rfl, Or.inr (q_rc hI0.1 kx_188 rfl)⟩ ?_
  show At _ none _ _ (0, [(0, .ref 188)], [], (_, _)) _
  refine At.enter rfl ?_
  refine r_iconst 0 rfl ?_
  refine r_istore_n ([(1, .int 0), (0, .ref 188)]) rfl ?_
  refine r_iconst 0 rfl ?_
  refine r_istore_n ([(2, .int 0), (1, .int 0), (0, .ref 188)]) rfl ?_
  refine Ar.fall 4 rfl ?_
  have z_853 : (0 : Int32).toInt = 0 := rfl
  have z_854 : (0 : Int32).toInt = 0 := rfl
  refine w_loopI (fun n_ l_ g_ => ∃ x841 : Int32, ∃ x842 : Int32, n_ = 8 - x842.toInt ∧ HI g_ ∧ Fr F_X1_failures_188 A_X1_failures_188 g0 g_ ∧ en_get 0 l_ = some (.ref 188) ∧ en_get 1 l_ = some (.int x841) ∧ en_get 2 l_ = some (.int x842) ∧ (0 ≤ x842.toInt ∧ x842.toInt ≤ 8)) ?_ (8 - 0) ⟨0, 0, by first | rfl | omega, hI0, hF0, rfl, rfl, rfl, by decide⟩
  rintro n847 l846 g843 ⟨x841, x842, hm855, hI844, hF845, e849, e850, e851, r852⟩ ih848
  refine At.enter rfl ?_
  refine r_iload_n e851 ?_
  refine r_aload_n e849 ?_
  refine q_getR (Sh.ref hI844.1 kx_188 rfl) ?_
  obtain ⟨v856, hv856⟩ : ∃ v, gI g0 1 4 = v := ⟨_, rfl⟩
  have rv856 := RgF.at hI0.2.1 (p := 1) (b := 4) rfl
  rw [hv856] at rv856
  dsimp only at rv856
  refine q_getI (Sh.int hI844.1 kx_1 rfl) v856 ((hF845.1 1 4 (by decide)).trans hv856) ?_
  have bv858 := q_bnd x842
  have bv859 := q_bnd v856
  refine r_ics 15 rfl (fun c857 => ?_) (fun c857 => ?_)
  · have c857_ : x842.toInt ≥ v856.toInt := en_i_ge_t c857
    refine At.enter rfl ?_
    refine r_iload_n e850 ?_
    refine r_ireti ?_
    exact ⟨_, rfl, hI844, hF845, _, rfl, trivial⟩
  · have c857_ : x842.toInt < v856.toInt := en_i_ge_f c857
    refine At.enter rfl ?_
    refine r_aload_n e849 ?_
    refine q_getR (Sh.ref hI844.1 kx_188 rfl) ?_
    refine r_iload_n e851 ?_
    obtain ⟨v860, hv860⟩ : ∃ v, eA g0 196 x842.toInt = v := ⟨_, rfl⟩
    refine q_iald (Sh.arr hI844.1 ka_196) x842.toInt rfl (by omega) v860 ((eA_c (hF845.2.1 196 (by decide))).trans hv860) ?_
    refine r_iconst (-1) rfl ?_
    refine r_ics 25 rfl (fun c861 => ?_) (fun c861 => ?_)
    · have c861_ : v860.toInt ≠ (-1) := en_i_ne_t c861
      refine At.enter rfl ?_
      refine q_iinc e851 (x842.toInt + 1) rfl (by omega) (fun v862 hv862 => ?_)
      refine r_goto ?_
      have bv863 := q_bnd x841
      exact ih848 (8 - v862.toInt) _ _ ⟨x841, v862, by first | rfl | omega, hI844, hF845, (w_p1 (by decide) (Or.inr rfl) e849), (w_p1 (by decide) (Or.inr rfl) e850), (w_e1 _ _ _), by omega⟩ ⟨by omega, by omega⟩
    · have c861_ : v860.toInt = (-1) := en_i_ne_f c861
      refine At.enter rfl ?_
      refine q_iincO e850 (fun v864 _ => ?_)
      refine Ar.fall 28 rfl ?_
      refine At.enter rfl ?_
      refine q_iinc (w_p1 (by decide) (Or.inr rfl) e851) (x842.toInt + 1) rfl (by omega) (fun v865 hv865 => ?_)
      refine r_goto ?_
      have bv866 := q_bnd v864
      exact ih848 (8 - v865.toInt) _ _ ⟨v864, v865, by first | rfl | omega, hI844, hF845, (w_p1 (by decide) (Or.inr rfl) (w_p1 (by decide) (Or.inr rfl) e849)), (w_p1 (by decide) (Or.inr rfl) (w_e1 _ _ _)), (w_e1 _ _ _), by omega⟩ ⟨by omega, by omega⟩

def F_X1_handsToWant_204 : List (Nat × Nat) := []
def A_X1_handsToWant_204 : List Nat := []
set_option maxRecDepth 100000 in
set_option maxHeartbeats 4000000 in
theorem T_X1_handsToWant_204 (d : Nat) {N : Nat} {g0 : List en_E} (hI0 : HI g0) (a1 : Int32) : Ev (d + 2) 17 [.ref 204, .int a1] (g0, N) (fun w h' => ∃ g', h' = (g', N) ∧ HI g' ∧ Fr F_X1_handsToWant_204 A_X1_handsToWant_204 g0 g' ∧ ∃ r : Int32, w = some (.int r) ∧ ((-1) ≤ r.toInt ∧ r.toInt ≤ 11)) := by
  have hF0 : Fr F_X1_handsToWant_204 A_X1_handsToWant_204 g0 g0 := Fr.rf
  refine Ev.mk rfl rfl ⟨Nat.le_of_ble_eq_true rfl, Or.inr (q_rc hI0.1 kx_204 rfl)⟩ ?_
  show At _ none _ _ (0, [(0, .ref 204), (1, .int a1)], [], (_, _)) _
  refine At.enter rfl ?_
  refine r_aload_n rfl ?_
  refine q_getR (Sh.ref hI0.1 kx_204 rfl) ?_
  refine r_iload_n rfl ?_
  refine r_iconst 1 rfl ?_
  refine r_callV 9 rfl [.ref 1, .int a1, .int 1] [] (Nat.le_of_ble_eq_true rfl) rfl (T_X0_about_1 _ hI0 a1 1) ?_
  rintro _ _ ⟨g291, rfl, hI292, hF293, v294, rfl, hr295⟩
  refine At.sti ?_
  have hF296 := Fr.tr hF0 hF293 rfl rfl
  refine At.enter rfl ?_
  refine r_istore_n ([(2, .int v294), (0, .ref 204), (1, .int a1)]) rfl ?_
  refine r_aload_n rfl ?_
  refine q_getR (Sh.ref hI292.1 kx_204 rfl) ?_
  refine r_iload_n rfl ?_
  refine r_iconst 2 rfl ?_
  refine r_callV 19 rfl [.ref 1, .int a1, .int 2] [] (Nat.le_of_ble_eq_true rfl) rfl (T_X0_about_1 _ hI292 a1 2) ?_
  rintro _ _ ⟨g297, rfl, hI298, hF299, v300, rfl, hr301⟩
  refine At.sti ?_
  have hF302 := Fr.tr hF296 hF299 rfl rfl
  refine At.enter rfl ?_
  refine r_istore_n ([(3, .int v300), (2, .int v294), (0, .ref 204), (1, .int a1)]) rfl ?_
  refine r_iconst 0 rfl ?_
  refine r_istore ([(4, .int 0), (3, .int v300), (2, .int v294), (0, .ref 204), (1, .int a1)]) rfl ?_
  refine Ar.fall 23 rfl ?_
  have z_425 : (0 : Int32).toInt = 0 := rfl
  refine w_loopI (fun n_ l_ g_ => ∃ x411 : Int32, ∃ x412 : Int32, n_ = 12 - x412.toInt ∧ HI g_ ∧ Fr F_X1_handsToWant_204 A_X1_handsToWant_204 g0 g_ ∧ en_get 0 l_ = some (.ref 204) ∧ en_get 1 l_ = some (.int a1) ∧ en_get 2 l_ = some (.int x411) ∧ en_get 3 l_ = some (.int v300) ∧ en_get 4 l_ = some (.int x412) ∧ (0 ≤ x412.toInt ∧ x412.toInt ≤ 12)) ?_ (12 - 0) ⟨v294, 0, by first | rfl | omega, hI298, hF302, rfl, rfl, rfl, rfl, rfl, by decide⟩
  rintro n417 l416 g413 ⟨x411, x412, hm426, hI414, hF415, e419, e420, e421, e422, e423, r424⟩ ih418
  refine At.enter rfl ?_
  refine r_iload e423 ?_
  refine r_bipush 12 rfl ?_
  refine r_ics 30 rfl (fun c427 => ?_) (fun c427 => ?_)
  · have c427_ : x412.toInt ≥ 12 := en_i_ge_t c427
    refine At.enter rfl ?_
    refine r_iconst (-1) rfl ?_
    refine r_ireti ?_
    exact ⟨_, rfl, hI414, hF415, _, rfl, by decide⟩
  · have c427_ : x412.toInt < 12 := en_i_ge_f c427
    refine At.enter rfl ?_
    refine r_aload_n e419 ?_
    refine q_getR (Sh.ref hI414.1 kx_204 rfl) ?_
    refine r_iload_n e421 ?_
    refine q_inlV 38 rfl [.ref 1, .int x411] [] (Nat.le_of_ble_eq_true rfl) rfl ?_
    refine Ev.mk rfl rfl ⟨Nat.le_of_ble_eq_true rfl, Or.inr (q_rc hI414.1 kx_1 rfl)⟩ ?_
    show At _ none _ _ (0, [(0, .ref 1), (1, .int x411)], [], (_, _)) _
    refine At.enter rfl ?_
    refine r_iload_n rfl ?_
    refine r_ifs 4 rfl (fun c428 => ?_) (fun c428 => ?_)
    · have c428_ : x411.toInt < 0 := en_k_lt_t c428
      refine At.enter rfl ?_
      refine r_iconst 0 rfl ?_
      refine Ar.fall 17 rfl ?_
      refine At.enter rfl ?_
      refine q_iretz (by decide) ?_
      refine At.enter rfl ?_
      refine r_ift (by decide) ?_
      refine At.enter rfl ?_
      refine r_iconst (-1) rfl ?_
      refine r_ireti ?_
      exact ⟨_, rfl, hI414, hF415, _, rfl, by decide⟩
    · have c428_ : x411.toInt ≥ 0 := en_k_lt_f c428
      refine At.enter rfl ?_
      refine r_iload_n rfl ?_
      refine r_aload_n rfl ?_
      obtain ⟨v429, hv429⟩ : ∃ v, gI g0 1 0 = v := ⟨_, rfl⟩
      have rv429 := RgF.at hI0.2.1 (p := 1) (b := 0) rfl
      rw [hv429] at rv429
      dsimp only at rv429
      refine q_getI (Sh.int hI414.1 kx_1 rfl) v429 ((hF415.1 1 0 (by decide)).trans hv429) ?_
      have bv431 := q_bnd x411
      have bv432 := q_bnd v429
      refine r_ics 12 rfl (fun c430 => ?_) (fun c430 => ?_)
      · have c430_ : x411.toInt ≥ v429.toInt := en_i_ge_t c430
        refine At.enter rfl ?_
        refine r_iconst 0 rfl ?_
        refine Ar.fall 17 rfl ?_
        refine At.enter rfl ?_
        refine q_iretz (by decide) ?_
        refine At.enter rfl ?_
        refine r_ift (by decide) ?_
        refine At.enter rfl ?_
        refine r_iconst (-1) rfl ?_
        refine r_ireti ?_
        exact ⟨_, rfl, hI414, hF415, _, rfl, by decide⟩
      · have c430_ : x411.toInt < v429.toInt := en_i_ge_f c430
        refine At.enter rfl ?_
        refine r_iconst 1 rfl ?_
        refine r_goto ?_
        refine At.enter rfl ?_
        refine q_iretz (by decide) ?_
        refine At.enter rfl ?_
        refine r_iff 41 rfl (by decide) ?_
        refine At.enter rfl ?_
        refine r_iload_n e421 ?_
        refine r_iload_n e422 ?_
        refine r_ics 46 rfl (fun c433 => ?_) (fun c433 => ?_)
        · have c433_ : x411.toInt ≠ v300.toInt := en_i_ne_t c433
          refine At.enter rfl ?_
          refine r_aload_n e419 ?_
          refine q_getR (Sh.ref hI414.1 kx_204 rfl) ?_
          refine r_iload_n e421 ?_
          obtain ⟨v434, hv434⟩ : ∃ v, eA g0 208 x411.toInt = v := ⟨_, rfl⟩
          refine q_iald (Sh.arr hI414.1 ka_208) x411.toInt rfl (by omega) v434 ((eA_c (hF415.2.1 208 (by decide))).trans hv434) ?_
          refine r_istore_n _ rfl ?_
          refine q_iinc (w_p1 (by decide) (Or.inr rfl) e423) (x412.toInt + 1) rfl (by omega) (fun v435 hv435 => ?_)
          refine r_goto ?_
          have bv436 := q_bnd v434
          exact ih418 (12 - v435.toInt) _ _ ⟨v434, v435, by first | rfl | omega, hI414, hF415, (w_p1 (by decide) (Or.inr rfl) (w_p1 (by decide) (Or.inr rfl) e419)), (w_p1 (by decide) (Or.inr rfl) (w_p1 (by decide) (Or.inr rfl) e420)), (w_p1 (by decide) (Or.inr rfl) (w_e1 _ _ _)), (w_p1 (by decide) (Or.inr rfl) (w_p1 (by decide) (Or.inr rfl) e422)), (w_e1 _ _ _), by omega⟩ ⟨by omega, by omega⟩
        · have c433_ : x411.toInt = v300.toInt := en_i_ne_f c433
          refine At.enter rfl ?_
          refine r_iload e423 ?_
          refine r_ireti ?_
          exact ⟨_, rfl, hI414, hF415, _, rfl, by omega⟩

def F_X1_layOut_204 : List (Nat × Nat) := []
def A_X1_layOut_204 : List Nat := [205, 206, 207, 208, 209]
set_option maxRecDepth 100000 in
set_option maxHeartbeats 4000000 in
theorem T_X1_layOut_204 (d : Nat) {N : Nat} {g0 : List en_E} (hI0 : HI g0) (a1 : Int32) : Ev (d + 4) 16 [.ref 204, .int a1] (g0, N) (fun w h' => ∃ g', h' = (g', N) ∧ HI g' ∧ Fr F_X1_layOut_204 A_X1_layOut_204 g0 g' ∧ w = none) := by
  have hF0 : Fr F_X1_layOut_204 A_X1_layOut_204 g0 g0 := Fr.rf
  refine Ev.mk rfl rfl ⟨Nat.le_of_ble_eq_true rfl, Or.inr (q_rc hI0.1 kx_204 rfl)⟩ ?_
  show At _ none _ _ (0, [(0, .ref 204), (1, .int a1)], [], (_, _)) _
  refine At.enter rfl ?_
  refine r_aload_n rfl ?_
  refine q_getR (Sh.ref hI0.1 kx_204 rfl) ?_
  refine q_getR (Sh.ref hI0.1 kx_1 rfl) ?_
  refine r_iconst 0 rfl ?_
  refine r_aload_n rfl ?_
  refine q_getR (Sh.ref hI0.1 kx_204 rfl) ?_
  refine r_iconst 0 rfl ?_
  refine r_bipush 12 rfl ?_
  have zv4243 : (0 : Int32).toInt = 0 := rfl
  have zv4244 : (0 : Int32).toInt = 0 := rfl
  have zv4245 : (12 : Int32).toInt = 12 := rfl
  refine q_cpy rfl (Nat.le_of_ble_eq_true rfl) (Sh.arr hI0.1 ka_3) (Sh.arr hI0.1 ka_205) ⟨by omega, by omega, by omega, by omega, by omega⟩ ?_
  have hI4246 := HI.cpy0 hI0 ka_3 ka_205 rfl rfl ((0 : Int32).toInt.toNat) ((0 : Int32).toInt.toNat) ((12 : Int32).toInt.toNat) (by omega) (by omega)
  have hF4247 := Fr.cpy (p0 := 3) (p1 := 205) hF0 rfl ((0 : Int32).toInt.toNat) ((0 : Int32).toInt.toNat) ((12 : Int32).toInt.toNat)
  refine r_aload_n rfl ?_
  refine q_getR (Sh.ref hI4246.1 kx_204 rfl) ?_
  refine q_getR (Sh.ref hI4246.1 kx_1 rfl) ?_
  refine r_iconst 0 rfl ?_
  refine r_aload_n rfl ?_
  refine q_getR (Sh.ref hI4246.1 kx_204 rfl) ?_
  refine r_iconst 0 rfl ?_
  refine r_bipush 12 rfl ?_
  have zv4248 : (0 : Int32).toInt = 0 := rfl
  have zv4249 : (0 : Int32).toInt = 0 := rfl
  have zv4250 : (12 : Int32).toInt = 12 := rfl
  refine q_cpy rfl (Nat.le_of_ble_eq_true rfl) (Sh.arr hI4246.1 ka_4) (Sh.arr hI4246.1 ka_206) ⟨by omega, by omega, by omega, by omega, by omega⟩ ?_
  have hI4251 := HI.cpy0 hI4246 ka_4 ka_206 rfl rfl ((0 : Int32).toInt.toNat) ((0 : Int32).toInt.toNat) ((12 : Int32).toInt.toNat) (by omega) (by omega)
  have hF4252 := Fr.cpy (p0 := 4) (p1 := 206) hF4247 rfl ((0 : Int32).toInt.toNat) ((0 : Int32).toInt.toNat) ((12 : Int32).toInt.toNat)
  refine r_iconst 0 rfl ?_
  refine r_istore_n ([(2, .int 0), (0, .ref 204), (1, .int a1)]) rfl ?_
  refine Ar.fall 38 rfl ?_
  have z_6154 : (0 : Int32).toInt = 0 := rfl
  refine w_loopI (fun n_ l_ g_ => ∃ x6143 : Int32, n_ = 12 - x6143.toInt ∧ HI g_ ∧ Fr F_X1_layOut_204 A_X1_layOut_204 g0 g_ ∧ en_get 0 l_ = some (.ref 204) ∧ en_get 1 l_ = some (.int a1) ∧ en_get 2 l_ = some (.int x6143) ∧ (0 ≤ x6143.toInt ∧ x6143.toInt ≤ 12)) ?_ (12 - 0) ⟨0, by first | rfl | omega, hI4251, hF4252, rfl, rfl, rfl, by decide⟩
  rintro n6148 l6147 g6144 ⟨x6143, hm6155, hI6145, hF6146, e6150, e6151, e6152, r6153⟩ ih6149
  refine At.enter rfl ?_
  refine r_iload_n e6152 ?_
  refine r_aload_n e6150 ?_
  refine q_getR (Sh.ref hI6145.1 kx_204 rfl) ?_
  obtain ⟨v6156, hv6156⟩ : ∃ v, gI g0 1 0 = v := ⟨_, rfl⟩
  have rv6156 := RgF.at hI0.2.1 (p := 1) (b := 0) rfl
  rw [hv6156] at rv6156
  dsimp only at rv6156
  refine q_getI (Sh.int hI6145.1 kx_1 rfl) v6156 ((hF6146.1 1 0 (by decide)).trans hv6156) ?_
  have bv6158 := q_bnd x6143
  have bv6159 := q_bnd v6156
  refine r_ics 49 rfl (fun c6157 => ?_) (fun c6157 => ?_)
  · have c6157_ : x6143.toInt ≥ v6156.toInt := en_i_ge_t c6157
    refine At.enter rfl ?_
    refine r_iconst 0 rfl ?_
    refine r_istore_n _ rfl ?_
    refine Ar.fall 72 rfl ?_
    have z_6332 : (0 : Int32).toInt = 0 := rfl
    refine w_loopI (fun n_ l_ g_ => ∃ x6321 : Int32, n_ = 8 - x6321.toInt ∧ HI g_ ∧ Fr F_X1_layOut_204 A_X1_layOut_204 g0 g_ ∧ en_get 0 l_ = some (.ref 204) ∧ en_get 1 l_ = some (.int a1) ∧ en_get 2 l_ = some (.int x6321) ∧ (0 ≤ x6321.toInt ∧ x6321.toInt ≤ 8)) ?_ (8 - 0) ⟨0, by first | rfl | omega, hI6145, hF6146, (w_p1 (by decide) (Or.inr rfl) e6150), (w_p1 (by decide) (Or.inr rfl) e6151), (w_e1 _ _ _), by decide⟩
    rintro n6326 l6325 g6322 ⟨x6321, hm6333, hI6323, hF6324, e6328, e6329, e6330, r6331⟩ ih6327
    refine At.enter rfl ?_
    refine r_iload_n e6330 ?_
    refine r_aload_n e6328 ?_
    refine q_getR (Sh.ref hI6323.1 kx_204 rfl) ?_
    obtain ⟨v6334, hv6334⟩ : ∃ v, gI g0 1 4 = v := ⟨_, rfl⟩
    have rv6334 := RgF.at hI0.2.1 (p := 1) (b := 4) rfl
    rw [hv6334] at rv6334
    dsimp only at rv6334
    refine q_getI (Sh.int hI6323.1 kx_1 rfl) v6334 ((hF6324.1 1 4 (by decide)).trans hv6334) ?_
    have bv6336 := q_bnd x6321
    have bv6337 := q_bnd v6334
    refine r_ics 83 rfl (fun c6335 => ?_) (fun c6335 => ?_)
    · have c6335_ : x6321.toInt ≥ v6334.toInt := en_i_ge_t c6335
      refine At.enter rfl ?_
      refine r_vret ?_
      exact ⟨_, rfl, hI6323, hF6324, rfl⟩
    · have c6335_ : x6321.toInt < v6334.toInt := en_i_ge_f c6335
      refine At.enter rfl ?_
      refine r_aload_n e6328 ?_
      refine q_getR (Sh.ref hI6323.1 kx_204 rfl) ?_
      refine r_iload_n e6330 ?_
      refine r_aload_n e6328 ?_
      refine q_getR (Sh.ref hI6323.1 kx_204 rfl) ?_
      refine r_iload_n e6330 ?_
      refine r_iconst 3 rfl ?_
      refine r_callV 97 rfl [.ref 1, .int x6321, .int 3] [.int x6321, .ref 207] (Nat.le_of_ble_eq_true rfl) rfl (T_X0_about_1 _ hI6323 x6321 3) ?_
      rintro _ _ ⟨g6338, rfl, hI6339, hF6340, v6341, rfl, hr6342⟩
      refine At.sti ?_
      have hF6343 := Fr.tr hF6324 hF6340 rfl rfl
      refine At.enter rfl ?_
      refine q_iast (Sh.arr hI6339.1 ka_207) (x6321.toInt) rfl (by omega) ?_
      have hI6344 := HI.wA0 hI6339 ka_207 (p := 207) rfl rfl (x6321.toInt) (v6341)
      have hF6345 := Fr.wA (p := 207) (j := x6321.toInt) (v := v6341) hF6343 rfl
      refine r_aload_n e6328 ?_
      refine q_getR (Sh.ref hI6344.1 kx_204 rfl) ?_
      refine r_iload_n e6330 ?_
      refine r_aload_n e6328 ?_
      refine r_iload_n e6330 ?_
      refine r_callV 108 rfl [.ref 204, .int x6321] [.int x6321, .ref 209] (Nat.le_of_ble_eq_true rfl) rfl (T_X1_handsToWant_204 _ hI6344 x6321) ?_
      rintro _ _ ⟨g6346, rfl, hI6347, hF6348, v6349, rfl, hr6350⟩
      refine At.sti ?_
      have hF6351 := Fr.tr hF6345 hF6348 rfl rfl
      refine At.enter rfl ?_
      refine q_iast (Sh.arr hI6347.1 ka_209) (x6321.toInt) rfl (by omega) ?_
      have hI6352 := HI.wA0 hI6347 ka_209 (p := 209) rfl rfl (x6321.toInt) (v6349)
      have hF6353 := Fr.wA (p := 209) (j := x6321.toInt) (v := v6349) hF6351 rfl
      refine q_iinc e6330 (x6321.toInt + 1) rfl (by omega) (fun v6354 hv6354 => ?_)
      refine r_goto ?_
      exact ih6327 (8 - v6354.toInt) _ _ ⟨v6354, by first | rfl | omega, hI6352, hF6353, (w_p1 (by decide) (Or.inr rfl) e6328), (w_p1 (by decide) (Or.inr rfl) e6329), (w_e1 _ _ _), by omega⟩ ⟨by omega, by omega⟩
  · have c6157_ : x6143.toInt < v6156.toInt := en_i_ge_f c6157
    refine At.enter rfl ?_
    refine r_aload_n e6150 ?_
    refine q_getR (Sh.ref hI6145.1 kx_204 rfl) ?_
    refine r_iload_n e6152 ?_
    refine r_aload_n e6150 ?_
    refine q_getR (Sh.ref hI6145.1 kx_204 rfl) ?_
    refine r_iload_n e6152 ?_
    refine r_iload_n e6151 ?_
    refine r_callV 63 rfl [.ref 1, .int x6143, .int a1] [.int x6143, .ref 208] (Nat.le_of_ble_eq_true rfl) rfl (T_X0_nextPast_1 _ hI6145 x6143 a1) ?_
    rintro _ _ ⟨g6355, rfl, hI6356, hF6357, v6358, rfl, hr6359⟩
    refine At.sti ?_
    have hF6360 := Fr.tr hF6146 hF6357 rfl rfl
    refine At.enter rfl ?_
    refine q_iast (Sh.arr hI6356.1 ka_208) (x6143.toInt) rfl (by omega) ?_
    have hI6361 := HI.wA0 hI6356 ka_208 (p := 208) rfl rfl (x6143.toInt) (v6358)
    have hF6362 := Fr.wA (p := 208) (j := x6143.toInt) (v := v6358) hF6360 rfl
    refine q_iinc e6152 (x6143.toInt + 1) rfl (by omega) (fun v6363 hv6363 => ?_)
    refine r_goto ?_
    exact ih6149 (12 - v6363.toInt) _ _ ⟨v6363, by first | rfl | omega, hI6361, hF6362, (w_p1 (by decide) (Or.inr rfl) e6150), (w_p1 (by decide) (Or.inr rfl) e6151), (w_e1 _ _ _), by omega⟩ ⟨by omega, by omega⟩

def F_X1_canHold_204 : List (Nat × Nat) := []
def A_X1_canHold_204 : List Nat := []
set_option maxRecDepth 100000 in
set_option maxHeartbeats 4000000 in
theorem T_X1_canHold_204 (d : Nat) {N : Nat} {g0 : List en_E} (hI0 : HI g0) (a1 : Int32) (a2 : Int32) : Ev (d + 2) 26 [.ref 204, .int a1, .int a2] (g0, N) (fun w h' => ∃ g', h' = (g', N) ∧ HI g' ∧ Fr F_X1_canHold_204 A_X1_canHold_204 g0 g' ∧ ∃ r : Int32, w = some (.int r) ∧ (0 ≤ r.toInt ∧ r.toInt ≤ 1)) := by
  have hF0 : Fr F_X1_canHold_204 A_X1_canHold_204 g0 g0 := Fr.rf
  refine Ev.mk rfl rfl ⟨Nat.le_of_ble_eq_true rfl, Or.inr (q_rc hI0.1 kx_204 rfl)⟩ ?_
  show At _ none _ _ (0, [(0, .ref 204), (1, .int a1), (2, .int a2)], [], (_, _)) _
  refine At.enter rfl ?_
  refine r_aload_n rfl ?_
  refine q_getR (Sh.ref hI0.1 kx_204 rfl) ?_
  refine r_iload_n rfl ?_
  refine q_inlV 8 rfl [.ref 1, .int a1] [] (Nat.le_of_ble_eq_true rfl) rfl ?_
  refine Ev.mk rfl rfl ⟨Nat.le_of_ble_eq_true rfl, Or.inr (q_rc hI0.1 kx_1 rfl)⟩ ?_
  show At _ none _ _ (0, [(0, .ref 1), (1, .int a1)], [], (_, _)) _
  refine At.enter rfl ?_
  refine r_iload_n rfl ?_
  refine r_ifs 4 rfl (fun c45 => ?_) (fun c45 => ?_)
  · have c45_ : a1.toInt < 0 := en_k_lt_t c45
    refine At.enter rfl ?_
    refine r_iconst 0 rfl ?_
    refine Ar.fall 17 rfl ?_
    refine At.enter rfl ?_
    refine q_iretz (by decide) ?_
    refine At.enter rfl ?_
    refine r_ift (by decide) ?_
    refine At.enter rfl ?_
    refine r_iconst 0 rfl ?_
    refine Ar.fall 57 rfl ?_
    refine At.enter rfl ?_
    refine r_iretz (by decide) ?_
    exact ⟨_, rfl, hI0, hF0, _, rfl, by decide⟩
  · have c45_ : a1.toInt ≥ 0 := en_k_lt_f c45
    refine At.enter rfl ?_
    refine r_iload_n rfl ?_
    refine r_aload_n rfl ?_
    obtain ⟨v46, hv46⟩ : ∃ v, gI g0 1 0 = v := ⟨_, rfl⟩
    have rv46 := RgF.at hI0.2.1 (p := 1) (b := 0) rfl
    rw [hv46] at rv46
    dsimp only at rv46
    refine q_getI (Sh.int hI0.1 kx_1 rfl) v46 hv46 ?_
    have bv48 := q_bnd a1
    have bv49 := q_bnd v46
    refine r_ics 12 rfl (fun c47 => ?_) (fun c47 => ?_)
    · have c47_ : a1.toInt ≥ v46.toInt := en_i_ge_t c47
      refine At.enter rfl ?_
      refine r_iconst 0 rfl ?_
      refine Ar.fall 17 rfl ?_
      refine At.enter rfl ?_
      refine q_iretz (by decide) ?_
      refine At.enter rfl ?_
      refine r_ift (by decide) ?_
      refine At.enter rfl ?_
      refine r_iconst 0 rfl ?_
      refine Ar.fall 57 rfl ?_
      refine At.enter rfl ?_
      refine r_iretz (by decide) ?_
      exact ⟨_, rfl, hI0, hF0, _, rfl, by decide⟩
    · have c47_ : a1.toInt < v46.toInt := en_i_ge_f c47
      refine At.enter rfl ?_
      refine r_iconst 1 rfl ?_
      refine r_goto ?_
      refine At.enter rfl ?_
      refine q_iretz (by decide) ?_
      refine At.enter rfl ?_
      refine r_iff 11 rfl (by decide) ?_
      refine At.enter rfl ?_
      refine r_aload_n rfl ?_
      refine q_getR (Sh.ref hI0.1 kx_204 rfl) ?_
      refine r_iload_n rfl ?_
      obtain ⟨v50, hv50⟩ : ∃ v, eA g0 215 a1.toInt = v := ⟨_, rfl⟩
      refine q_iald (Sh.arr hI0.1 ka_215) a1.toInt rfl (by omega) v50 hv50 ?_
      refine r_aload_n rfl ?_
      refine q_getR (Sh.ref hI0.1 kx_204 rfl) ?_
      obtain ⟨v51, hv51⟩ : ∃ v, gI g0 1 11 = v := ⟨_, rfl⟩
      refine q_getI (Sh.int hI0.1 kx_1 rfl) v51 hv51 ?_
      have bv53 := q_bnd v50
      have bv54 := q_bnd v51
      refine r_ics 27 rfl (fun c52 => ?_) (fun c52 => ?_)
      · have c52_ : v50.toInt ≥ v51.toInt := en_i_ge_t c52
        refine At.enter rfl ?_
        refine r_iconst 0 rfl ?_
        refine Ar.fall 57 rfl ?_
        refine At.enter rfl ?_
        refine r_iretz (by decide) ?_
        exact ⟨_, rfl, hI0, hF0, _, rfl, by decide⟩
      · have c52_ : v50.toInt < v51.toInt := en_i_ge_f c52
        refine At.enter rfl ?_
        refine r_aload_n rfl ?_
        refine q_getR (Sh.ref hI0.1 kx_204 rfl) ?_
        refine r_iload_n rfl ?_
        obtain ⟨v55, hv55⟩ : ∃ v, eA g0 216 a1.toInt = v := ⟨_, rfl⟩
        refine q_iald (Sh.arr hI0.1 ka_216) a1.toInt rfl (by omega) v55 hv55 ?_
        refine r_aload_n rfl ?_
        refine q_getR (Sh.ref hI0.1 kx_204 rfl) ?_
        refine r_iload_n rfl ?_
        refine r_iconst 0 rfl ?_
        refine r_callV 42 rfl [.ref 1, .int a2, .int 0] [.int v55] (Nat.le_of_ble_eq_true rfl) rfl (T_X0_about_1 _ hI0 a2 0) ?_
        rintro _ _ ⟨g56, rfl, hI57, hF58, v59, rfl, hr60⟩
        refine At.sti ?_
        have hF61 := Fr.tr hF0 hF58 rfl rfl
        refine At.enter rfl ?_
        refine q_iaddO (fun v62 _ => ?_)
        refine r_aload_n rfl ?_
        refine q_getR (Sh.ref hI57.1 kx_204 rfl) ?_
        refine r_iload_n rfl ?_
        obtain ⟨v63, hv63⟩ : ∃ v, eA g0 205 a1.toInt = v := ⟨_, rfl⟩
        refine q_iald (Sh.arr hI57.1 ka_205) a1.toInt rfl (by omega) v63 ((eA_c (hF58.2.1 205 (by decide))).trans hv63) ?_
        have bv65 := q_bnd v62
        have bv66 := q_bnd v63
        refine r_ics 52 rfl (fun c64 => ?_) (fun c64 => ?_)
        · have c64_ : v62.toInt > v63.toInt := en_i_gt_t c64
          refine At.enter rfl ?_
          refine r_iconst 0 rfl ?_
          refine Ar.fall 57 rfl ?_
          refine At.enter rfl ?_
          refine r_iretz (by decide) ?_
          exact ⟨_, rfl, hI57, hF61, _, rfl, by decide⟩
        · have c64_ : v62.toInt ≤ v63.toInt := en_i_gt_f c64
          refine At.enter rfl ?_
          refine r_iconst 1 rfl ?_
          refine r_goto ?_
          refine At.enter rfl ?_
          refine r_iretz (by decide) ?_
          exact ⟨_, rfl, hI57, hF61, _, rfl, by decide⟩

def F_X1_take_204 : List (Nat × Nat) := [(204, 18)]
def A_X1_take_204 : List Nat := [211, 214, 215, 216]
set_option maxRecDepth 100000 in
set_option maxHeartbeats 4000000 in
theorem T_X1_take_204 (d : Nat) {N : Nat} {g0 : List en_E} (hI0 : HI g0) (a1 : Int32) (a2 : Int32) (h_a2 : 0 ≤ a2.toInt ∧ a2.toInt ≤ 7) : Ev (d + 2) 27 [.ref 204, .int a1, .int a2] (g0, N) (fun w h' => ∃ g', h' = (g', N) ∧ HI g' ∧ Fr F_X1_take_204 A_X1_take_204 g0 g' ∧ w = none) := by
  have hF0 : Fr F_X1_take_204 A_X1_take_204 g0 g0 := Fr.rf
  refine Ev.mk rfl rfl ⟨Nat.le_of_ble_eq_true rfl, Or.inr (q_rc hI0.1 kx_204 rfl)⟩ ?_
  show At _ none _ _ (0, [(0, .ref 204), (1, .int a1), (2, .int a2)], [], (_, _)) _
  refine At.enter rfl ?_
  refine r_aload_n rfl ?_
  refine q_getR (Sh.ref hI0.1 kx_204 rfl) ?_
  refine r_iload_n rfl ?_
  refine q_inlV 8 rfl [.ref 1, .int a1] [] (Nat.le_of_ble_eq_true rfl) rfl ?_
  refine Ev.mk rfl rfl ⟨Nat.le_of_ble_eq_true rfl, Or.inr (q_rc hI0.1 kx_1 rfl)⟩ ?_
  show At _ none _ _ (0, [(0, .ref 1), (1, .int a1)], [], (_, _)) _
  refine At.enter rfl ?_
  refine r_iload_n rfl ?_
  refine r_ifs 4 rfl (fun c51 => ?_) (fun c51 => ?_)
  · have c51_ : a1.toInt < 0 := en_k_lt_t c51
    refine At.enter rfl ?_
    refine r_iconst 0 rfl ?_
    refine Ar.fall 17 rfl ?_
    refine At.enter rfl ?_
    refine q_iretz (by decide) ?_
    refine At.enter rfl ?_
    refine r_ift (by decide) ?_
    refine At.enter rfl ?_
    refine r_vret ?_
    exact ⟨_, rfl, hI0, hF0, rfl⟩
  · have c51_ : a1.toInt ≥ 0 := en_k_lt_f c51
    refine At.enter rfl ?_
    refine r_iload_n rfl ?_
    refine r_aload_n rfl ?_
    obtain ⟨v52, hv52⟩ : ∃ v, gI g0 1 0 = v := ⟨_, rfl⟩
    have rv52 := RgF.at hI0.2.1 (p := 1) (b := 0) rfl
    rw [hv52] at rv52
    dsimp only at rv52
    refine q_getI (Sh.int hI0.1 kx_1 rfl) v52 hv52 ?_
    have bv54 := q_bnd a1
    have bv55 := q_bnd v52
    refine r_ics 12 rfl (fun c53 => ?_) (fun c53 => ?_)
    · have c53_ : a1.toInt ≥ v52.toInt := en_i_ge_t c53
      refine At.enter rfl ?_
      refine r_iconst 0 rfl ?_
      refine Ar.fall 17 rfl ?_
      refine At.enter rfl ?_
      refine q_iretz (by decide) ?_
      refine At.enter rfl ?_
      refine r_ift (by decide) ?_
      refine At.enter rfl ?_
      refine r_vret ?_
      exact ⟨_, rfl, hI0, hF0, rfl⟩
    · have c53_ : a1.toInt < v52.toInt := en_i_ge_f c53
      refine At.enter rfl ?_
      refine r_iconst 1 rfl ?_
      refine r_goto ?_
      refine At.enter rfl ?_
      refine q_iretz (by decide) ?_
      refine At.enter rfl ?_
      refine r_iff 11 rfl (by decide) ?_
      refine At.enter rfl ?_
      refine r_aload_n rfl ?_
      refine q_getR (Sh.ref hI0.1 kx_204 rfl) ?_
      refine r_iload_n rfl ?_
      refine r_iload_n rfl ?_
      refine q_iast (Sh.arr hI0.1 ka_211) (a2.toInt) rfl (by omega) ?_
      have hI56 := HI.wA0 hI0 ka_211 (p := 211) rfl rfl (a2.toInt) (a1)
      have hF57 := Fr.wA (p := 211) (j := a2.toInt) (v := a1) hF0 rfl
      refine r_aload_n rfl ?_
      refine q_getR (Sh.ref hI56.1 kx_204 rfl) ?_
      refine r_iload_n rfl ?_
      refine r_iconst 0 rfl ?_
      refine q_iast (Sh.arr hI56.1 ka_214) (a2.toInt) rfl (by omega) ?_
      have hI58 := HI.wA0 hI56 ka_214 (p := 214) rfl rfl (a2.toInt) (0)
      have hF59 := Fr.wA (p := 214) (j := a2.toInt) (v := 0) hF57 rfl
      refine r_aload_n rfl ?_
      refine r_iconst 1 rfl ?_
      refine q_putI (Sh.int hI58.1 kx_204 rfl) rfl ?_
      have hI60 := HI.wI0 hI58 kx_204 rfl (p := 204) (b := 18) (v := 1) rfl
      have hF61 := Fr.wI (p := 204) (b := 18) (v := 1) hF59 rfl
      refine r_aload_n rfl ?_
      refine q_getR (Sh.ref hI60.1 kx_204 rfl) ?_
      refine r_iload_n rfl ?_
      refine r_dup2 ⟨rfl, rfl⟩ ?_
      obtain ⟨v62, hv62⟩ : ∃ v, eA g0 215 a1.toInt = v := ⟨_, rfl⟩
      refine q_iald (Sh.arr hI60.1 ka_215) a1.toInt rfl (by omega) v62 ((eA_c ((gA_sI).trans ((gA_sA_ne (by decide)).trans (gA_sA_ne (by decide))))).trans hv62) ?_
      refine r_iconst 1 rfl ?_
      refine q_iaddO (fun v63 _ => ?_)
      refine q_iast (Sh.arr hI60.1 ka_215) (a1.toInt) rfl (by omega) ?_
      have hI64 := HI.wA0 hI60 ka_215 (p := 215) rfl rfl (a1.toInt) (v63)
      have hF65 := Fr.wA (p := 215) (j := a1.toInt) (v := v63) hF61 rfl
      refine r_aload_n rfl ?_
      refine q_getR (Sh.ref hI64.1 kx_204 rfl) ?_
      refine r_iload_n rfl ?_
      refine r_dup2 ⟨rfl, rfl⟩ ?_
      obtain ⟨v66, hv66⟩ : ∃ v, eA g0 216 a1.toInt = v := ⟨_, rfl⟩
      refine q_iald (Sh.arr hI64.1 ka_216) a1.toInt rfl (by omega) v66 ((eA_c ((gA_sA_ne (by decide)).trans ((gA_sI).trans ((gA_sA_ne (by decide)).trans (gA_sA_ne (by decide)))))).trans hv66) ?_
      refine r_aload_n rfl ?_
      refine q_getR (Sh.ref hI64.1 kx_204 rfl) ?_
      refine r_iload_n rfl ?_
      refine r_iconst 0 rfl ?_
      refine r_callV 56 rfl [.ref 1, .int a2, .int 0] [.int v66, .int a1, .ref 216] (Nat.le_of_ble_eq_true rfl) rfl (T_X0_about_1 _ hI64 a2 0) ?_
      rintro _ _ ⟨g67, rfl, hI68, hF69, v70, rfl, hr71⟩
      refine At.sti ?_
      have hF72 := Fr.tr hF65 hF69 rfl rfl
      refine At.enter rfl ?_
      refine q_iaddO (fun v73 _ => ?_)
      refine q_iast (Sh.arr hI68.1 ka_216) (a1.toInt) rfl (by omega) ?_
      have hI74 := HI.wA0 hI68 ka_216 (p := 216) rfl rfl (a1.toInt) (v73)
      have hF75 := Fr.wA (p := 216) (j := a1.toInt) (v := v73) hF72 rfl
      refine Ar.fall 58 rfl ?_
      refine At.enter rfl ?_
      refine r_vret ?_
      exact ⟨_, rfl, hI74, hF75, rfl⟩

def F_X1_giveUp_204 : List (Nat × Nat) := []
def A_X1_giveUp_204 : List Nat := [211, 215, 216]
set_option maxRecDepth 100000 in
set_option maxHeartbeats 4000000 in
theorem T_X1_giveUp_204 (d : Nat) {N : Nat} {g0 : List en_E} (hI0 : HI g0) (a1 : Int32) (a2 : Int32) (h_a2 : 0 ≤ a2.toInt ∧ a2.toInt ≤ 7) : Ev (d + 2) 28 [.ref 204, .int a1, .int a2] (g0, N) (fun w h' => ∃ g', h' = (g', N) ∧ HI g' ∧ Fr F_X1_giveUp_204 A_X1_giveUp_204 g0 g' ∧ w = none) := by
  have hF0 : Fr F_X1_giveUp_204 A_X1_giveUp_204 g0 g0 := Fr.rf
  refine Ev.mk rfl rfl ⟨Nat.le_of_ble_eq_true rfl, Or.inr (q_rc hI0.1 kx_204 rfl)⟩ ?_
  show At _ none _ _ (0, [(0, .ref 204), (1, .int a1), (2, .int a2)], [], (_, _)) _
  refine At.enter rfl ?_
  refine r_aload_n rfl ?_
  refine q_getR (Sh.ref hI0.1 kx_204 rfl) ?_
  refine r_iload_n rfl ?_
  refine q_inlV 8 rfl [.ref 1, .int a1] [] (Nat.le_of_ble_eq_true rfl) rfl ?_
  refine Ev.mk rfl rfl ⟨Nat.le_of_ble_eq_true rfl, Or.inr (q_rc hI0.1 kx_1 rfl)⟩ ?_
  show At _ none _ _ (0, [(0, .ref 1), (1, .int a1)], [], (_, _)) _
  refine At.enter rfl ?_
  refine r_iload_n rfl ?_
  refine r_ifs 4 rfl (fun c43 => ?_) (fun c43 => ?_)
  · have c43_ : a1.toInt < 0 := en_k_lt_t c43
    refine At.enter rfl ?_
    refine r_iconst 0 rfl ?_
    refine Ar.fall 17 rfl ?_
    refine At.enter rfl ?_
    refine q_iretz (by decide) ?_
    refine At.enter rfl ?_
    refine r_ift (by decide) ?_
    refine At.enter rfl ?_
    refine r_vret ?_
    exact ⟨_, rfl, hI0, hF0, rfl⟩
  · have c43_ : a1.toInt ≥ 0 := en_k_lt_f c43
    refine At.enter rfl ?_
    refine r_iload_n rfl ?_
    refine r_aload_n rfl ?_
    obtain ⟨v44, hv44⟩ : ∃ v, gI g0 1 0 = v := ⟨_, rfl⟩
    have rv44 := RgF.at hI0.2.1 (p := 1) (b := 0) rfl
    rw [hv44] at rv44
    dsimp only at rv44
    refine q_getI (Sh.int hI0.1 kx_1 rfl) v44 hv44 ?_
    have bv46 := q_bnd a1
    have bv47 := q_bnd v44
    refine r_ics 12 rfl (fun c45 => ?_) (fun c45 => ?_)
    · have c45_ : a1.toInt ≥ v44.toInt := en_i_ge_t c45
      refine At.enter rfl ?_
      refine r_iconst 0 rfl ?_
      refine Ar.fall 17 rfl ?_
      refine At.enter rfl ?_
      refine q_iretz (by decide) ?_
      refine At.enter rfl ?_
      refine r_ift (by decide) ?_
      refine At.enter rfl ?_
      refine r_vret ?_
      exact ⟨_, rfl, hI0, hF0, rfl⟩
    · have c45_ : a1.toInt < v44.toInt := en_i_ge_f c45
      refine At.enter rfl ?_
      refine r_iconst 1 rfl ?_
      refine r_goto ?_
      refine At.enter rfl ?_
      refine q_iretz (by decide) ?_
      refine At.enter rfl ?_
      refine r_iff 11 rfl (by decide) ?_
      refine At.enter rfl ?_
      refine r_aload_n rfl ?_
      refine q_getR (Sh.ref hI0.1 kx_204 rfl) ?_
      refine r_iload_n rfl ?_
      refine r_iconst (-1) rfl ?_
      refine q_iast (Sh.arr hI0.1 ka_211) (a2.toInt) rfl (by omega) ?_
      have hI48 := HI.wA0 hI0 ka_211 (p := 211) rfl rfl (a2.toInt) ((-1))
      have hF49 := Fr.wA (p := 211) (j := a2.toInt) (v := (-1)) hF0 rfl
      refine r_aload_n rfl ?_
      refine q_getR (Sh.ref hI48.1 kx_204 rfl) ?_
      refine r_iload_n rfl ?_
      refine r_dup2 ⟨rfl, rfl⟩ ?_
      obtain ⟨v50, hv50⟩ : ∃ v, eA g0 215 a1.toInt = v := ⟨_, rfl⟩
      refine q_iald (Sh.arr hI48.1 ka_215) a1.toInt rfl (by omega) v50 ((eA_c (gA_sA_ne (by decide))).trans hv50) ?_
      refine r_iconst 1 rfl ?_
      refine q_isubO (fun v51 _ => ?_)
      refine q_iast (Sh.arr hI48.1 ka_215) (a1.toInt) rfl (by omega) ?_
      have hI52 := HI.wA0 hI48 ka_215 (p := 215) rfl rfl (a1.toInt) (v51)
      have hF53 := Fr.wA (p := 215) (j := a1.toInt) (v := v51) hF49 rfl
      refine r_aload_n rfl ?_
      refine q_getR (Sh.ref hI52.1 kx_204 rfl) ?_
      refine r_iload_n rfl ?_
      refine r_dup2 ⟨rfl, rfl⟩ ?_
      obtain ⟨v54, hv54⟩ : ∃ v, eA g0 216 a1.toInt = v := ⟨_, rfl⟩
      refine q_iald (Sh.arr hI52.1 ka_216) a1.toInt rfl (by omega) v54 ((eA_c ((gA_sA_ne (by decide)).trans (gA_sA_ne (by decide)))).trans hv54) ?_
      refine r_aload_n rfl ?_
      refine q_getR (Sh.ref hI52.1 kx_204 rfl) ?_
      refine r_iload_n rfl ?_
      refine r_iconst 0 rfl ?_
      refine r_callV 44 rfl [.ref 1, .int a2, .int 0] [.int v54, .int a1, .ref 216] (Nat.le_of_ble_eq_true rfl) rfl (T_X0_about_1 _ hI52 a2 0) ?_
      rintro _ _ ⟨g55, rfl, hI56, hF57, v58, rfl, hr59⟩
      refine At.sti ?_
      have hF60 := Fr.tr hF53 hF57 rfl rfl
      refine At.enter rfl ?_
      refine q_isubO (fun v61 _ => ?_)
      refine q_iast (Sh.arr hI56.1 ka_216) (a1.toInt) rfl (by omega) ?_
      have hI62 := HI.wA0 hI56 ka_216 (p := 216) rfl rfl (a1.toInt) (v61)
      have hF63 := Fr.wA (p := 216) (j := a1.toInt) (v := v61) hF60 rfl
      refine Ar.fall 46 rfl ?_
      refine At.enter rfl ?_
      refine r_vret ?_
      exact ⟨_, rfl, hI62, hF63, rfl⟩
