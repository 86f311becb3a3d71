def F_X1_canHold_204 : List (Nat × Nat) := []
def A_X1_canHold_204 : List Nat := []
theorem ma_X0_about_1_205 : memA A_X0_about_1 205 = false := by decide
set_option maxRecDepth 100000 in
set_option maxHeartbeats 4000000 in
theorem T_X1_canHold_204 (d : Nat) {N : Nat} {g0 : List en_E} (hI0 : HI g0) (a1 : Int32) (a2 : Int32) : Ev (d + 2) 26 [.ref 204, .int a1, .int a2] (g0, N) (fun w h' => ∃ g', h' = (g', N) ∧ HI g' ∧ Fr F_X1_canHold_204 A_X1_canHold_204 g0 g' ∧ ∃ r : Int32, w = some (.int r) ∧ (0 ≤ r.toInt ∧ r.toInt ≤ 1)) := by
  have hF0 : Fr F_X1_canHold_204 A_X1_canHold_204 g0 g0 := Fr.rf
  refine Ev.mk rfl rfl ⟨Nat.le_of_ble_eq_true rfl, Or.inr (q_rc hI0.1 kx_204 rfl)⟩ ?_
  show At _ none _ _ (0, [(0, .ref 204), (1, .int a1), (2, .int a2)], [], (_, _)) _
  refine At.enter rfl ?_
  refine r_aload_n rfl ?_
  refine q_getR (Sh.ref hI0.1 kx_204 rfl) ?_
  refine r_iload_n rfl ?_
  refine q_inlV 8 rfl [.ref 1, .int a1] [] (Nat.le_of_ble_eq_true rfl) rfl ?_
  refine Ev.mk rfl rfl ⟨Nat.le_of_ble_eq_true rfl, Or.inr (q_rc hI0.1 kx_1 rfl)⟩ ?_
  show At _ none _ _ (0, [(0, .ref 1), (1, .int a1)], [], (_, _)) _
  refine At.enter rfl ?_
  refine r_iload_n rfl ?_
  refine r_ifs 4 rfl (fun c47 => ?_) (fun c47 => ?_)
  · have c47_ : a1.toInt < 0 := en_k_lt_t c47
    refine At.enter rfl ?_
    refine r_iconst 0 rfl ?_
    refine Ar.fall 17 rfl ?_
    refine At.enter rfl ?_
    refine q_iretz (by decide) ?_
    refine At.enter rfl ?_
    refine r_ift (by decide) ?_
    refine At.enter rfl ?_
    refine r_iconst 0 rfl ?_
    refine Ar.fall 57 rfl ?_
    refine At.enter rfl ?_
    refine r_iretz (by decide) ?_
    exact ⟨_, rfl, hI0, hF0, _, rfl, by decide⟩
  · have c47_ : a1.toInt ≥ 0 := en_k_lt_f c47
    refine At.enter rfl ?_
    refine r_iload_n rfl ?_
    refine r_aload_n rfl ?_
    obtain ⟨v48, hv48⟩ : ∃ v, gI g0 1 0 = v := ⟨_, rfl⟩
    have rv48 := RgF.at hI0.2.1 (p := 1) (b := 0) rfl
    rw [hv48] at rv48
    dsimp only at rv48
    refine q_getI (Sh.int hI0.1 kx_1 rfl) v48 hv48 ?_
    have bv50 := q_bnd a1
    have bv51 := q_bnd v48
    refine r_ics 12 rfl (fun c49 => ?_) (fun c49 => ?_)
    · have c49_ : a1.toInt ≥ v48.toInt := en_i_ge_t c49
      refine At.enter rfl ?_
      refine r_iconst 0 rfl ?_
      refine Ar.fall 17 rfl ?_
      refine At.enter rfl ?_
      refine q_iretz (by decide) ?_
      refine At.enter rfl ?_
      refine r_ift (by decide) ?_
      refine At.enter rfl ?_
      refine r_iconst 0 rfl ?_
      refine Ar.fall 57 rfl ?_
      refine At.enter rfl ?_
      refine r_iretz (by decide) ?_
      exact ⟨_, rfl, hI0, hF0, _, rfl, by decide⟩
    · have c49_ : a1.toInt < v48.toInt := en_i_ge_f c49
      refine At.enter rfl ?_
      refine r_iconst 1 rfl ?_
      refine r_goto ?_
      refine At.enter rfl ?_
      refine q_iretz (by decide) ?_
      refine At.enter rfl ?_
      refine r_iff 11 rfl (by decide) ?_
      refine At.enter rfl ?_
      refine r_aload_n rfl ?_
      refine q_getR (Sh.ref hI0.1 kx_204 rfl) ?_
      refine r_iload_n rfl ?_
      obtain ⟨v52, hv52⟩ : ∃ v, eA g0 215 a1.toInt = v := ⟨_, rfl⟩
      refine q_iald (Sh.arr hI0.1 ka_215) a1.toInt rfl (by omega) v52 hv52 ?_
      refine r_aload_n rfl ?_
      refine q_getR (Sh.ref hI0.1 kx_204 rfl) ?_
      obtain ⟨v53, hv53⟩ : ∃ v, gI g0 1 11 = v := ⟨_, rfl⟩
      refine q_getI (Sh.int hI0.1 kx_1 rfl) v53 hv53 ?_
      have bv55 := q_bnd v52
      have bv56 := q_bnd v53
      refine r_ics 27 rfl (fun c54 => ?_) (fun c54 => ?_)
      · have c54_ : v52.toInt ≥ v53.toInt := en_i_ge_t c54
        refine At.enter rfl ?_
        refine r_iconst 0 rfl ?_
        refine Ar.fall 57 rfl ?_
        refine At.enter rfl ?_
        refine r_iretz (by decide) ?_
        exact ⟨_, rfl, hI0, hF0, _, rfl, by decide⟩
      · have c54_ : v52.toInt < v53.toInt := en_i_ge_f c54
        refine At.enter rfl ?_
        refine r_aload_n rfl ?_
        refine q_getR (Sh.ref hI0.1 kx_204 rfl) ?_
        refine r_iload_n rfl ?_
        obtain ⟨v57, hv57⟩ : ∃ v, eA g0 216 a1.toInt = v := ⟨_, rfl⟩
        refine q_iald (Sh.arr hI0.1 ka_216) a1.toInt rfl (by omega) v57 hv57 ?_
        refine r_aload_n rfl ?_
        refine q_getR (Sh.ref hI0.1 kx_204 rfl) ?_
        refine r_iload_n rfl ?_
        refine r_iconst 0 rfl ?_
        refine r_callV 42 rfl [.ref 1, .int a2, .int 0] [.int v57] (Nat.le_of_ble_eq_true rfl) rfl (T_X0_about_1 _ hI0 a2 0) ?_
        rintro _ _ ⟨g58, rfl, hI59, hF60, v61, rfl, hr62⟩
        refine At.sti ?_
        have hF63 := Fr.tr hF0 hF60 rfl rfl
        have zv64 : (0 : Int32).toInt = 0 := rfl
        refine At.enter rfl ?_
        refine q_iaddO (fun v65 _ => ?_)
        refine r_aload_n rfl ?_
        refine q_getR (Sh.ref hI59.1 kx_204 rfl) ?_
        refine r_iload_n rfl ?_
        obtain ⟨v66, hv66⟩ : ∃ v, eA g0 205 a1.toInt = v := ⟨_, rfl⟩
        refine q_iald (Sh.arr hI59.1 ka_205) a1.toInt rfl (by omega) v66 ((eA_c (hF60.2.1 205 ma_X0_about_1_205)).trans hv66) ?_
        have bv68 := q_bnd v65
        have bv69 := q_bnd v66
        refine r_ics 52 rfl (fun c67 => ?_) (fun c67 => ?_)
        · have c67_ : v65.toInt > v66.toInt := en_i_gt_t c67
          refine At.enter rfl ?_
          refine r_iconst 0 rfl ?_
          refine Ar.fall 57 rfl ?_
          refine At.enter rfl ?_
          refine r_iretz (by decide) ?_
          exact ⟨_, rfl, hI59, hF63, _, rfl, by decide⟩
        · have c67_ : v65.toInt ≤ v66.toInt := en_i_gt_f c67
          refine At.enter rfl ?_
          refine r_iconst 1 rfl ?_
          refine r_goto ?_
          refine At.enter rfl ?_
          refine r_iretz (by decide) ?_
          exact ⟨_, rfl, hI59, hF63, _, rfl, by decide⟩

def F_X1_take_204 : List (Nat × Nat) := [(204, 18)]
def A_X1_take_204 : List Nat := [211, 214, 215, 216]
set_option maxRecDepth 100000 in
set_option maxHeartbeats 4000000 in
theorem T_X1_take_204 (d : Nat) {N : Nat} {g0 : List en_E} (hI0 : HI g0) (a1 : Int32) (a2 : Int32) (h_a2 : 0 ≤ a2.toInt ∧ a2.toInt ≤ 7) : Ev (d + 2) 27 [.ref 204, .int a1, .int a2] (g0, N) (fun w h' => ∃ g', h' = (g', N) ∧ HI g' ∧ Fr F_X1_take_204 A_X1_take_204 g0 g' ∧ w = none) := by
  have hF0 : Fr F_X1_take_204 A_X1_take_204 g0 g0 := Fr.rf
  refine Ev.mk rfl rfl ⟨Nat.le_of_ble_eq_true rfl, Or.inr (q_rc hI0.1 kx_204 rfl)⟩ ?_
  show At _ none _ _ (0, [(0, .ref 204), (1, .int a1), (2, .int a2)], [], (_, _)) _
  refine At.enter rfl ?_
  refine r_aload_n rfl ?_
  refine q_getR (Sh.ref hI0.1 kx_204 rfl) ?_
  refine r_iload_n rfl ?_
  refine q_inlV 8 rfl [.ref 1, .int a1] [] (Nat.le_of_ble_eq_true rfl) rfl ?_
  refine Ev.mk rfl rfl ⟨Nat.le_of_ble_eq_true rfl, Or.inr (q_rc hI0.1 kx_1 rfl)⟩ ?_
  show At _ none _ _ (0, [(0, .ref 1), (1, .int a1)], [], (_, _)) _
  refine At.enter rfl ?_
  refine r_iload_n rfl ?_
  refine r_ifs 4 rfl (fun c53 => ?_) (fun c53 => ?_)
  · have c53_ : a1.toInt < 0 := en_k_lt_t c53
    refine At.enter rfl ?_
    refine r_iconst 0 rfl ?_
    refine Ar.fall 17 rfl ?_
    refine At.enter rfl ?_
    refine q_iretz (by decide) ?_
    refine At.enter rfl ?_
    refine r_ift (by decide) ?_
    refine At.enter rfl ?_
    refine r_vret ?_
    exact ⟨_, rfl, hI0, hF0, rfl⟩
  · have c53_ : a1.toInt ≥ 0 := en_k_lt_f c53
    refine At.enter rfl ?_
    refine r_iload_n rfl ?_
    refine r_aload_n rfl ?_
    obtain ⟨v54, hv54⟩ : ∃ v, gI g0 1 0 = v := ⟨_, rfl⟩
    have rv54 := RgF.at hI0.2.1 (p := 1) (b := 0) rfl
    rw [hv54] at rv54
    dsimp only at rv54
    refine q_getI (Sh.int hI0.1 kx_1 rfl) v54 hv54 ?_
    have bv56 := q_bnd a1
    have bv57 := q_bnd v54
    refine r_ics 12 rfl (fun c55 => ?_) (fun c55 => ?_)
    · have c55_ : a1.toInt ≥ v54.toInt := en_i_ge_t c55
      refine At.enter rfl ?_
      refine r_iconst 0 rfl ?_
      refine Ar.fall 17 rfl ?_
      refine At.enter rfl ?_
      refine q_iretz (by decide) ?_
      refine At.enter rfl ?_
      refine r_ift (by decide) ?_
      refine At.enter rfl ?_
      refine r_vret ?_
      exact ⟨_, rfl, hI0, hF0, rfl⟩
    · have c55_ : a1.toInt < v54.toInt := en_i_ge_f c55
      refine At.enter rfl ?_
      refine r_iconst 1 rfl ?_
      refine r_goto ?_
      refine At.enter rfl ?_
      refine q_iretz (by decide) ?_
      refine At.enter rfl ?_
      refine r_iff 11 rfl (by decide) ?_
      refine At.enter rfl ?_
      refine r_aload_n rfl ?_
      refine q_getR (Sh.ref hI0.1 kx_204 rfl) ?_
      refine r_iload_n rfl ?_
      refine r_iload_n rfl ?_
      refine q_iast (Sh.arr hI0.1 ka_211) (a2.toInt) rfl (by omega) ?_
      have hI58 := HI.wA0 hI0 ka_211 (p := 211) rfl rfl (a2.toInt) (a1)
      have hF59 := Fr.wA (p := 211) (j := a2.toInt) (v := a1) hF0 rfl
      refine r_aload_n rfl ?_
      refine q_getR (Sh.ref hI58.1 kx_204 rfl) ?_
      refine r_iload_n rfl ?_
      refine r_iconst 0 rfl ?_
      refine q_iast (Sh.arr hI58.1 ka_214) (a2.toInt) rfl (by omega) ?_
      have hI60 := HI.wA0 hI58 ka_214 (p := 214) rfl rfl (a2.toInt) (0)
      have hF61 := Fr.wA (p := 214) (j := a2.toInt) (v := 0) hF59 rfl
      refine r_aload_n rfl ?_
      refine r_iconst 1 rfl ?_
      refine q_putI (Sh.int hI60.1 kx_204 rfl) rfl ?_
      have hI62 := HI.wI0 hI60 kx_204 rfl (p := 204) (b := 18) (v := 1) rfl
      have hF63 := Fr.wI (p := 204) (b := 18) (v := 1) hF61 rfl
      refine r_aload_n rfl ?_
      refine q_getR (Sh.ref hI62.1 kx_204 rfl) ?_
      refine r_iload_n rfl ?_
      refine r_dup2 ⟨rfl, rfl⟩ ?_
      obtain ⟨v64, hv64⟩ : ∃ v, eA g0 215 a1.toInt = v := ⟨_, rfl⟩
      refine q_iald (Sh.arr hI62.1 ka_215) a1.toInt rfl (by omega) v64 ((eA_c ((gA_sI).trans ((gA_sA_ne (by decide)).trans (gA_sA_ne (by decide))))).trans hv64) ?_
      refine r_iconst 1 rfl ?_
      refine q_iaddO (fun v65 _ => ?_)
      refine q_iast (Sh.arr hI62.1 ka_215) (a1.toInt) rfl (by omega) ?_
      have hI66 := HI.wA0 hI62 ka_215 (p := 215) rfl rfl (a1.toInt) (v65)
      have hF67 := Fr.wA (p := 215) (j := a1.toInt) (v := v65) hF63 rfl
      refine r_aload_n rfl ?_
      refine q_getR (Sh.ref hI66.1 kx_204 rfl) ?_
      refine r_iload_n rfl ?_
      refine r_dup2 ⟨rfl, rfl⟩ ?_
      obtain ⟨v68, hv68⟩ : ∃ v, eA g0 216 a1.toInt = v := ⟨_, rfl⟩
      refine q_iald (Sh.arr hI66.1 ka_216) a1.toInt rfl (by omega) v68 ((eA_c ((gA_sA_ne (by decide)).trans ((gA_sI).trans ((gA_sA_ne (by decide)).trans (gA_sA_ne (by decide)))))).trans hv68) ?_
      refine r_aload_n rfl ?_
      refine q_getR (Sh.ref hI66.1 kx_204 rfl) ?_
      refine r_iload_n rfl ?_
      refine r_iconst 0 rfl ?_
      refine r_callV 56 rfl [.ref 1, .int a2, .int 0] [.int v68, .int a1, .ref 216] (Nat.le_of_ble_eq_true rfl) rfl (T_X0_about_1 _ hI66 a2 0) ?_
      rintro _ _ ⟨g69, rfl, hI70, hF71, v72, rfl, hr73⟩
      refine At.sti ?_
      have hF74 := Fr.tr hF67 hF71 rfl rfl
      have zv75 : (0 : Int32).toInt = 0 := rfl
      refine At.enter rfl ?_
      refine q_iaddO (fun v76 _ => ?_)
      refine q_iast (Sh.arr hI70.1 ka_216) (a1.toInt) rfl (by omega) ?_
      have hI77 := HI.wA0 hI70 ka_216 (p := 216) rfl rfl (a1.toInt) (v76)
      have hF78 := Fr.wA (p := 216) (j := a1.toInt) (v := v76) hF74 rfl
      refine Ar.fall 58 rfl ?_
      refine At.enter rfl ?_
      refine r_vret ?_
      exact ⟨_, rfl, hI77, hF78, rfl⟩

def F_X1_giveUp_204 : List (Nat × Nat) := []
def A_X1_giveUp_204 : List Nat := [211, 215, 216]
set_option maxRecDepth 100000 in
set_option maxHeartbeats 4000000 in
theorem T_X1_giveUp_204 (d : Nat) {N : Nat} {g0 : List en_E} (hI0 : HI g0) (a1 : Int32) (a2 : Int32) (h_a2 : 0 ≤ a2.toInt ∧ a2.toInt ≤ 7) : Ev (d + 2) 28 [.ref 204, .int a1, .int a2] (g0, N) (fun w h' => ∃ g', h' = (g', N) ∧ HI g' ∧ Fr F_X1_giveUp_204 A_X1_giveUp_204 g0 g' ∧ w = none) := by
  have hF0 : Fr F_X1_giveUp_204 A_X1_giveUp_204 g0 g0 := Fr.rf
  refine Ev.mk rfl rfl ⟨Nat.le_of_ble_eq_true rfl, Or.inr (q_rc hI0.1 kx_204 rfl)⟩ ?_
  show At _ none _ _ (0, [(0, .ref 204), (1, .int a1), (2, .int a2)], [], (_, _)) _
  refine At.enter rfl ?_
  refine r_aload_n rfl ?_
  refine q_getR (Sh.ref hI0.1 kx_204 rfl) ?_
  refine r_iload_n rfl ?_
  refine q_inlV 8 rfl [.ref 1, .int a1] [] (Nat.le_of_ble_eq_true rfl) rfl ?_
  refine Ev.mk rfl rfl ⟨Nat.le_of_ble_eq_true rfl, Or.inr (q_rc hI0.1 kx_1 rfl)⟩ ?_
  show At _ none _ _ (0, [(0, .ref 1), (1, .int a1)], [], (_, _)) _
  refine At.enter rfl ?_
  refine r_iload_n rfl ?_
  refine r_ifs 4 rfl (fun c45 => ?_) (fun c45 => ?_)
  · have c45_ : a1.toInt < 0 := en_k_lt_t c45
    refine At.enter rfl ?_
    refine r_iconst 0 rfl ?_
    refine Ar.fall 17 rfl ?_
    refine At.enter rfl ?_
    refine q_iretz (by decide) ?_
    refine At.enter rfl ?_
    refine r_ift (by decide) ?_
    refine At.enter rfl ?_
    refine r_vret ?_
    exact ⟨_, rfl, hI0, hF0, rfl⟩
  · have c45_ : a1.toInt ≥ 0 := en_k_lt_f c45
    refine At.enter rfl ?_
    refine r_iload_n rfl ?_
    refine r_aload_n rfl ?_
    obtain ⟨v46, hv46⟩ : ∃ v, gI g0 1 0 = v := ⟨_, rfl⟩
    have rv46 := RgF.at hI0.2.1 (p := 1) (b := 0) rfl
    rw [hv46] at rv46
    dsimp only at rv46
    refine q_getI (Sh.int hI0.1 kx_1 rfl) v46 hv46 ?_
    have bv48 := q_bnd a1
    have bv49 := q_bnd v46
    refine r_ics 12 rfl (fun c47 => ?_) (fun c47 => ?_)
    · have c47_ : a1.toInt ≥ v46.toInt := en_i_ge_t c47
      refine At.enter rfl ?_
      refine r_iconst 0 rfl ?_
      refine Ar.fall 17 rfl ?_
      refine At.enter rfl ?_
      refine q_iretz (by decide) ?_
      refine At.enter rfl ?_
      refine r_ift (by decide) ?_
      refine At.enter rfl ?_
      refine r_vret ?_
      exact ⟨_, rfl, hI0, hF0, rfl⟩
    · have c47_ : a1.toInt < v46.toInt := en_i_ge_f c47
      refine At.enter rfl ?_
      refine r_iconst 1 rfl ?_
      refine r_goto ?_
      refine At.enter rfl ?_
      refine q_iretz (by decide) ?_
      refine At.enter rfl ?_
      refine r_iff 11 rfl (by decide) ?_
      refine At.enter rfl ?_
      refine r_aload_n rfl ?_
      refine q_getR (Sh.ref hI0.1 kx_204 rfl) ?_
      refine r_iload_n rfl ?_
      refine r_iconst (-1) rfl ?_
      refine q_iast (Sh.arr hI0.1 ka_211) (a2.toInt) rfl (by omega) ?_
      have hI50 := HI.wA0 hI0 ka_211 (p := 211) rfl rfl (a2.toInt) ((-1))
      have hF51 := Fr.wA (p := 211) (j := a2.toInt) (v := (-1)) hF0 rfl
      refine r_aload_n rfl ?_
      refine q_getR (Sh.ref hI50.1 kx_204 rfl) ?_
      refine r_iload_n rfl ?_
      refine r_dup2 ⟨rfl, rfl⟩ ?_
      obtain ⟨v52, hv52⟩ : ∃ v, eA g0 215 a1.toInt = v := ⟨_, rfl⟩
      refine q_iald (Sh.arr hI50.1 ka_215) a1.toInt rfl (by omega) v52 ((eA_c (gA_sA_ne (by decide))).trans hv52) ?_
      refine r_iconst 1 rfl ?_
      refine q_isubO (fun v53 _ => ?_)
      refine q_iast (Sh.arr hI50.1 ka_215) (a1.toInt) rfl (by omega) ?_
      have hI54 := HI.wA0 hI50 ka_215 (p := 215) rfl rfl (a1.toInt) (v53)
      have hF55 := Fr.wA (p := 215) (j := a1.toInt) (v := v53) hF51 rfl
      refine r_aload_n rfl ?_
      refine q_getR (Sh.ref hI54.1 kx_204 rfl) ?_
      refine r_iload_n rfl ?_
      refine r_dup2 ⟨rfl, rfl⟩ ?_
      obtain ⟨v56, hv56⟩ : ∃ v, eA g0 216 a1.toInt = v := ⟨_, rfl⟩
      refine q_iald (Sh.arr hI54.1 ka_216) a1.toInt rfl (by omega) v56 ((eA_c ((gA_sA_ne (by decide)).trans (gA_sA_ne (by decide)))).trans hv56) ?_
      refine r_aload_n rfl ?_
      refine q_getR (Sh.ref hI54.1 kx_204 rfl) ?_
      refine r_iload_n rfl ?_
      refine r_iconst 0 rfl ?_
      refine r_callV 44 rfl [.ref 1, .int a2, .int 0] [.int v56, .int a1, .ref 216] (Nat.le_of_ble_eq_true rfl) rfl (T_X0_about_1 _ hI54 a2 0) ?_
      rintro _ _ ⟨g57, rfl, hI58, hF59, v60, rfl, hr61⟩
      refine At.sti ?_
      have hF62 := Fr.tr hF55 hF59 rfl rfl
      have zv63 : (0 : Int32).toInt = 0 := rfl
      refine At.enter rfl ?_
      refine q_isubO (fun v64 _ => ?_)
      refine q_iast (Sh.arr hI58.1 ka_216) (a1.toInt) rfl (by omega) ?_
      have hI65 := HI.wA0 hI58 ka_216 (p := 216) rfl rfl (a1.toInt) (v64)
      have hF66 := Fr.wA (p := 216) (j := a1.toInt) (v := v64) hF62 rfl
      refine Ar.fall 46 rfl ?_
      refine At.enter rfl ?_
      refine r_vret ?_
      exact ⟨_, rfl, hI65, hF66, rfl⟩
