def F_X1_canHold_204 : List (Nat × Nat) := []
def A_X1_canHold_204 : List Nat := []
theorem ma_X0_about_1_205 : memA A_X0_about_1 205 = false := by decide
set_option maxRecDepth 100000 in
set_option maxHeartbeats 4000000 in
theorem T_X1_canHold_204 (d : Nat) {N : Nat} {g0 : List en_E} (hI0 : HI g0) (a1 : Int32) (a2 : Int32) : Ev (d + 2) 26 [.ref 204, .int a1, .int a2] (g0, N) (fun w h' => ∃ g', h' = (g', N) ∧ HI g' ∧ Fr F_X1_canHold_204 A_X1_canHold_204 g0 g' ∧ ∃ r : Int32, w = some (.int r) ∧ (0 ≤ r.toInt ∧ r.toInt ≤ 1)) := by
  have hF0 : Fr F_X1_canHold_204 A_X1_canHold_204 g0 g0 := Fr.rf
  refine Ev.mk rfl rfl ⟨Nat.le_of_ble_eq_true rfl, Or.inr (q_rc hI0.1 kx_204 rfl)⟩ ?_
  show At _ none _ _ (0, [(0, .ref 204), (1, .int a1), (2, .int a2)], [], (_, _)) _
  refine At.enter rfl ?_
  refine r_aload_n rfl ?_
  refine q_getR (Sh.ref hI0.1 kx_204 rfl) ?_
  refine r_iload_n rfl ?_
  refine q_inlV 8 rfl [.ref 1, .int a1] [] (Nat.le_of_ble_eq_true rfl) rfl ?_
  refine Ev.mk rfl rfl ⟨Nat.le_of_ble_eq_true rfl, Or.inr (q_rc hI0.1 kx_1 rfl)⟩ ?_
  show At _ none _ _ (0, [(0, .ref 1), (1, .int a1)], [], (_, _)) _
  refine At.enter rfl ?_
  refine r_iload_n rfl ?_
  refine r_ifs 4 rfl (fun c51 => ?_) (fun c51 => ?_)
  · have c51_ : a1.toInt < 0 := en_k_lt_t c51
    refine At.enter rfl ?_
    refine r_iconst 0 rfl ?_
    refine Ar.fall 17 rfl ?_
    refine At.enter rfl ?_
    refine q_iretz (by decide) ?_
    refine At.enter rfl ?_
    refine r_ift (by decide) ?_
    refine At.enter rfl ?_
    refine r_iconst 0 rfl ?_
    refine Ar.fall 57 rfl ?_
    refine At.enter rfl ?_
    refine r_iretz (by decide) ?_
    exact ⟨_, rfl, hI0, hF0, _, rfl, by decide⟩
  · have c51_ : a1.toInt ≥ 0 := en_k_lt_f c51
    refine At.enter rfl ?_
    refine r_iload_n rfl ?_
    refine r_aload_n rfl ?_
    obtain ⟨v52, hv52⟩ : ∃ v, gI g0 1 0 = v := ⟨_, rfl⟩
    have rv52 := RgF.at hI0.2.1 (p := 1) (b := 0) rfl
    rw [hv52] at rv52
    dsimp only at rv52
    refine q_getI (Sh.int hI0.1 kx_1 rfl) v52 hv52 ?_
    have bv54 := q_bnd a1
    have bv55 := q_bnd v52
    refine r_ics 12 rfl (fun c53 => ?_) (fun c53 => ?_)
    · have c53_ : a1.toInt ≥ v52.toInt := en_i_ge_t c53
      refine At.enter rfl ?_
      refine r_iconst 0 rfl ?_
      refine Ar.fall 17 rfl ?_
      refine At.enter rfl ?_
      refine q_iretz (by decide) ?_
      refine At.enter rfl ?_
      refine r_ift (by decide) ?_
      refine At.enter rfl ?_
      refine r_iconst 0 rfl ?_
      refine Ar.fall 57 rfl ?_
      refine At.enter rfl ?_
      refine r_iretz (by decide) ?_
      exact ⟨_, rfl, hI0, hF0, _, rfl, by decide⟩
    · have c53_ : a1.toInt < v52.toInt := en_i_ge_f c53
      refine At.enter rfl ?_
      refine r_iconst 1 rfl ?_
      refine r_goto ?_
      refine At.enter rfl ?_
      refine q_iretz (by decide) ?_
      refine At.enter rfl ?_
      refine r_iff 11 rfl (by decide) ?_
      refine At.enter rfl ?_
      refine r_aload_n rfl ?_
      refine q_getR (Sh.ref hI0.1 kx_204 rfl) ?_
      refine r_iload_n rfl ?_
      obtain ⟨v56, hv56⟩ : ∃ v, eA g0 215 a1.toInt = v := ⟨_, rfl⟩
      refine q_iald (Sh.arr hI0.1 ka_215) a1.toInt rfl (by omega) v56 hv56 ?_
      refine r_aload_n rfl ?_
      refine q_getR (Sh.ref hI0.1 kx_204 rfl) ?_
      obtain ⟨v57, hv57⟩ : ∃ v, gI g0 1 11 = v := ⟨_, rfl⟩
      refine q_getI (Sh.int hI0.1 kx_1 rfl) v57 hv57 ?_
      have bv59 := q_bnd v56
      have bv60 := q_bnd v57
      refine r_ics 27 rfl (fun c58 => ?_) (fun c58 => ?_)
      · have c58_ : v56.toInt ≥ v57.toInt := en_i_ge_t c58
        refine At.enter rfl ?_
        refine r_iconst 0 rfl ?_
        refine Ar.fall 57 rfl ?_
        refine At.enter rfl ?_
        refine r_iretz (by decide) ?_
        exact ⟨_, rfl, hI0, hF0, _, rfl, by decide⟩
      · have c58_ : v56.toInt < v57.toInt := en_i_ge_f c58
        refine At.enter rfl ?_
        refine r_aload_n rfl ?_
        refine q_getR (Sh.ref hI0.1 kx_204 rfl) ?_
        refine r_iload_n rfl ?_
        obtain ⟨v61, hv61⟩ : ∃ v, eA g0 216 a1.toInt = v := ⟨_, rfl⟩
        refine q_iald (Sh.arr hI0.1 ka_216) a1.toInt rfl (by omega) v61 hv61 ?_
        refine r_aload_n rfl ?_
        refine q_getR (Sh.ref hI0.1 kx_204 rfl) ?_
        refine r_iload_n rfl ?_
        refine r_iconst 0 rfl ?_
        refine r_callV 42 rfl [.ref 1, .int a2, .int 0] [.int v61] (Nat.le_of_ble_eq_true rfl) rfl (T_X0_about_1 _ hI0 a2 0) ?_
        rintro _ _ ⟨g62, rfl, hI63, hF64, v65, rfl, hr66⟩
        refine At.sti ?_
        have ks69 := hr66.2.2
        have hr68 : _ ∧ _ := ⟨hr66.1, hr66.2.1⟩
        have hF67 := Fr.tr hF0 hF64 rfl rfl
        have zv70 : (0 : Int32).toInt = 0 := rfl
        refine At.enter rfl ?_
        refine q_iaddO (fun v71 _ => ?_)
        refine r_aload_n rfl ?_
        refine q_getR (Sh.ref hI63.1 kx_204 rfl) ?_
        refine r_iload_n rfl ?_
        obtain ⟨v72, hv72⟩ : ∃ v, eA g0 205 a1.toInt = v := ⟨_, rfl⟩
        refine q_iald (Sh.arr hI63.1 ka_205) a1.toInt rfl (by omega) v72 ((eA_c (hF64.2.1 205 ma_X0_about_1_205)).trans hv72) ?_
        have bv74 := q_bnd v71
        have bv75 := q_bnd v72
        refine r_ics 52 rfl (fun c73 => ?_) (fun c73 => ?_)
        · have c73_ : v71.toInt > v72.toInt := en_i_gt_t c73
          refine At.enter rfl ?_
          refine r_iconst 0 rfl ?_
          refine Ar.fall 57 rfl ?_
          refine At.enter rfl ?_
          refine r_iretz (by decide) ?_
          exact ⟨_, rfl, hI63, hF67, _, rfl, by decide⟩
        · have c73_ : v71.toInt ≤ v72.toInt := en_i_gt_f c73
          refine At.enter rfl ?_
          refine r_iconst 1 rfl ?_
          refine r_goto ?_
          refine At.enter rfl ?_
          refine r_iretz (by decide) ?_
          exact ⟨_, rfl, hI63, hF67, _, rfl, by decide⟩

def F_X1_take_204 : List (Nat × Nat) := [(204, 18)]
def A_X1_take_204 : List Nat := [211, 214, 215, 216]
set_option maxRecDepth 100000 in
set_option maxHeartbeats 4000000 in
theorem T_X1_take_204 (d : Nat) {N : Nat} {g0 : List en_E} (hI0 : HI g0) (a1 : Int32) (a2 : Int32) (h_a2 : 0 ≤ a2.toInt ∧ a2.toInt ≤ 7) : Ev (d + 2) 27 [.ref 204, .int a1, .int a2] (g0, N) (fun w h' => ∃ g', h' = (g', N) ∧ HI g' ∧ Fr F_X1_take_204 A_X1_take_204 g0 g' ∧ w = none) := by
  have hF0 : Fr F_X1_take_204 A_X1_take_204 g0 g0 := Fr.rf
  refine Ev.mk rfl rfl ⟨Nat.le_of_ble_eq_true rfl, Or.inr (q_rc hI0.1 kx_204 rfl)⟩ ?_
  show At _ none _ _ (0, [(0, .ref 204), (1, .int a1), (2, .int a2)], [], (_, _)) _
  refine At.enter rfl ?_
  refine r_aload_n rfl ?_
  refine q_getR (Sh.ref hI0.1 kx_204 rfl) ?_
  refine r_iload_n rfl ?_
  refine q_inlV 8 rfl [.ref 1, .int a1] [] (Nat.le_of_ble_eq_true rfl) rfl ?_
  refine Ev.mk rfl rfl ⟨Nat.le_of_ble_eq_true rfl, Or.inr (q_rc hI0.1 kx_1 rfl)⟩ ?_
  show At _ none _ _ (0, [(0, .ref 1), (1, .int a1)], [], (_, _)) _
  refine At.enter rfl ?_
  refine r_iload_n rfl ?_
  refine r_ifs 4 rfl (fun c57 => ?_) (fun c57 => ?_)
  · have c57_ : a1.toInt < 0 := en_k_lt_t c57
    refine At.enter rfl ?_
    refine r_iconst 0 rfl ?_
    refine Ar.fall 17 rfl ?_
    refine At.enter rfl ?_
    refine q_iretz (by decide) ?_
    refine At.enter rfl ?_
    refine r_ift (by decide) ?_
    refine At.enter rfl ?_
    refine r_vret ?_
    exact ⟨_, rfl, hI0, hF0, rfl⟩
  · have c57_ : a1.toInt ≥ 0 := en_k_lt_f c57
    refine At.enter rfl ?_
    refine r_iload_n rfl ?_
    refine r_aload_n rfl ?_
    obtain ⟨v58, hv58⟩ : ∃ v, gI g0 1 0 = v := ⟨_, rfl⟩
    have rv58 := RgF.at hI0.2.1 (p := 1) (b := 0) rfl
    rw [hv58] at rv58
    dsimp only at rv58
    refine q_getI (Sh.int hI0.1 kx_1 rfl) v58 hv58 ?_
    have bv60 := q_bnd a1
    have bv61 := q_bnd v58
    refine r_ics 12 rfl (fun c59 => ?_) (fun c59 => ?_)
    · have c59_ : a1.toInt ≥ v58.toInt := en_i_ge_t c59
      refine At.enter rfl ?_
      refine r_iconst 0 rfl ?_
      refine Ar.fall 17 rfl ?_
      refine At.enter rfl ?_
      refine q_iretz (by decide) ?_
      refine At.enter rfl ?_
      refine r_ift (by decide) ?_
      refine At.enter rfl ?_
      refine r_vret ?_
      exact ⟨_, rfl, hI0, hF0, rfl⟩
    · have c59_ : a1.toInt < v58.toInt := en_i_ge_f c59
      refine At.enter rfl ?_
      refine r_iconst 1 rfl ?_
      refine r_goto ?_
      refine At.enter rfl ?_
      refine q_iretz (by decide) ?_
      refine At.enter rfl ?_
      refine r_iff 11 rfl (by decide) ?_
      refine At.enter rfl ?_
      refine r_aload_n rfl ?_
      refine q_getR (Sh.ref hI0.1 kx_204 rfl) ?_
      refine r_iload_n rfl ?_
      refine r_iload_n rfl ?_
      refine q_iast (Sh.arr hI0.1 ka_211) (a2.toInt) rfl (by omega) ?_
      have hI62 := HI.wA0 hI0 ka_211 (p := 211) rfl rfl (a2.toInt) (a1)
      have hF63 := Fr.wA (p := 211) (j := a2.toInt) (v := a1) hF0 rfl
      refine r_aload_n rfl ?_
      refine q_getR (Sh.ref hI62.1 kx_204 rfl) ?_
      refine r_iload_n rfl ?_
      refine r_iconst 0 rfl ?_
      refine q_iast (Sh.arr hI62.1 ka_214) (a2.toInt) rfl (by omega) ?_
      have hI64 := HI.wA0 hI62 ka_214 (p := 214) rfl rfl (a2.toInt) (0)
      have hF65 := Fr.wA (p := 214) (j := a2.toInt) (v := 0) hF63 rfl
      refine r_aload_n rfl ?_
      refine r_iconst 1 rfl ?_
      refine q_putI (Sh.int hI64.1 kx_204 rfl) rfl ?_
      have hI66 := HI.wI0 hI64 kx_204 rfl (p := 204) (b := 18) (v := 1) rfl
      have hF67 := Fr.wI (p := 204) (b := 18) (v := 1) hF65 rfl
      refine r_aload_n rfl ?_
      refine q_getR (Sh.ref hI66.1 kx_204 rfl) ?_
      refine r_iload_n rfl ?_
      refine r_dup2 ⟨rfl, rfl⟩ ?_
      obtain ⟨v68, hv68⟩ : ∃ v, eA g0 215 a1.toInt = v := ⟨_, rfl⟩
      refine q_iald (Sh.arr hI66.1 ka_215) a1.toInt rfl (by omega) v68 ((eA_c ((gA_sI).trans ((gA_sA_ne (by decide)).trans (gA_sA_ne (by decide))))).trans hv68) ?_
      refine r_iconst 1 rfl ?_
      refine q_iaddO (fun v69 _ => ?_)
      refine q_iast (Sh.arr hI66.1 ka_215) (a1.toInt) rfl (by omega) ?_
      have hI70 := HI.wA0 hI66 ka_215 (p := 215) rfl rfl (a1.toInt) (v69)
      have hF71 := Fr.wA (p := 215) (j := a1.toInt) (v := v69) hF67 rfl
      refine r_aload_n rfl ?_
      refine q_getR (Sh.ref hI70.1 kx_204 rfl) ?_
      refine r_iload_n rfl ?_
      refine r_dup2 ⟨rfl, rfl⟩ ?_
      obtain ⟨v72, hv72⟩ : ∃ v, eA g0 216 a1.toInt = v := ⟨_, rfl⟩
      refine q_iald (Sh.arr hI70.1 ka_216) a1.toInt rfl (by omega) v72 ((eA_c ((gA_sA_ne (by decide)).trans ((gA_sI).trans ((gA_sA_ne (by decide)).trans (gA_sA_ne (by decide)))))).trans hv72) ?_
      refine r_aload_n rfl ?_
      refine q_getR (Sh.ref hI70.1 kx_204 rfl) ?_
      refine r_iload_n rfl ?_
      refine r_iconst 0 rfl ?_
      refine r_callV 56 rfl [.ref 1, .int a2, .int 0] [.int v72, .int a1, .ref 216] (Nat.le_of_ble_eq_true rfl) rfl (T_X0_about_1 _ hI70 a2 0) ?_
      rintro _ _ ⟨g73, rfl, hI74, hF75, v76, rfl, hr77⟩
      refine At.sti ?_
      have ks80 := hr77.2.2
      have hr79 : _ ∧ _ := ⟨hr77.1, hr77.2.1⟩
      have hF78 := Fr.tr hF71 hF75 rfl rfl
      have zv81 : (0 : Int32).toInt = 0 := rfl
      refine At.enter rfl ?_
      refine q_iaddO (fun v82 _ => ?_)
      refine q_iast (Sh.arr hI74.1 ka_216) (a1.toInt) rfl (by omega) ?_
      have hI83 := HI.wA0 hI74 ka_216 (p := 216) rfl rfl (a1.toInt) (v82)
      have hF84 := Fr.wA (p := 216) (j := a1.toInt) (v := v82) hF78 rfl
      refine Ar.fall 58 rfl ?_
      refine At.enter rfl ?_
      refine r_vret ?_
      exact ⟨_, rfl, hI83, hF84, rfl⟩

def F_X1_giveUp_204 : List (Nat × Nat) := []
def A_X1_giveUp_204 : List Nat := [211, 215, 216]
set_option maxRecDepth 100000 in
set_option maxHeartbeats 4000000 in
theorem T_X1_giveUp_204 (d : Nat) {N : Nat} {g0 : List en_E} (hI0 : HI g0) (a1 : Int32) (a2 : Int32) (h_a2 : 0 ≤ a2.toInt ∧ a2.toInt ≤ 7) : Ev (d + 2) 28 [.ref 204, .int a1, .int a2] (g0, N) (fun w h' => ∃ g', h' = (g', N) ∧ HI g' ∧ Fr F_X1_giveUp_204 A_X1_giveUp_204 g0 g' ∧ w = none) := by
  have hF0 : Fr F_X1_giveUp_204 A_X1_giveUp_204 g0 g0 := Fr.rf
  refine Ev.mk rfl rfl ⟨Nat.le_of_ble_eq_true rfl, Or.inr (q_rc hI0.1 kx_204 rfl)⟩ ?_
  show At _ none _ _ (0, [(0, .ref 204), (1, .int a1), (2, .int a2)], [], (_, _)) _
  refine At.enter rfl ?_
  refine r_aload_n rfl ?_
  refine q_getR (Sh.ref hI0.1 kx_204 rfl) ?_
  refine r_iload_n rfl ?_
  refine q_inlV 8 rfl [.ref 1, .int a1] [] (Nat.le_of_ble_eq_true rfl) rfl ?_
  refine Ev.mk rfl rfl ⟨Nat.le_of_ble_eq_true rfl, Or.inr (q_rc hI0.1 kx_1 rfl)⟩ ?_
  show At _ none _ _ (0, [(0, .ref 1), (1, .int a1)], [], (_, _)) _
  refine At.enter rfl ?_
  refine r_iload_n rfl ?_
  refine r_ifs 4 rfl (fun c49 => ?_) (fun c49 => ?_)
  · have c49_ : a1.toInt < 0 := en_k_lt_t c49
    refine At.enter rfl ?_
    refine r_iconst 0 rfl ?_
    refine Ar.fall 17 rfl ?_
    refine At.enter rfl ?_
    refine q_iretz (by decide) ?_
    refine At.enter rfl ?_
    refine r_ift (by decide) ?_
    refine At.enter rfl ?_
    refine r_vret ?_
    exact ⟨_, rfl, hI0, hF0, rfl⟩
  · have c49_ : a1.toInt ≥ 0 := en_k_lt_f c49
    refine At.enter rfl ?_
    refine r_iload_n rfl ?_
    refine r_aload_n rfl ?_
    obtain ⟨v50, hv50⟩ : ∃ v, gI g0 1 0 = v := ⟨_, rfl⟩
    have rv50 := RgF.at hI0.2.1 (p := 1) (b := 0) rfl
    rw [hv50] at rv50
    dsimp only at rv50
    refine q_getI (Sh.int hI0.1 kx_1 rfl) v50 hv50 ?_
    have bv52 := q_bnd a1
    have bv53 := q_bnd v50
    refine r_ics 12 rfl (fun c51 => ?_) (fun c51 => ?_)
    · have c51_ : a1.toInt ≥ v50.toInt := en_i_ge_t c51
      refine At.enter rfl ?_
      refine r_iconst 0 rfl ?_
      refine Ar.fall 17 rfl ?_
      refine At.enter rfl ?_
      refine q_iretz (by decide) ?_
      refine At.enter rfl ?_
      refine r_ift (by decide) ?_
      refine At.enter rfl ?_
      refine r_vret ?_
      exact ⟨_, rfl, hI0, hF0, rfl⟩
    · have c51_ : a1.toInt < v50.toInt := en_i_ge_f c51
      refine At.enter rfl ?_
      refine r_iconst 1 rfl ?_
      refine r_goto ?_
      refine At.enter rfl ?_
      refine q_iretz (by decide) ?_
      refine At.enter rfl ?_
      refine r_iff 11 rfl (by decide) ?_
      refine At.enter rfl ?_
      refine r_aload_n rfl ?_
      refine q_getR (Sh.ref hI0.1 kx_204 rfl) ?_
      refine r_iload_n rfl ?_
      refine r_iconst (-1) rfl ?_
      refine q_iast (Sh.arr hI0.1 ka_211) (a2.toInt) rfl (by omega) ?_
      have hI54 := HI.wA0 hI0 ka_211 (p := 211) rfl rfl (a2.toInt) ((-1))
      have hF55 := Fr.wA (p := 211) (j := a2.toInt) (v := (-1)) hF0 rfl
      refine r_aload_n rfl ?_
      refine q_getR (Sh.ref hI54.1 kx_204 rfl) ?_
      refine r_iload_n rfl ?_
      refine r_dup2 ⟨rfl, rfl⟩ ?_
      obtain ⟨v56, hv56⟩ : ∃ v, eA g0 215 a1.toInt = v := ⟨_, rfl⟩
      refine q_iald (Sh.arr hI54.1 ka_215) a1.toInt rfl (by omega) v56 ((eA_c (gA_sA_ne (by decide))).trans hv56) ?_
      refine r_iconst 1 rfl ?_
      refine q_isubO (fun v57 _ => ?_)
      refine q_iast (Sh.arr hI54.1 ka_215) (a1.toInt) rfl (by omega) ?_
      have hI58 := HI.wA0 hI54 ka_215 (p := 215) rfl rfl (a1.toInt) (v57)
      have hF59 := Fr.wA (p := 215) (j := a1.toInt) (v := v57) hF55 rfl
      refine r_aload_n rfl ?_
      refine q_getR (Sh.ref hI58.1 kx_204 rfl) ?_
      refine r_iload_n rfl ?_
      refine r_dup2 ⟨rfl, rfl⟩ ?_
      obtain ⟨v60, hv60⟩ : ∃ v, eA g0 216 a1.toInt = v := ⟨_, rfl⟩
      refine q_iald (Sh.arr hI58.1 ka_216) a1.toInt rfl (by omega) v60 ((eA_c ((gA_sA_ne (by decide)).trans (gA_sA_ne (by decide)))).trans hv60) ?_
      refine r_aload_n rfl ?_
      refine q_getR (Sh.ref hI58.1 kx_204 rfl) ?_
      refine r_iload_n rfl ?_
      refine r_iconst 0 rfl ?_
      refine r_callV 44 rfl [.ref 1, .int a2, .int 0] [.int v60, .int a1, .ref 216] (Nat.le_of_ble_eq_true rfl) rfl (T_X0_about_1 _ hI58 a2 0) ?_
      rintro _ _ ⟨g61, rfl, hI62, hF63, v64, rfl, hr65⟩
      refine At.sti ?_
      have ks68 := hr65.2.2
      have hr67 : _ ∧ _ := ⟨hr65.1, hr65.2.1⟩
      have hF66 := Fr.tr hF59 hF63 rfl rfl
      have zv69 : (0 : Int32).toInt = 0 := rfl
      refine At.enter rfl ?_
      refine q_isubO (fun v70 _ => ?_)
      refine q_iast (Sh.arr hI62.1 ka_216) (a1.toInt) rfl (by omega) ?_
      have hI71 := HI.wA0 hI62 ka_216 (p := 216) rfl rfl (a1.toInt) (v70)
      have hF72 := Fr.wA (p := 216) (j := a1.toInt) (v := v70) hF66 rfl
      refine Ar.fall 46 rfl ?_
      refine At.enter rfl ?_
      refine r_vret ?_
      exact ⟨_, rfl, hI71, hF72, rfl⟩
