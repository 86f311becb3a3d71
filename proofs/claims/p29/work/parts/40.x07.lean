def F_X1_take_188 : List (Nat × Nat) := [(188, 18)]
def A_X1_take_188 : List Nat := [195, 198, 199, 200]
set_option maxRecDepth 100000 in
set_option maxHeartbeats 4000000 in
theorem T_X1_take_188 (d : Nat) {N : Nat} {g0 : List en_E} (hI0 : HI g0) (a1 : Int32) (a2 : Int32) (h_a2 : 0 ≤ a2.toInt ∧ a2.toInt ≤ 7) : Ev (d + 2) 27 [.ref 188, .int a1, .int a2] (g0, N) (fun w h' => ∃ g', h' = (g', N) ∧ HI g' ∧ Fr F_X1_take_188 A_X1_take_188 g0 g' ∧ w = none) := by
  have hF0 : Fr F_X1_take_188 A_X1_take_188 g0 g0 := Fr.rf
  refine Ev.mk rfl rfl ⟨Nat.le_of_ble_eq_true rfl, Or.inr (q_rc hI0.1 kx_188 rfl)⟩ ?_
  show At _ none _ _ (0, [(0, .ref 188), (1, .int a1), (2, .int a2)], [], (_, _)) _
  refine At.enter rfl ?_
  refine r_aload_n rfl ?_
  refine q_getR (Sh.ref hI0.1 kx_188 rfl) ?_
  refine r_iload_n rfl ?_
  refine q_inlV 8 rfl [.ref 1, .int a1] [] (Nat.le_of_ble_eq_true rfl) rfl ?_
  refine Ev.mk rfl rfl ⟨Nat.le_of_ble_eq_true rfl, Or.inr (q_rc hI0.1 kx_1 rfl)⟩ ?_
  show At _ none _ _ (0, [(0, .ref 1), (1, .int a1)], [], (_, _)) _
  refine At.enter rfl ?_
  refine r_iload_n rfl ?_
  refine r_ifs 4 rfl (fun c57 => ?_) (fun c57 => ?_)
  · have c57_ : a1.toInt < 0 := en_k_lt_t c57
    refine At.enter rfl ?_
    refine r_iconst 0 rfl ?_
    refine Ar.fall 17 rfl ?_
    refine At.enter rfl ?_
    refine q_iretz (by decide) ?_
    refine At.enter rfl ?_
    refine r_ift (by decide) ?_
    refine At.enter rfl ?_
    refine r_vret ?_
    exact ⟨_, rfl, hI0, hF0, rfl⟩
  · have c57_ : a1.toInt ≥ 0 := en_k_lt_f c57
    refine At.enter rfl ?_
    refine r_iload_n rfl ?_
    refine r_aload_n rfl ?_
    obtain ⟨v58, hv58⟩ : ∃ v, gI g0 1 0 = v := ⟨_, rfl⟩
    have rv58 := RgF.at hI0.2.1 (p := 1) (b := 0) rfl
    rw [hv58] at rv58
    dsimp only at rv58
    refine q_getI (Sh.int hI0.1 kx_1 rfl) v58 hv58 ?_
    have bv60 := q_bnd a1
    have bv61 := q_bnd v58
    refine r_ics 12 rfl (fun c59 => ?_) (fun c59 => ?_)
    · have c59_ : a1.toInt ≥ v58.toInt := en_i_ge_t c59
      refine At.enter rfl ?_
      refine r_iconst 0 rfl ?_
      refine Ar.fall 17 rfl ?_
      refine At.enter rfl ?_
      refine q_iretz (by decide) ?_
      refine At.enter rfl ?_
      refine r_ift (by decide) ?_
      refine At.enter rfl ?_
      refine r_vret ?_
      exact ⟨_, rfl, hI0, hF0, rfl⟩
    · have c59_ : a1.toInt < v58.toInt := en_i_ge_f c59
      refine At.enter rfl ?_
      refine r_iconst 1 rfl ?_
      refine r_goto ?_
      refine At.enter rfl ?_
      refine q_iretz (by decide) ?_
      refine At.enter rfl ?_
      refine r_iff 11 rfl (by decide) ?_
      refine At.enter rfl ?_
      refine r_aload_n rfl ?_
      refine q_getR (Sh.ref hI0.1 kx_188 rfl) ?_
      refine r_iload_n rfl ?_
      refine r_iload_n rfl ?_
      refine q_iast (Sh.arr hI0.1 ka_195) (a2.toInt) rfl (by omega) ?_
      have hI62 := HI.wA0 hI0 ka_195 (p := 195) rfl rfl (a2.toInt) (a1)
      have hF63 := Fr.wA (p := 195) (j := a2.toInt) (v := a1) hF0 rfl
      refine r_aload_n rfl ?_
      refine q_getR (Sh.ref hI62.1 kx_188 rfl) ?_
      refine r_iload_n rfl ?_
      refine r_iconst 0 rfl ?_
      refine q_iast (Sh.arr hI62.1 ka_198) (a2.toInt) rfl (by omega) ?_
      have hI64 := HI.wA0 hI62 ka_198 (p := 198) rfl rfl (a2.toInt) (0)
      have hF65 := Fr.wA (p := 198) (j := a2.toInt) (v := 0) hF63 rfl
      refine r_aload_n rfl ?_
      refine r_iconst 1 rfl ?_
      refine q_putI (Sh.int hI64.1 kx_188 rfl) rfl ?_
      have hI66 := HI.wI0 hI64 kx_188 rfl (p := 188) (b := 18) (v := 1) rfl
      have hF67 := Fr.wI (p := 188) (b := 18) (v := 1) hF65 rfl
      refine r_aload_n rfl ?_
      refine q_getR (Sh.ref hI66.1 kx_188 rfl) ?_
      refine r_iload_n rfl ?_
      refine r_dup2 ⟨rfl, rfl⟩ ?_
      obtain ⟨v68, hv68⟩ : ∃ v, eA g0 199 a1.toInt = v := ⟨_, rfl⟩
      refine q_iald (Sh.arr hI66.1 ka_199) a1.toInt rfl (by omega) v68 ((eA_c ((gA_sI).trans ((gA_sA_ne (by decide)).trans (gA_sA_ne (by decide))))).trans hv68) ?_
      refine r_iconst 1 rfl ?_
      refine q_iaddO (fun v69 _ => ?_)
      refine q_iast (Sh.arr hI66.1 ka_199) (a1.toInt) rfl (by omega) ?_
      have hI70 := HI.wA0 hI66 ka_199 (p := 199) rfl rfl (a1.toInt) (v69)
      have hF71 := Fr.wA (p := 199) (j := a1.toInt) (v := v69) hF67 rfl
      refine r_aload_n rfl ?_
      refine q_getR (Sh.ref hI70.1 kx_188 rfl) ?_
      refine r_iload_n rfl ?_
      refine r_dup2 ⟨rfl, rfl⟩ ?_
      obtain ⟨v72, hv72⟩ : ∃ v, eA g0 200 a1.toInt = v := ⟨_, rfl⟩
      refine q_iald (Sh.arr hI70.1 ka_200) a1.toInt rfl (by omega) v72 ((eA_c ((gA_sA_ne (by decide)).trans ((gA_sI).trans ((gA_sA_ne (by decide)).trans (gA_sA_ne (by decide)))))).trans hv72) ?_
      refine r_aload_n rfl ?_
      refine q_getR (Sh.ref hI70.1 kx_188 rfl) ?_
      refine r_iload_n rfl ?_
      refine r_iconst 0 rfl ?_
      refine r_callV 56 rfl [.ref 1, .int a2, .int 0] [.int v72, .int a1, .ref 200] (Nat.le_of_ble_eq_true rfl) rfl (T_X0_about_1 _ hI70 a2 0) ?_
      rintro _ _ ⟨g73, rfl, hI74, hF75, v76, rfl, hr77⟩
      refine At.sti ?_
      have ks80 := hr77.2.2
      have hr79 : _ ∧ _ := ⟨hr77.1, hr77.2.1⟩
      have hF78 := Fr.tr hF71 hF75 rfl rfl
      have zv81 : (0 : Int32).toInt = 0 := rfl
      refine At.enter rfl ?_
      refine q_iaddO (fun v82 _ => ?_)
      refine q_iast (Sh.arr hI74.1 ka_200) (a1.toInt) rfl (by omega) ?_
      have hI83 := HI.wA0 hI74 ka_200 (p := 200) rfl rfl (a1.toInt) (v82)
      have hF84 := Fr.wA (p := 200) (j := a1.toInt) (v := v82) hF78 rfl
      refine Ar.fall 58 rfl ?_
      refine At.enter rfl ?_
      refine r_vret ?_
      exact ⟨_, rfl, hI83, hF84, rfl⟩

def F_X1_giveUp_188 : List (Nat × Nat) := []
def A_X1_giveUp_188 : List Nat := [195, 199, 200]
set_option maxRecDepth 100000 in
set_option maxHeartbeats 4000000 in
theorem T_X1_giveUp_188 (d : Nat) {N : Nat} {g0 : List en_E} (hI0 : HI g0) (a1 : Int32) (a2 : Int32) (h_a2 : 0 ≤ a2.toInt ∧ a2.toInt ≤ 7) : Ev (d + 2) 28 [.ref 188, .int a1, .int a2] (g0, N) (fun w h' => ∃ g', h' = (g', N) ∧ HI g' ∧ Fr F_X1_giveUp_188 A_X1_giveUp_188 g0 g' ∧ w = none) := by
  have hF0 : Fr F_X1_giveUp_188 A_X1_giveUp_188 g0 g0 := Fr.rf
  refine Ev.mk rfl rfl ⟨Nat.le_of_ble_eq_true rfl, Or.inr (q_rc hI0.1 kx_188 rfl)⟩ ?_
  show At _ none _ _ (0, [(0, .ref 188), (1, .int a1), (2, .int a2)], [], (_, _)) _
  refine At.enter rfl ?_
  refine r_aload_n rfl ?_
  refine q_getR (Sh.ref hI0.1 kx_188 rfl) ?_
  refine r_iload_n rfl ?_
  refine q_inlV 8 rfl [.ref 1, .int a1] [] (Nat.le_of_ble_eq_true rfl) rfl ?_
  refine Ev.mk rfl rfl ⟨Nat.le_of_ble_eq_true rfl, Or.inr (q_rc hI0.1 kx_1 rfl)⟩ ?_
  show At _ none _ _ (0, [(0, .ref 1), (1, .int a1)], [], (_, _)) _
  refine At.enter rfl ?_
  refine r_iload_n rfl ?_
  refine r_ifs 4 rfl (fun c49 => ?_) (fun c49 => ?_)
  · have c49_ : a1.toInt < 0 := en_k_lt_t c49
    refine At.enter rfl ?_
    refine r_iconst 0 rfl ?_
    refine Ar.fall 17 rfl ?_
    refine At.enter rfl ?_
    refine q_iretz (by decide) ?_
    refine At.enter rfl ?_
    refine r_ift (by decide) ?_
    refine At.enter rfl ?_
    refine r_vret ?_
    exact ⟨_, rfl, hI0, hF0, rfl⟩
  · have c49_ : a1.toInt ≥ 0 := en_k_lt_f c49
    refine At.enter rfl ?_
    refine r_iload_n rfl ?_
    refine r_aload_n rfl ?_
    obtain ⟨v50, hv50⟩ : ∃ v, gI g0 1 0 = v := ⟨_, rfl⟩
    have rv50 := RgF.at hI0.2.1 (p := 1) (b := 0) rfl
    rw [hv50] at rv50
    dsimp only at rv50
    refine q_getI (Sh.int hI0.1 kx_1 rfl) v50 hv50 ?_
    have bv52 := q_bnd a1
    have bv53 := q_bnd v50
    refine r_ics 12 rfl (fun c51 => ?_) (fun c51 => ?_)
    · have c51_ : a1.toInt ≥ v50.toInt := en_i_ge_t c51
      refine At.enter rfl ?_
      refine r_iconst 0 rfl ?_
      refine Ar.fall 17 rfl ?_
      refine At.enter rfl ?_
      refine q_iretz (by decide) ?_
      refine At.enter rfl ?_
      refine r_ift (by decide) ?_
      refine At.enter rfl ?_
      refine r_vret ?_
      exact ⟨_, rfl, hI0, hF0, rfl⟩
    · have c51_ : a1.toInt < v50.toInt := en_i_ge_f c51
      refine At.enter rfl ?_
      refine r_iconst 1 rfl ?_
      refine r_goto ?_
      refine At.enter rfl ?_
      refine q_iretz (by decide) ?_
      refine At.enter rfl ?_
      refine r_iff 11 rfl (by decide) ?_
      refine At.enter rfl ?_
      refine r_aload_n rfl ?_
      refine q_getR (Sh.ref hI0.1 kx_188 rfl) ?_
      refine r_iload_n rfl ?_
      refine r_iconst (-1) rfl ?_
      refine q_iast (Sh.arr hI0.1 ka_195) (a2.toInt) rfl (by omega) ?_
      have hI54 := HI.wA0 hI0 ka_195 (p := 195) rfl rfl (a2.toInt) ((-1))
      have hF55 := Fr.wA (p := 195) (j := a2.toInt) (v := (-1)) hF0 rfl
      refine r_aload_n rfl ?_
      refine q_getR (Sh.ref hI54.1 kx_188 rfl) ?_
      refine r_iload_n rfl ?_
      refine r_dup2 ⟨rfl, rfl⟩ ?_
      obtain ⟨v56, hv56⟩ : ∃ v, eA g0 199 a1.toInt = v := ⟨_, rfl⟩
      refine q_iald (Sh.arr hI54.1 ka_199) a1.toInt rfl (by omega) v56 ((eA_c (gA_sA_ne (by decide))).trans hv56) ?_
      refine r_iconst 1 rfl ?_
      refine q_isubO (fun v57 _ => ?_)
      refine q_iast (Sh.arr hI54.1 ka_199) (a1.toInt) rfl (by omega) ?_
      have hI58 := HI.wA0 hI54 ka_199 (p := 199) rfl rfl (a1.toInt) (v57)
      have hF59 := Fr.wA (p := 199) (j := a1.toInt) (v := v57) hF55 rfl
      refine r_aload_n rfl ?_
      refine q_getR (Sh.ref hI58.1 kx_188 rfl) ?_
      refine r_iload_n rfl ?_
      refine r_dup2 ⟨rfl, rfl⟩ ?_
      obtain ⟨v60, hv60⟩ : ∃ v, eA g0 200 a1.toInt = v := ⟨_, rfl⟩
      refine q_iald (Sh.arr hI58.1 ka_200) a1.toInt rfl (by omega) v60 ((eA_c ((gA_sA_ne (by decide)).trans (gA_sA_ne (by decide)))).trans hv60) ?_
      refine r_aload_n rfl ?_
      refine q_getR (Sh.ref hI58.1 kx_188 rfl) ?_
      refine r_iload_n rfl ?_
      refine r_iconst 0 rfl ?_
      refine r_callV 44 rfl [.ref 1, .int a2, .int 0] [.int v60, .int a1, .ref 200] (Nat.le_of_ble_eq_true rfl) rfl (T_X0_about_1 _ hI58 a2 0) ?_
      rintro _ _ ⟨g61, rfl, hI62, hF63, v64, rfl, hr65⟩
      refine At.sti ?_
      have ks68 := hr65.2.2
      have hr67 : _ ∧ _ := ⟨hr65.1, hr65.2.1⟩
      have hF66 := Fr.tr hF59 hF63 rfl rfl
      have zv69 : (0 : Int32).toInt = 0 := rfl
      refine At.enter rfl ?_
      refine q_isubO (fun v70 _ => ?_)
      refine q_iast (Sh.arr hI62.1 ka_200) (a1.toInt) rfl (by omega) ?_
      have hI71 := HI.wA0 hI62 ka_200 (p := 200) rfl rfl (a1.toInt) (v70)
      have hF72 := Fr.wA (p := 200) (j := a1.toInt) (v := v70) hF66 rfl
      refine Ar.fall 46 rfl ?_
      refine At.enter rfl ?_
      refine r_vret ?_
      exact ⟨_, rfl, hI71, hF72, rfl⟩

def F_X1_admit_188 : List (Nat × Nat) := [(188, 18)]
def A_X1_admit_188 : List Nat := [195, 196, 198, 199, 200]
set_option maxRecDepth 100000 in
set_option maxHeartbeats 4000000 in
theorem T_X1_admit_188 (d : Nat) {N : Nat} {g0 : List en_E} (hI0 : HI g0) (a1 : Int32) (h_a1 : 0 ≤ a1.toInt ∧ a1.toInt ≤ 7) (a2 : Int32) : Ev (d + 3) 25 [.ref 188, .int a1, .int a2] (g0, N) (fun w h' => ∃ g', h' = (g', N) ∧ HI g' ∧ Fr F_X1_admit_188 A_X1_admit_188 g0 g' ∧ w = none) := by
  have hF0 : Fr F_X1_admit_188 A_X1_admit_188 g0 g0 := Fr.rf
  refine Ev.mk rfl rfl ⟨Nat.le_of_ble_eq_true rfl, Or.inr (q_rc hI0.1 kx_188 rfl)⟩ ?_
  show At _ none _ _ (0, [(0, .ref 188), (1, .int a1), (2, .int a2)], [], (_, _)) _
  refine At.enter rfl ?_
  refine r_aload_n rfl ?_
  refine q_getR (Sh.ref hI0.1 kx_188 rfl) ?_
  refine r_iload_n rfl ?_
  refine r_iconst 1 rfl ?_
  refine r_callV 9 rfl [.ref 1, .int a1, .int 1] [] (Nat.le_of_ble_eq_true rfl) rfl (T_X0_about_1 _ hI0 a1 1) ?_
  rintro _ _ ⟨g69, rfl, hI70, hF71, v72, rfl, hr73⟩
  refine At.sti ?_
  have ks76 := hr73.2.2
  have hr75 : _ ∧ _ := ⟨hr73.1, hr73.2.1⟩
  have hF74 := Fr.tr hF0 hF71 rfl rfl
  have zv77 : (1 : Int32).toInt = 1 := rfl
  refine At.enter rfl ?_
  refine r_istore_n ([(3, .int v72), (0, .ref 188), (1, .int a1), (2, .int a2)]) rfl ?_
  refine r_iload_n rfl ?_
  refine r_aload_n rfl ?_
  refine q_getR (Sh.ref hI70.1 kx_188 rfl) ?_
  refine r_iload_n rfl ?_
  refine r_iconst 2 rfl ?_
  refine r_callV 20 rfl [.ref 1, .int a1, .int 2] [.int v72] (Nat.le_of_ble_eq_true rfl) rfl (T_X0_about_1 _ hI70 a1 2) ?_
  rintro _ _ ⟨g78, rfl, hI79, hF80, v81, rfl, hr82⟩
  refine At.sti ?_
  have ks85 := hr82.2.2
  have hr84 : _ ∧ _ := ⟨hr82.1, hr82.2.1⟩
  have hF83 := Fr.tr hF74 hF80 rfl rfl
  have zv86 : (2 : Int32).toInt = 2 := rfl
  refine At.enter rfl ?_
  refine r_ics 23 rfl (fun c87 => ?_) (fun c87 => ?_)
  · have c87_ : v72.toInt ≠ v81.toInt := en_i_ne_t c87
    refine At.enter rfl ?_
    refine r_aload_n rfl ?_
    refine r_iload_n rfl ?_
    refine r_iload_n rfl ?_
    refine r_callV 39 rfl [.ref 188, .int v72, .int a1] [] (Nat.le_of_ble_eq_true rfl) rfl (T_X1_canHold_188 _ hI79 v72 a1) ?_
    rintro _ _ ⟨g88, rfl, hI89, hF90, v91, rfl, hr92⟩
    refine At.sti ?_
    have hF93 := Fr.tr hF83 hF90 rfl rfl
    refine At.enter rfl ?_
    refine r_ifs 42 rfl (fun c94 => ?_) (fun c94 => ?_)
    · have c94_ : v91.toInt = 0 := en_k_eq_t c94
      refine At.enter rfl ?_
      refine r_vret ?_
      exact ⟨_, rfl, hI89, hF93, rfl⟩
    · have c94_ : v91.toInt ≠ 0 := en_k_eq_f c94
      refine At.enter rfl ?_
      refine r_aload_n rfl ?_
      refine r_iload_n rfl ?_
      refine r_iload_n rfl ?_
      refine r_callV 48 rfl [.ref 188, .int v72, .int a1] [] (Nat.le_of_ble_eq_true rfl) rfl (T_X1_take_188 _ hI89 v72 a1 (by omega)) ?_
      rintro _ _ ⟨g95, rfl, hI96, hF97, rfl⟩
      refine At.stn ?_
      have hF100 := Fr.tr hF93 hF97 rfl rfl
      refine At.enter rfl ?_
      refine r_vret ?_
      exact ⟨_, rfl, hI96, hF100, rfl⟩
  · have c87_ : v72.toInt = v81.toInt := en_i_ne_f c87
    refine At.enter rfl ?_
    refine r_aload_n rfl ?_
    refine q_getR (Sh.ref hI79.1 kx_188 rfl) ?_
    refine r_iload_n rfl ?_
    refine r_iload_n rfl ?_
    refine q_iast (Sh.arr hI79.1 ka_196) (a1.toInt) rfl (by omega) ?_
    have hI101 := HI.wA0 hI79 ka_196 (p := 196) rfl rfl (a1.toInt) (a2)
    have hF102 := Fr.wA (p := 196) (j := a1.toInt) (v := a2) hF83 rfl
    refine r_goto ?_
    refine At.enter rfl ?_
    refine r_vret ?_
    exact ⟨_, rfl, hI101, hF102, rfl⟩

def F_X1_arrive_188 : List (Nat × Nat) := [(188, 18)]
def A_X1_arrive_188 : List Nat := [195, 196, 198, 199, 200]
set_option maxRecDepth 100000 in
set_option maxHeartbeats 4000000 in
theorem T_X1_arrive_188 (d : Nat) {N : Nat} {g0 : List en_E} (hI0 : HI g0) (a1 : Int32) : Ev (d + 4) 24 [.ref 188, .int a1] (g0, N) (fun w h' => ∃ g', h' = (g', N) ∧ HI g' ∧ Fr F_X1_arrive_188 A_X1_arrive_188 g0 g' ∧ w = none) := by
  have hF0 : Fr F_X1_arrive_188 A_X1_arrive_188 g0 g0 := Fr.rf
  refine Ev.mk rfl rfl ⟨Nat.le_of_ble_eq_true rfl, Or.inr (q_rc hI0.1 kx_188 rfl)⟩ ?_
  show At _ none _ _ (0, [(0, .ref 188), (1, .int a1)], [], (_, _)) _
  refine At.enter rfl ?_
  refine r_iconst 0 rfl ?_
  refine r_istore_n ([(2, .int 0), (0, .ref 188), (1, .int a1)]) rfl ?_
  refine Ar.fall 2 rfl ?_
  have z_2915 : (0 : Int32).toInt = 0 := rfl
  refine w_loopI (fun n_ l_ g_ => ∃ x2904 : Int32, n_ = 8 - x2904.toInt ∧ HI g_ ∧ Fr F_X1_arrive_188 A_X1_arrive_188 g0 g_ ∧ en_get 0 l_ = some (.ref 188) ∧ en_get 1 l_ = some (.int a1) ∧ en_get 2 l_ = some (.int x2904) ∧ (0 ≤ x2904.toInt ∧ x2904.toInt ≤ 8)) ?_ (8 - 0) ⟨0, by first | rfl | omega, hI0, hF0, rfl, rfl, rfl, by decide⟩
  rintro n2909 l2908 g2905 ⟨x2904, hm2916, hI2906, hF2907, e2911, e2912, e2913, r2914⟩ ih2910
  refine At.enter rfl ?_
  refine r_iload_n e2913 ?_
  refine r_aload_n e2911 ?_
  refine q_getR (Sh.ref hI2906.1 kx_188 rfl) ?_
  obtain ⟨v2917, hv2917⟩ : ∃ v, gI g0 1 4 = v := ⟨_, rfl⟩
  have rv2917 := RgF.at hI0.2.1 (p := 1) (b := 4) rfl
  rw [hv2917] at rv2917
  dsimp only at rv2917
  refine q_getI (Sh.int hI2906.1 kx_1 rfl) v2917 ((hF2907.1 1 4 (by decide)).trans hv2917) ?_
  have bv2919 := q_bnd x2904
  have bv2920 := q_bnd v2917
  refine r_ics 13 rfl (fun c2918 => ?_) (fun c2918 => ?_)
  · have c2918_ : x2904.toInt ≥ v2917.toInt := en_i_ge_t c2918
    refine At.enter rfl ?_
    refine r_iconst 0 rfl ?_
    refine r_istore_n _ rfl ?_
    refine Ar.fall 57 rfl ?_
    have z_3030 : (0 : Int32).toInt = 0 := rfl
    refine w_loopI (fun n_ l_ g_ => ∃ x3019 : Int32, n_ = 8 - x3019.toInt ∧ HI g_ ∧ Fr F_X1_arrive_188 A_X1_arrive_188 g0 g_ ∧ en_get 0 l_ = some (.ref 188) ∧ en_get 1 l_ = some (.int a1) ∧ en_get 2 l_ = some (.int x3019) ∧ (0 ≤ x3019.toInt ∧ x3019.toInt ≤ 8)) ?_ (8 - 0) ⟨0, by first | rfl | omega, hI2906, hF2907, (w_p1 (by decide) (Or.inr rfl) e2911), (w_p1 (by decide) (Or.inr rfl) e2912), (w_e1 _ _ _), by decide⟩
    rintro n3024 l3023 g3020 ⟨x3019, hm3031, hI3021, hF3022, e3026, e3027, e3028, r3029⟩ ih3025
    refine At.enter rfl ?_
    refine r_iload_n e3028 ?_
    refine r_aload_n e3026 ?_
    refine q_getR (Sh.ref hI3021.1 kx_188 rfl) ?_
    refine q_getI (Sh.int hI3021.1 kx_1 rfl) v2917 ((hF3022.1 1 4 (by decide)).trans hv2917) ?_
    have bv3033 := q_bnd x3019
    refine r_ics 68 rfl (fun c3032 => ?_) (fun c3032 => ?_)
    · have c3032_ : x3019.toInt ≥ v2917.toInt := en_i_ge_t c3032
      refine At.enter rfl ?_
      refine r_vret ?_
      exact ⟨_, rfl, hI3021, hF3022, rfl⟩
    · have c3032_ : x3019.toInt < v2917.toInt := en_i_ge_f c3032
      refine At.enter rfl ?_
      refine r_aload_n e3026 ?_
      refine q_getR (Sh.ref hI3021.1 kx_188 rfl) ?_
      refine r_iload_n e3028 ?_
      obtain ⟨v3034, hv3034⟩ : ∃ v, eA g0 191 x3019.toInt = v := ⟨_, rfl⟩
      refine q_iald (Sh.arr hI3021.1 ka_191) x3019.toInt rfl (by omega) v3034 ((eA_c (hF3022.2.1 191 (by decide))).trans hv3034) ?_
      refine r_iload_n e3027 ?_
      refine r_ics 78 rfl (fun c3035 => ?_) (fun c3035 => ?_)
      · have c3035_ : v3034.toInt ≠ a1.toInt := en_i_ne_t c3035
        refine At.enter rfl ?_
        refine q_iinc e3028 (x3019.toInt + 1) rfl (by omega) (fun v3036 hv3036 => ?_)
        refine r_goto ?_
        exact ih3025 (8 - v3036.toInt) _ _ ⟨v3036, by first | rfl | omega, hI3021, hF3022, (w_p1 (by decide) (Or.inr rfl) e3026), (w_p1 (by decide) (Or.inr rfl) e3027), (w_e1 _ _ _), by omega⟩ ⟨by omega, by omega⟩
      · have c3035_ : v3034.toInt = a1.toInt := en_i_ne_f c3035
        refine At.enter rfl ?_
        refine r_aload_n e3026 ?_
        refine r_iload_n e3028 ?_
        refine r_iload_n e3027 ?_
        refine r_callV 84 rfl [.ref 188, .int x3019, .int a1] [] (Nat.le_of_ble_eq_true rfl) rfl (T_X1_admit_188 _ hI3021 x3019 (by omega) a1) ?_
        rintro _ _ ⟨g3037, rfl, hI3038, hF3039, rfl⟩
        refine At.stn ?_
        have hF3042 := Fr.tr hF3022 hF3039 rfl rfl
        refine At.enter rfl ?_
        refine q_iinc e3028 (x3019.toInt + 1) rfl (by omega) (fun v3043 hv3043 => ?_)
        refine r_goto ?_
        exact ih3025 (8 - v3043.toInt) _ _ ⟨v3043, by first | rfl | omega, hI3038, hF3042, (w_p1 (by decide) (Or.inr rfl) e3026), (w_p1 (by decide) (Or.inr rfl) e3027), (w_e1 _ _ _), by omega⟩ ⟨by omega, by omega⟩
  · have c2918_ : x2904.toInt < v2917.toInt := en_i_ge_f c2918
    refine At.enter rfl ?_
    refine r_aload_n e2911 ?_
    refine q_getR (Sh.ref hI2906.1 kx_188 rfl) ?_
    refine r_iload_n e2913 ?_
    obtain ⟨v3044, hv3044⟩ : ∃ v, eA g0 191 x2904.toInt = v := ⟨_, rfl⟩
    refine q_iald (Sh.arr hI2906.1 ka_191) x2904.toInt rfl (by omega) v3044 ((eA_c (hF2907.2.1 191 (by decide))).trans hv3044) ?_
    refine r_iload_n e2912 ?_
    have bv3046 := q_bnd v3044
    have bv3047 := q_bnd a1
    refine r_ics 23 rfl (fun c3045 => ?_) (fun c3045 => ?_)
    · have c3045_ : v3044.toInt ≥ a1.toInt := en_i_ge_t c3045
      refine At.enter rfl ?_
      refine q_iinc e2913 (x2904.toInt + 1) rfl (by omega) (fun v3048 hv3048 => ?_)
      refine r_goto ?_
      exact ih2910 (8 - v3048.toInt) _ _ ⟨v3048, by first | rfl | omega, hI2906, hF2907, (w_p1 (by decide) (Or.inr rfl) e2911), (w_p1 (by decide) (Or.inr rfl) e2912), (w_e1 _ _ _), by omega⟩ ⟨by omega, by omega⟩
    · have c3045_ : v3044.toInt < a1.toInt := en_i_ge_f c3045
      refine At.enter rfl ?_
      refine r_aload_n e2911 ?_
      refine q_getR (Sh.ref hI2906.1 kx_188 rfl) ?_
      refine r_iload_n e2913 ?_
      obtain ⟨v3049, hv3049⟩ : ∃ v, eA g2905 195 x2904.toInt = v := ⟨_, rfl⟩
      refine q_iald (Sh.arr hI2906.1 ka_195) x2904.toInt rfl (by omega) v3049 hv3049 ?_
      refine r_iconst (-1) rfl ?_
      refine r_ics 33 rfl (fun c3050 => ?_) (fun c3050 => ?_)
      · have c3050_ : v3049.toInt ≠ (-1) := en_i_ne_t c3050
        refine At.enter rfl ?_
        refine q_iinc e2913 (x2904.toInt + 1) rfl (by omega) (fun v3051 hv3051 => ?_)
        refine r_goto ?_
        exact ih2910 (8 - v3051.toInt) _ _ ⟨v3051, by first | rfl | omega, hI2906, hF2907, (w_p1 (by decide) (Or.inr rfl) e2911), (w_p1 (by decide) (Or.inr rfl) e2912), (w_e1 _ _ _), by omega⟩ ⟨by omega, by omega⟩
      · have c3050_ : v3049.toInt = (-1) := en_i_ne_f c3050
        refine At.enter rfl ?_
        refine r_aload_n e2911 ?_
        refine q_getR (Sh.ref hI2906.1 kx_188 rfl) ?_
        refine r_iload_n e2913 ?_
        obtain ⟨v3052, hv3052⟩ : ∃ v, eA g2905 196 x2904.toInt = v := ⟨_, rfl⟩
        refine q_iald (Sh.arr hI2906.1 ka_196) x2904.toInt rfl (by omega) v3052 hv3052 ?_
        refine r_iconst (-1) rfl ?_
        refine r_ics 43 rfl (fun c3053 => ?_) (fun c3053 => ?_)
        · have c3053_ : v3052.toInt ≠ (-1) := en_i_ne_t c3053
          refine At.enter rfl ?_
          refine q_iinc e2913 (x2904.toInt + 1) rfl (by omega) (fun v3054 hv3054 => ?_)
          refine r_goto ?_
          exact ih2910 (8 - v3054.toInt) _ _ ⟨v3054, by first | rfl | omega, hI2906, hF2907, (w_p1 (by decide) (Or.inr rfl) e2911), (w_p1 (by decide) (Or.inr rfl) e2912), (w_e1 _ _ _), by omega⟩ ⟨by omega, by omega⟩
        · have c3053_ : v3052.toInt = (-1) := en_i_ne_f c3053
          refine At.enter rfl ?_
          refine r_aload_n e2911 ?_
          refine r_iload_n e2913 ?_
          refine r_iload_n e2912 ?_
          refine r_callV 49 rfl [.ref 188, .int x2904, .int a1] [] (Nat.le_of_ble_eq_true rfl) rfl (T_X1_admit_188 _ hI2906 x2904 (by omega) a1) ?_
          rintro _ _ ⟨g3055, rfl, hI3056, hF3057, rfl⟩
          refine At.stn ?_
          have hF3060 := Fr.tr hF2907 hF3057 rfl rfl
          refine At.enter rfl ?_
          refine q_iinc e2913 (x2904.toInt + 1) rfl (by omega) (fun v3061 hv3061 => ?_)
          refine r_goto ?_
          exact ih2910 (8 - v3061.toInt) _ _ ⟨v3061, by first | rfl | omega, hI3056, hF3060, (w_p1 (by decide) (Or.inr rfl) e2911), (w_p1 (by decide) (Or.inr rfl) e2912), (w_e1 _ _ _), by omega⟩ ⟨by omega, by omega⟩
