def F_X10_of_0 : List (Nat × Nat) := []
def A_X10_of_0 : List Nat := []
set_option maxRecDepth 100000 in
set_option maxHeartbeats 4000000 in
theorem T_X10_of_0 (d : Nat) {N : Nat} {g0 : List en_E} (hI0 : HI g0) (a1 : Int32) (a2 : Int32) : Ev (d + 3) 106 [.ref 0, .int a1, .int a2] (g0, N) (fun w h' => ∃ g', h' = (g', N) ∧ HI g' ∧ Fr F_X10_of_0 A_X10_of_0 g0 g' ∧ ∃ r : Int32, w = some (.int r) ∧ True ∧ ((¬ (0 ≤ a1.toInt ∧ a1.toInt < (gI g0 1 0).toInt) ∨ a2.toInt < 0 ∨ 3 < a2.toInt → r.toInt = -1) ∧ (0 ≤ a1.toInt ∧ a1.toInt < (gI g0 1 0).toInt ∧ a2.toInt = 3 → r.toInt = NX g0 a1.toInt) ∧ (0 ≤ a1.toInt ∧ a1.toInt < (gI g0 1 0).toInt ∧ a2.toInt = 0 → r.toInt = (eA g0 2 a1.toInt).toInt) ∧ (0 ≤ a1.toInt ∧ a1.toInt < (gI g0 1 0).toInt ∧ a2.toInt = 1 → r.toInt = (eA g0 3 a1.toInt).toInt) ∧ (0 ≤ a1.toInt ∧ a1.toInt < (gI g0 1 0).toInt ∧ a2.toInt = 2 → r.toInt = (eA g0 4 a1.toInt).toInt))) := by
  have hF0 : Fr F_X10_of_0 A_X10_of_0 g0 g0 := Fr.rf
  refine Ev.mk rfl rfl ⟨Nat.le_of_ble_eq_true rfl, Or.inr (q_rc hI0.1 kx_0 rfl)⟩ ?_
  show At _ none _ _ (0, [(0, .ref 0), (1, .int a1), (2, .int a2)], [], (_, _)) _
  refine At.enter rfl ?_
  refine r_aload_n rfl ?_
  refine q_getR (Sh.ref hI0.1 kx_0 rfl) ?_
  refine r_iload_n rfl ?_
  refine q_inlV 8 rfl [.ref 1, .int a1] [] (Nat.le_of_ble_eq_true rfl) rfl ?_
  refine Ev.mk rfl rfl ⟨Nat.le_of_ble_eq_true rfl, Or.inr (q_rc hI0.1 kx_1 rfl)⟩ ?_
  show At _ none _ _ (0, [(0, .ref 1), (1, .int a1)], [], (_, _)) _
  refine At.enter rfl ?_
  refine r_iload_n rfl ?_
  refine r_ifs 4 rfl (fun c37 => ?_) (fun c37 => ?_)
  · have c37_ : a1.toInt < 0 := en_k_lt_t c37
    refine At.enter rfl ?_
    refine r_iconst 0 rfl ?_
    refine Ar.fall 17 rfl ?_
    refine At.enter rfl ?_
    refine q_iretz (by decide) ?_
    refine At.enter rfl ?_
    refine r_iff 11 rfl (by decide) ?_
    refine At.enter rfl ?_
    refine r_iconst (-1) rfl ?_
    refine r_ireti ?_
    have zv38 : ((-1) : Int32).toInt = (-1) := rfl
    obtain ⟨v39, hv39⟩ : ∃ v, gI g0 1 0 = v := ⟨_, rfl⟩
    have rv39 := RgF.at hI0.2.1 (p := 1) (b := 0) rfl
    rw [hv39] at rv39
    dsimp only at rv39
    have tv39 := congrArg Int32.toInt hv39
    have x40 := HI.eqI hI0 (p := 1) (b := 0) (hv39)
    exact ⟨_, rfl, hI0, hF0, _, rfl, trivial, ⟨by omega, by omega, by omega, by omega, by omega⟩⟩
  · have c37_ : a1.toInt ≥ 0 := en_k_lt_f c37
    refine At.enter rfl ?_
    refine r_iload_n rfl ?_
    refine r_aload_n rfl ?_
    obtain ⟨v41, hv41⟩ : ∃ v, gI g0 1 0 = v := ⟨_, rfl⟩
    have rv41 := RgF.at hI0.2.1 (p := 1) (b := 0) rfl
    rw [hv41] at rv41
    dsimp only at rv41
    refine q_getI (Sh.int hI0.1 kx_1 rfl) v41 hv41 ?_
    have bv43 := q_bnd a1
    have bv44 := q_bnd v41
    refine r_ics 12 rfl (fun c42 => ?_) (fun c42 => ?_)
    · have c42_ : a1.toInt ≥ v41.toInt := en_i_ge_t c42
      refine At.enter rfl ?_
      refine r_iconst 0 rfl ?_
      refine Ar.fall 17 rfl ?_
      refine At.enter rfl ?_
      refine q_iretz (by decide) ?_
      refine At.enter rfl ?_
      refine r_iff 11 rfl (by decide) ?_
      refine At.enter rfl ?_
      refine r_iconst (-1) rfl ?_
      refine r_ireti ?_
      have zv45 : ((-1) : Int32).toInt = (-1) := rfl
      have x46 := HI.eqI hI0 (p := 1) (b := 0) (hv41)
      exact ⟨_, rfl, hI0, hF0, _, rfl, trivial, ⟨by omega, by omega, by omega, by omega, by omega⟩⟩
    · have c42_ : a1.toInt < v41.toInt := en_i_ge_f c42
      refine At.enter rfl ?_
      refine r_iconst 1 rfl ?_
      refine r_goto ?_
      refine At.enter rfl ?_
      refine q_iretz (by decide) ?_
      refine At.enter rfl ?_
      refine r_ift (by decide) ?_
      refine At.enter rfl ?_
      refine r_iload_n rfl ?_
      by_cases c47_0 : a2.toInt = 0
      · refine r_tsw 44 (by rw [c47_0]; rfl) ?_
        refine At.enter rfl ?_
        refine r_aload_n rfl ?_
        refine q_getR (Sh.ref hI0.1 kx_0 rfl) ?_
        refine q_getR (Sh.ref hI0.1 kx_1 rfl) ?_
        refine r_iload_n rfl ?_
        obtain ⟨v48, hv48⟩ : ∃ v, eA g0 2 a1.toInt = v := ⟨_, rfl⟩
        refine q_iald (Sh.arr hI0.1 ka_2) a1.toInt rfl (by omega) v48 hv48 ?_
        refine r_ireti ?_
        have x49 := HI.eqI hI0 (p := 1) (b := 0) (hv41)
        have y50 := congrArg Int32.toInt hv48
        exact ⟨_, rfl, hI0, hF0, _, rfl, trivial, ⟨by omega, by omega, by omega, by omega, by omega⟩⟩
      by_cases c47_1 : a2.toInt = 1
      · refine r_tsw 54 (by rw [c47_1]; rfl) ?_
        refine At.enter rfl ?_
        refine r_aload_n rfl ?_
        refine q_getR (Sh.ref hI0.1 kx_0 rfl) ?_
        refine q_getR (Sh.ref hI0.1 kx_1 rfl) ?_
        refine r_iload_n rfl ?_
        obtain ⟨v51, hv51⟩ : ∃ v, eA g0 3 a1.toInt = v := ⟨_, rfl⟩
        refine q_iald (Sh.arr hI0.1 ka_3) a1.toInt rfl (by omega) v51 hv51 ?_
        refine r_ireti ?_
        have x52 := HI.eqI hI0 (p := 1) (b := 0) (hv41)
        have y53 := congrArg Int32.toInt hv51
        exact ⟨_, rfl, hI0, hF0, _, rfl, trivial, ⟨by omega, by omega, by omega, by omega, by omega⟩⟩
      by_cases c47_2 : a2.toInt = 2
      · refine r_tsw 64 (by rw [c47_2]; rfl) ?_
        refine At.enter rfl ?_
        refine r_aload_n rfl ?_
        refine q_getR (Sh.ref hI0.1 kx_0 rfl) ?_
        refine q_getR (Sh.ref hI0.1 kx_1 rfl) ?_
        refine r_iload_n rfl ?_
        obtain ⟨v54, hv54⟩ : ∃ v, eA g0 4 a1.toInt = v := ⟨_, rfl⟩
        refine q_iald (Sh.arr hI0.1 ka_4) a1.toInt rfl (by omega) v54 hv54 ?_
        refine r_ireti ?_
        have x55 := HI.eqI hI0 (p := 1) (b := 0) (hv41)
        have y56 := congrArg Int32.toInt hv54
        exact ⟨_, rfl, hI0, hF0, _, rfl, trivial, ⟨by omega, by omega, by omega, by omega, by omega⟩⟩
      by_cases c47_3 : a2.toInt = 3
      · refine r_tsw 74 (by rw [c47_3]; rfl) ?_
        refine At.enter rfl ?_
        refine r_aload_n rfl ?_
        refine q_getR (Sh.ref hI0.1 kx_0 rfl) ?_
        refine r_iload_n rfl ?_
        refine r_callV 82 rfl [.ref 1, .int a1] [] (Nat.le_of_ble_eq_true rfl) rfl (T_X0_next_1 _ hI0 a1) ?_
        rintro _ _ ⟨g57, rfl, hI58, hF59, v60, rfl, hr61⟩
        refine At.sti ?_
        have ks64 := hr61.2.2
        have hr63 : _ ∧ _ := ⟨hr61.1, hr61.2.1⟩
        have hF62 := Fr.tr hF0 hF59 rfl rfl
        refine At.enter rfl ?_
        refine r_ireti ?_
        have x65 := HI.eqI hI0 (p := 1) (b := 0) (hv41)
        exact ⟨_, rfl, hI58, hF62, _, rfl, trivial, ⟨by omega, by omega, by omega, by omega, by omega⟩⟩
      have c66 : a2.toInt < 0 ∨ 3 < a2.toInt := by omega
      refine r_tsw 83 (by unfold en_sw; rw [if_pos c66]; rfl) ?_
      refine At.enter rfl ?_
      refine r_iconst (-1) rfl ?_
      refine r_ireti ?_
      have zv67 : ((-1) : Int32).toInt = (-1) := rfl
      have x68 := HI.eqI hI0 (p := 1) (b := 0) (hv41)
      exact ⟨_, rfl, hI0, hF0, _, rfl, trivial, ⟨by omega, by omega, by omega, by omega, by omega⟩⟩

def F_X10_load_0 : List (Nat × Nat) := [(0, 14), (0, 17), (1, 4), (220, 2), (222, 2), (223, 5), (223, 10)]
def A_X10_load_0 : List Nat := [5, 230]
theorem mf_X10_changed_0_1_4 : memF F_X10_changed_0 1 4 = false := by decide
theorem mf_X10_whyNoLoad_0_1_4 : memF F_X10_whyNoLoad_0 1 4 = false := by decide
theorem ma_X10_changed_0_5 : memA A_X10_changed_0 5 = false := by decide
theorem ma_X10_whyNoLoad_0_5 : memA A_X10_whyNoLoad_0 5 = false := by decide
theorem mf_X0_addLoad_1_223_5 : memF F_X0_addLoad_1 223 5 = false := by decide
theorem mf_X0_addLoad_1_223_10 : memF F_X0_addLoad_1 223 10 = false := by decide
theorem mf_X10_refused_0_1_4 : memF F_X10_refused_0 1 4 = false := by decide
theorem ma_X10_refused_0_5 : memA A_X10_refused_0 5 = false := by decide
set_option maxRecDepth 100000 in
set_option maxHeartbeats 4000000 in
theorem T_X10_load_0 (d : Nat) {N : Nat} {g0 : List en_E} (hI0 : HI g0) (a1 : Int32) (a2 : Int32) (a3 : Int32) (a4 : Int32) (a5 : Int32) (a6 : Int32) : Ev (d + 3) 107 [.ref 0, .int a1, .int a2, .int a3, .int a4, .int a5, .int a6] (g0, N) (fun w h' => ∃ g', h' = (g', N) ∧ HI g' ∧ Fr F_X10_load_0 A_X10_load_0 g0 g' ∧ ∃ r : Int32, w = some (.int r) ∧ ((-5) ≤ r.toInt ∧ r.toInt ≤ 7) ∧ ((((¬ (1 ≤ a1.toInt ∧ a1.toInt ≤ 9 ∧ 0 ≤ a4.toInt ∧ a4.toInt ≤ 99 ∧ 0 ≤ a5.toInt ∧ a5.toInt ≤ 9 ∧ 0 ≤ a6.toInt ∧ a6.toInt ≤ 9999) → r.toInt = -1 ∧ (gI g' 1 4).toInt = (gI g0 1 4).toInt) ∧ ((1 ≤ a1.toInt ∧ a1.toInt ≤ 9 ∧ 0 ≤ a4.toInt ∧ a4.toInt ≤ 99 ∧ 0 ≤ a5.toInt ∧ a5.toInt ≤ 9 ∧ 0 ≤ a6.toInt ∧ a6.toInt ≤ 9999) ∧ ¬ (0 ≤ a2.toInt ∧ a2.toInt < (gI g0 1 0).toInt ∧ 0 ≤ a3.toInt ∧ a3.toInt < (gI g0 1 0).toInt) → r.toInt = -2 ∧ (gI g' 1 4).toInt = (gI g0 1 4).toInt) ∧ ((1 ≤ a1.toInt ∧ a1.toInt ≤ 9 ∧ 0 ≤ a4.toInt ∧ a4.toInt ≤ 99 ∧ 0 ≤ a5.toInt ∧ a5.toInt ≤ 9 ∧ 0 ≤ a6.toInt ∧ a6.toInt ≤ 9999) ∧ (0 ≤ a2.toInt ∧ a2.toInt < (gI g0 1 0).toInt ∧ 0 ≤ a3.toInt ∧ a3.toInt < (gI g0 1 0).toInt) ∧ 8 ≤ (gI g0 1 4).toInt → r.toInt = -5 ∧ (gI g' 1 4).toInt = (gI g0 1 4).toInt) ∧ ((1 ≤ a1.toInt ∧ a1.toInt ≤ 9 ∧ 0 ≤ a4.toInt ∧ a4.toInt ≤ 99 ∧ 0 ≤ a5.toInt ∧ a5.toInt ≤ 9 ∧ 0 ≤ a6.toInt ∧ a6.toInt ≤ 9999) ∧ (0 ≤ a2.toInt ∧ a2.toInt < (gI g0 1 0).toInt ∧ 0 ≤ a3.toInt ∧ a3.toInt < (gI g0 1 0).toInt) ∧ (gI g0 1 4).toInt < 8 → r.toInt = (gI g0 1 4).toInt ∧ (gI g' 1 4).toInt = (gI g0 1 4).toInt + 1)) ∧ (∀ i : Int, 0 ≤ i → i < 48 → (eA g' 5 (i)).toInt = if ((1 ≤ a1.toInt ∧ a1.toInt ≤ 9 ∧ 0 ≤ a4.toInt ∧ a4.toInt ≤ 99 ∧ 0 ≤ a5.toInt ∧ a5.toInt ≤ 9 ∧ 0 ≤ a6.toInt ∧ a6.toInt ≤ 9999) ∧ (0 ≤ a2.toInt ∧ a2.toInt < (gI g0 1 0).toInt ∧ 0 ≤ a3.toInt ∧ a3.toInt < (gI g0 1 0).toInt) ∧ (gI g0 1 4).toInt < 8) ∧ i = 6 * (gI g0 1 4).toInt + 0 then a1.toInt else if ((1 ≤ a1.toInt ∧ a1.toInt ≤ 9 ∧ 0 ≤ a4.toInt ∧ a4.toInt ≤ 99 ∧ 0 ≤ a5.toInt ∧ a5.toInt ≤ 9 ∧ 0 ≤ a6.toInt ∧ a6.toInt ≤ 9999) ∧ (0 ≤ a2.toInt ∧ a2.toInt < (gI g0 1 0).toInt ∧ 0 ≤ a3.toInt ∧ a3.toInt < (gI g0 1 0).toInt) ∧ (gI g0 1 4).toInt < 8) ∧ i = 6 * (gI g0 1 4).toInt + 1 then a2.toInt else if ((1 ≤ a1.toInt ∧ a1.toInt ≤ 9 ∧ 0 ≤ a4.toInt ∧ a4.toInt ≤ 99 ∧ 0 ≤ a5.toInt ∧ a5.toInt ≤ 9 ∧ 0 ≤ a6.toInt ∧ a6.toInt ≤ 9999) ∧ (0 ≤ a2.toInt ∧ a2.toInt < (gI g0 1 0).toInt ∧ 0 ≤ a3.toInt ∧ a3.toInt < (gI g0 1 0).toInt) ∧ (gI g0 1 4).toInt < 8) ∧ i = 6 * (gI g0 1 4).toInt + 2 then a3.toInt else if ((1 ≤ a1.toInt ∧ a1.toInt ≤ 9 ∧ 0 ≤ a4.toInt ∧ a4.toInt ≤ 99 ∧ 0 ≤ a5.toInt ∧ a5.toInt ≤ 9 ∧ 0 ≤ a6.toInt ∧ a6.toInt ≤ 9999) ∧ (0 ≤ a2.toInt ∧ a2.toInt < (gI g0 1 0).toInt ∧ 0 ≤ a3.toInt ∧ a3.toInt < (gI g0 1 0).toInt) ∧ (gI g0 1 4).toInt < 8) ∧ i = 6 * (gI g0 1 4).toInt + 3 then a4.toInt else if ((1 ≤ a1.toInt ∧ a1.toInt ≤ 9 ∧ 0 ≤ a4.toInt ∧ a4.toInt ≤ 99 ∧ 0 ≤ a5.toInt ∧ a5.toInt ≤ 9 ∧ 0 ≤ a6.toInt ∧ a6.toInt ≤ 9999) ∧ (0 ≤ a2.toInt ∧ a2.toInt < (gI g0 1 0).toInt ∧ 0 ≤ a3.toInt ∧ a3.toInt < (gI g0 1 0).toInt) ∧ (gI g0 1 4).toInt < 8) ∧ i = 6 * (gI g0 1 4).toInt + 4 then a5.toInt else if ((1 ≤ a1.toInt ∧ a1.toInt ≤ 9 ∧ 0 ≤ a4.toInt ∧ a4.toInt ≤ 99 ∧ 0 ≤ a5.toInt ∧ a5.toInt ≤ 9 ∧ 0 ≤ a6.toInt ∧ a6.toInt ≤ 9999) ∧ (0 ≤ a2.toInt ∧ a2.toInt < (gI g0 1 0).toInt ∧ 0 ≤ a3.toInt ∧ a3.toInt < (gI g0 1 0).toInt) ∧ (gI g0 1 4).toInt < 8) ∧ i = 6 * (gI g0 1 4).toInt + 5 then a6.toInt else (eA g0 5 (i)).toInt)) ∧ ((TOLDX g0 → TOLDX g') ∧ (SETX g0 → SETX g')))) := by
  have hF0 : Fr F_X10_load_0 A_X10_load_0 g0 g0 := Fr.rf
  refine Ev.mk rfl rfl ⟨Nat.le_of_ble_eq_true rfl, Or.inr (q_rc hI0.1 kx_0 rfl)⟩ ?_
  show At _ none _ _ (0, [(0, .ref 0), (1, .int a1), (2, .int a2), (3, .int a3), (4, .int a4), (5, .int a5), (6, .int a6)], [], (_, _)) _
  refine At.enter rfl ?_
  refine r_aload_n rfl ?_
  refine r_iload_n rfl ?_
  refine r_iload_n rfl ?_
  refine r_iload_n rfl ?_
  refine r_iload rfl ?_
  refine r_iload rfl ?_
  refine r_iload rfl ?_
  refine r_callV 13 rfl [.ref 0, .int a1, .int a2, .int a3, .int a4, .int a5, .int a6] [] (Nat.le_of_ble_eq_true rfl) rfl (T_X10_whyNoLoad_0 _ hI0 a1 a2 a3 a4 a5 a6) ?_
  rintro _ _ ⟨g63, rfl, hI64, hF65, v66, rfl, hr67⟩
  refine At.sti ?_
  have hF68 := Fr.tr hF0 hF65 rfl rfl
  obtain ⟨v69, hv69⟩ : ∃ v, gI g0 1 0 = v := ⟨_, rfl⟩
  have rv69 := RgF.at hI0.2.1 (p := 1) (b := 0) rfl
  rw [hv69] at rv69
  dsimp only at rv69
  have tv69 := congrArg Int32.toInt hv69
  obtain ⟨v71, hv71⟩ : ∃ v, gI g0 1 4 = v := ⟨_, rfl⟩
  have rv71 := RgF.at hI0.2.1 (p := 1) (b := 4) rfl
  rw [hv71] at rv71
  dsimp only at rv71
  have tv71 := congrArg Int32.toInt hv71
  refine At.enter rfl ?_
  refine r_istore ([(7, .int v66), (0, .ref 0), (1, .int a1), (2, .int a2), (3, .int a3), (4, .int a4), (5, .int a5), (6, .int a6)]) rfl ?_
  refine r_iload rfl ?_
  refine r_ifs 20 rfl (fun c73 => ?_) (fun c73 => ?_)
  · have c73_ : v66.toInt = 0 := en_k_eq_t c73
    refine At.enter rfl ?_
    refine r_aload_n rfl ?_
    refine r_callV 31 rfl [.ref 0] [] (Nat.le_of_ble_eq_true rfl) rfl (T_X10_changed_0 _ hI64) ?_
    rintro _ _ ⟨g74, rfl, hI75, hF76, rfl, hr78⟩
    refine At.stn ?_
    have hF79 := Fr.tr hF68 hF76 rfl rfl
    refine At.enter rfl ?_
    refine r_aload_n rfl ?_
    refine r_aload_n rfl ?_
    refine q_getR (Sh.ref hI75.1 kx_0 rfl) ?_
    refine r_iload_n rfl ?_
    refine r_iload_n rfl ?_
    refine r_iload_n rfl ?_
    refine r_iload rfl ?_
    refine r_iload rfl ?_
    refine r_iload rfl ?_
    refine r_callV 48 rfl [.ref 1, .int a1, .int a2, .int a3, .int a4, .int a5, .int a6] [.ref 0] (Nat.le_of_ble_eq_true rfl) rfl (T_X0_addLoad_1 _ hI75 a1 a2 a3 a4 a5 a6) ?_
    rintro _ _ ⟨g80, rfl, hI81, hF82, v83, rfl, hr84⟩
    refine At.sti ?_
    have hF85 := Fr.tr hF79 hF82 rfl rfl
    have x86 := HI.eqI hI75 (p := 1) (b := 4) ((((hF76.1 1 4 mf_X10_changed_0_1_4).trans (hF65.1 1 4 mf_X10_whyNoLoad_0_1_4)).trans hv71))
    obtain ⟨v87, hv87⟩ : ∃ v, gI g80 1 4 = v := ⟨_, rfl⟩
    have rv87 := RgF.at hI81.2.1 (p := 1) (b := 4) rfl
    rw [hv87] at rv87
    dsimp only at rv87
    have tv87 := congrArg Int32.toInt hv87
    refine At.enter rfl ?_
    refine q_inlV 51 rfl [.ref 0, .int v83] [] (Nat.le_of_ble_eq_true rfl) rfl ?_
    refine Ev.mk rfl rfl ⟨Nat.le_of_ble_eq_true rfl, Or.inr (q_rc hI81.1 kx_0 rfl)⟩ ?_
    show At _ none _ _ (0, [(0, .ref 0), (1, .int v83)], [], (_, _)) _
    refine At.enter rfl ?_
    refine r_aload_n rfl ?_
    refine r_iconst 0 rfl ?_
    refine q_putI (Sh.int hI81.1 kx_0 rfl) rfl ?_
    have hI89 := HI.wI0 hI81 kx_0 rfl (p := 0) (b := 17) (v := 0) rfl
    have hF90 := Fr.wI (p := 0) (b := 17) (v := 0) hF85 rfl
    refine r_iload_n rfl ?_
    refine q_ireti ?_
    refine At.enter rfl ?_
    refine r_ireti ?_
    have x91 := HI.eqI hI89 (p := 1) (b := 4) (((gI_sI_ne (by decide)).trans hv87))
    exact ⟨_, rfl, hI89, hF90, _, rfl, by omega, ⟨⟨(have c := WNL.y hr67.2 (by omega); ⟨fun h => absurd c.1 h, fun h => absurd c.2.1 h.2, fun h => absurd c.2.2 (Int.not_lt.mpr h.2.2), fun _ => ⟨by omega, by omega⟩⟩), (by have c := WNL.y hr67.2 (by omega); intro i i0 i1; refine (eA_ti ((gA_sI))).trans ?_; have z := hr84.2.2.2 i i0 i1; rw [show (gI g74 1 4).toInt = (gI g0 1 4).toInt from congrArg Int32.toInt (((hF76.1 1 4 mf_X10_changed_0_1_4).trans (hF65.1 1 4 mf_X10_whyNoLoad_0_1_4))), eA_ti (j := i) (((hF76.2.1 5 ma_X10_changed_0_5).trans (hF65.2.1 5 ma_X10_whyNoLoad_0_5)))] at z; rw [ite_ap c.2.2, ite_ap c.2.2, ite_ap c.2.2, ite_ap c.2.2, ite_ap c.2.2, ite_ap c.2.2] at z; rw [ite_ap c, ite_ap c, ite_ap c, ite_ap c, ite_ap c, ite_ap c]; exact z)⟩, ⟨(fun _ => TOLDX_z ((congrArg Int32.toInt (((gI_sI_ne (by decide)).trans (hF82.1 223 5 mf_X0_addLoad_1_223_5)))).trans hr78.1)), (fun _ => SETX_z ((congrArg Int32.toInt (((gI_sI_ne (by decide)).trans (hF82.1 223 10 mf_X0_addLoad_1_223_10)))).trans hr78.2))⟩⟩⟩
  · have c73_ : v66.toInt ≠ 0 := en_k_eq_f c73
    refine At.enter rfl ?_
    refine r_aload_n rfl ?_
    refine r_iload rfl ?_
    refine r_callV 26 rfl [.ref 0, .int v66] [] (Nat.le_of_ble_eq_true rfl) rfl (T_X10_refused_0 _ hI64 v66 (by omega)) ?_
    rintro _ _ ⟨g94, rfl, hI95, hF96, v97, rfl, hr98⟩
    refine At.sti ?_
    have hF99 := Fr.tr hF68 hF96 rfl rfl
    refine At.enter rfl ?_
    refine r_ireti ?_
    have x100 := HI.eqI hI95 (p := 1) (b := 4) ((((hF96.1 1 4 mf_X10_refused_0_1_4).trans (hF65.1 1 4 mf_X10_whyNoLoad_0_1_4)).trans hv71))
    exact ⟨_, rfl, hI95, hF99, _, rfl, by omega, ⟨⟨(by rcases WNL.cs hr67.2 (by omega) with ⟨k, kv⟩ | ⟨k, l, kv⟩ | ⟨k, l, o, kv⟩; exact ⟨fun _ => ⟨by clear k; omega, by clear k; omega⟩, fun h => absurd h.1 k, fun h => absurd h.1 k, fun h => absurd h.1 k⟩; exact ⟨fun h => absurd k h, fun _ => ⟨by clear k l; omega, by clear k l; omega⟩, fun h => absurd h.2.1 l, fun h => absurd h.2.1 l⟩; exact ⟨fun h => absurd k h, fun h => absurd l h.2, fun _ => ⟨by clear k l; omega, by clear k l; omega⟩, fun h => absurd h.2.2 (Int.not_lt.mpr o)⟩), (by have kn : ¬ ((1 ≤ a1.toInt ∧ a1.toInt ≤ 9 ∧ 0 ≤ a4.toInt ∧ a4.toInt ≤ 99 ∧ 0 ≤ a5.toInt ∧ a5.toInt ≤ 9 ∧ 0 ≤ a6.toInt ∧ a6.toInt ≤ 9999) ∧ (0 ≤ a2.toInt ∧ a2.toInt < (gI g0 1 0).toInt ∧ 0 ≤ a3.toInt ∧ a3.toInt < (gI g0 1 0).toInt) ∧ (gI g0 1 4).toInt < 8) := (WNL.n hr67.2 (by omega)); intro i i0 i1; refine Eq.trans ?_ (if_neg (show ¬ (((1 ≤ a1.toInt ∧ a1.toInt ≤ 9 ∧ 0 ≤ a4.toInt ∧ a4.toInt ≤ 99 ∧ 0 ≤ a5.toInt ∧ a5.toInt ≤ 9 ∧ 0 ≤ a6.toInt ∧ a6.toInt ≤ 9999) ∧ (0 ≤ a2.toInt ∧ a2.toInt < (gI g0 1 0).toInt ∧ 0 ≤ a3.toInt ∧ a3.toInt < (gI g0 1 0).toInt) ∧ (gI g0 1 4).toInt < 8) ∧ i = 6 * (gI g0 1 4).toInt + 0) from fun z => kn z.1)).symm; refine Eq.trans ?_ (if_neg (show ¬ (((1 ≤ a1.toInt ∧ a1.toInt ≤ 9 ∧ 0 ≤ a4.toInt ∧ a4.toInt ≤ 99 ∧ 0 ≤ a5.toInt ∧ a5.toInt ≤ 9 ∧ 0 ≤ a6.toInt ∧ a6.toInt ≤ 9999) ∧ (0 ≤ a2.toInt ∧ a2.toInt < (gI g0 1 0).toInt ∧ 0 ≤ a3.toInt ∧ a3.toInt < (gI g0 1 0).toInt) ∧ (gI g0 1 4).toInt < 8) ∧ i = 6 * (gI g0 1 4).toInt + 1) from fun z => kn z.1)).symm; refine Eq.trans ?_ (if_neg (show ¬ (((1 ≤ a1.toInt ∧ a1.toInt ≤ 9 ∧ 0 ≤ a4.toInt ∧ a4.toInt ≤ 99 ∧ 0 ≤ a5.toInt ∧ a5.toInt ≤ 9 ∧ 0 ≤ a6.toInt ∧ a6.toInt ≤ 9999) ∧ (0 ≤ a2.toInt ∧ a2.toInt < (gI g0 1 0).toInt ∧ 0 ≤ a3.toInt ∧ a3.toInt < (gI g0 1 0).toInt) ∧ (gI g0 1 4).toInt < 8) ∧ i = 6 * (gI g0 1 4).toInt + 2) from fun z => kn z.1)).symm; refine Eq.trans ?_ (if_neg (show ¬ (((1 ≤ a1.toInt ∧ a1.toInt ≤ 9 ∧ 0 ≤ a4.toInt ∧ a4.toInt ≤ 99 ∧ 0 ≤ a5.toInt ∧ a5.toInt ≤ 9 ∧ 0 ≤ a6.toInt ∧ a6.toInt ≤ 9999) ∧ (0 ≤ a2.toInt ∧ a2.toInt < (gI g0 1 0).toInt ∧ 0 ≤ a3.toInt ∧ a3.toInt < (gI g0 1 0).toInt) ∧ (gI g0 1 4).toInt < 8) ∧ i = 6 * (gI g0 1 4).toInt + 3) from fun z => kn z.1)).symm; refine Eq.trans ?_ (if_neg (show ¬ (((1 ≤ a1.toInt ∧ a1.toInt ≤ 9 ∧ 0 ≤ a4.toInt ∧ a4.toInt ≤ 99 ∧ 0 ≤ a5.toInt ∧ a5.toInt ≤ 9 ∧ 0 ≤ a6.toInt ∧ a6.toInt ≤ 9999) ∧ (0 ≤ a2.toInt ∧ a2.toInt < (gI g0 1 0).toInt ∧ 0 ≤ a3.toInt ∧ a3.toInt < (gI g0 1 0).toInt) ∧ (gI g0 1 4).toInt < 8) ∧ i = 6 * (gI g0 1 4).toInt + 4) from fun z => kn z.1)).symm; refine Eq.trans ?_ (if_neg (show ¬ (((1 ≤ a1.toInt ∧ a1.toInt ≤ 9 ∧ 0 ≤ a4.toInt ∧ a4.toInt ≤ 99 ∧ 0 ≤ a5.toInt ∧ a5.toInt ≤ 9 ∧ 0 ≤ a6.toInt ∧ a6.toInt ≤ 9999) ∧ (0 ≤ a2.toInt ∧ a2.toInt < (gI g0 1 0).toInt ∧ 0 ≤ a3.toInt ∧ a3.toInt < (gI g0 1 0).toInt) ∧ (gI g0 1 4).toInt < 8) ∧ i = 6 * (gI g0 1 4).toInt + 5) from fun z => kn z.1)).symm; refine (eA_ti (((hF96.2.1 5 ma_X10_refused_0_5).trans (hF65.2.1 5 ma_X10_whyNoLoad_0_5)))).trans ?_; (first | with_reducible rfl | omega | exact eA_ix (by omega) | rfl))⟩, ⟨(fun t => (TOLDX_fr hF96 rfl rfl rfl rfl (TOLDX_fr hF65 rfl rfl rfl rfl t))), (fun t => (SETX_fr hF96 rfl rfl rfl rfl rfl (SETX_fr hF65 rfl rfl rfl rfl rfl t)))⟩⟩⟩

def F_X10_fact_0 : List (Nat × Nat) := []
def A_X10_fact_0 : List Nat := []
set_option maxRecDepth 100000 in
set_option maxHeartbeats 4000000 in
theorem T_X10_fact_0 (d : Nat) {N : Nat} {g0 : List en_E} (hI0 : HI g0) (a1 : Int32) (a2 : Int32) : Ev (d + 2) 108 [.ref 0, .int a1, .int a2] (g0, N) (fun w h' => ∃ g', h' = (g', N) ∧ HI g' ∧ Fr F_X10_fact_0 A_X10_fact_0 g0 g' ∧ ∃ r : Int32, w = some (.int r) ∧ True ∧ ((0 ≤ a1.toInt ∧ a1.toInt < (gI g0 1 4).toInt ∧ 0 ≤ a2.toInt ∧ a2.toInt < 6 → r.toInt = (eA g0 5 (6 * a1.toInt + a2.toInt)).toInt) ∧ (¬ (0 ≤ a1.toInt ∧ a1.toInt < (gI g0 1 4).toInt ∧ 0 ≤ a2.toInt ∧ a2.toInt < 6) → r.toInt = -1))) := by
  have hF0 : Fr F_X10_fact_0 A_X10_fact_0 g0 g0 := Fr.rf
  refine Ev.mk rfl rfl ⟨Nat.le_of_ble_eq_true rfl, Or.inr (q_rc hI0.1 kx_0 rfl)⟩ ?_
  show At _ none _ _ (0, [(0, .ref 0), (1, .int a1), (2, .int a2)], [], (_, _)) _
  refine At.enter rfl ?_
  refine r_aload_n rfl ?_
  refine q_getR (Sh.ref hI0.1 kx_0 rfl) ?_
  refine r_iload_n rfl ?_
  refine q_inlV 8 rfl [.ref 1, .int a1] [] (Nat.le_of_ble_eq_true rfl) rfl ?_
  refine Ev.mk rfl rfl ⟨Nat.le_of_ble_eq_true rfl, Or.inr (q_rc hI0.1 kx_1 rfl)⟩ ?_
  show At _ none _ _ (0, [(0, .ref 1), (1, .int a1)], [], (_, _)) _
  refine At.enter rfl ?_
  refine r_iload_n rfl ?_
  refine r_ifs 4 rfl (fun c31 => ?_) (fun c31 => ?_)
  · have c31_ : a1.toInt < 0 := en_k_lt_t c31
    refine At.enter rfl ?_
    refine r_iconst 0 rfl ?_
    refine Ar.fall 17 rfl ?_
    refine At.enter rfl ?_
    refine q_iretz (by decide) ?_
    refine At.enter rfl ?_
    refine r_ift (by decide) ?_
    refine At.enter rfl ?_
    refine r_iconst (-1) rfl ?_
    refine Ar.fall 33 rfl ?_
    refine At.enter rfl ?_
    refine r_ireti ?_
    have zv32 : ((-1) : Int32).toInt = (-1) := rfl
    obtain ⟨v33, hv33⟩ : ∃ v, gI g0 1 4 = v := ⟨_, rfl⟩
    have rv33 := RgF.at hI0.2.1 (p := 1) (b := 4) rfl
    rw [hv33] at rv33
    dsimp only at rv33
    have tv33 := congrArg Int32.toInt hv33
    exact ⟨_, rfl, hI0, hF0, _, rfl, trivial, ⟨by omega, by omega⟩⟩
  · have c31_ : a1.toInt ≥ 0 := en_k_lt_f c31
    refine At.enter rfl ?_
    refine r_iload_n rfl ?_
    refine r_aload_n rfl ?_
    obtain ⟨v35, hv35⟩ : ∃ v, gI g0 1 4 = v := ⟨_, rfl⟩
    have rv35 := RgF.at hI0.2.1 (p := 1) (b := 4) rfl
    rw [hv35] at rv35
    dsimp only at rv35
    refine q_getI (Sh.int hI0.1 kx_1 rfl) v35 hv35 ?_
    have bv37 := q_bnd a1
    have bv38 := q_bnd v35
    refine r_ics 12 rfl (fun c36 => ?_) (fun c36 => ?_)
    · have c36_ : a1.toInt ≥ v35.toInt := en_i_ge_t c36
      refine At.enter rfl ?_
      refine r_iconst 0 rfl ?_
      refine Ar.fall 17 rfl ?_
      refine At.enter rfl ?_
      refine q_iretz (by decide) ?_
      refine At.enter rfl ?_
      refine r_ift (by decide) ?_
      refine At.enter rfl ?_
      refine r_iconst (-1) rfl ?_
      refine Ar.fall 33 rfl ?_
      refine At.enter rfl ?_
      refine r_ireti ?_
      have zv39 : ((-1) : Int32).toInt = (-1) := rfl
      have x40 := HI.eqI hI0 (p := 1) (b := 4) (hv35)
      exact ⟨_, rfl, hI0, hF0, _, rfl, trivial, ⟨by omega, by omega⟩⟩
    · have c36_ : a1.toInt < v35.toInt := en_i_ge_f c36
      refine At.enter rfl ?_
      refine r_iconst 1 rfl ?_
      refine r_goto ?_
      refine At.enter rfl ?_
      refine q_iretz (by decide) ?_
      refine At.enter rfl ?_
      refine r_iff 11 rfl (by decide) ?_
      refine At.enter rfl ?_
      refine r_iload_n rfl ?_
      refine r_iconst 0 rfl ?_
      refine r_iconst 5 rfl ?_
      refine q_inlS 17 rfl [.int a2, .int 0, .int 5] [] (Nat.le_of_ble_eq_true rfl) rfl ?_
      refine Ev.mk rfl rfl ⟨Nat.le_of_ble_eq_true rfl, Or.inl rfl⟩ ?_
      show At _ none _ _ (0, [(0, .int a2), (1, .int 0), (2, .int 5)], [], (_, _)) _
      refine At.enter rfl ?_
      refine r_iload_n rfl ?_
      refine r_iload_n rfl ?_
      refine r_ics 5 rfl (fun c41 => ?_) (fun c41 => ?_)
      · have c41_ : a2.toInt < 0 := en_i_lt_t c41
        refine At.enter rfl ?_
        refine r_iconst 0 rfl ?_
        refine Ar.fall 15 rfl ?_
        refine At.enter rfl ?_
        refine q_iretz (by decide) ?_
        refine At.enter rfl ?_
        refine r_ift (by decide) ?_
        refine At.enter rfl ?_
        refine r_iconst (-1) rfl ?_
        refine Ar.fall 33 rfl ?_
        refine At.enter rfl ?_
        refine r_ireti ?_
        have zv42 : ((-1) : Int32).toInt = (-1) := rfl
        have x43 := HI.eqI hI0 (p := 1) (b := 4) (hv35)
        exact ⟨_, rfl, hI0, hF0, _, rfl, trivial, ⟨by omega, by omega⟩⟩
      · have c41_ : a2.toInt ≥ 0 := en_i_lt_f c41
        refine At.enter rfl ?_
        refine r_iload_n rfl ?_
        refine r_iload_n rfl ?_
        refine r_ics 10 rfl (fun c44 => ?_) (fun c44 => ?_)
        · have c44_ : a2.toInt > 5 := en_i_gt_t c44
          refine At.enter rfl ?_
          refine r_iconst 0 rfl ?_
          refine Ar.fall 15 rfl ?_
          refine At.enter rfl ?_
          refine q_iretz (by decide) ?_
          refine At.enter rfl ?_
          refine r_ift (by decide) ?_
          refine At.enter rfl ?_
          refine r_iconst (-1) rfl ?_
          refine Ar.fall 33 rfl ?_
          refine At.enter rfl ?_
          refine r_ireti ?_
          have zv45 : ((-1) : Int32).toInt = (-1) := rfl
          have x46 := HI.eqI hI0 (p := 1) (b := 4) (hv35)
          exact ⟨_, rfl, hI0, hF0, _, rfl, trivial, ⟨by omega, by omega⟩⟩
        · have c44_ : a2.toInt ≤ 5 := en_i_gt_f c44
          refine At.enter rfl ?_
          refine r_iconst 1 rfl ?_
          refine r_goto ?_
          refine At.enter rfl ?_
          refine q_iretz (by decide) ?_
          refine At.enter rfl ?_
          refine r_iff 20 rfl (by decide) ?_
          refine At.enter rfl ?_
          refine r_aload_n rfl ?_
          refine q_getR (Sh.ref hI0.1 kx_0 rfl) ?_
          refine r_iload_n rfl ?_
          refine r_iload_n rfl ?_
          refine r_callV 29 rfl [.ref 1, .int a1, .int a2] [] (Nat.le_of_ble_eq_true rfl) rfl (T_X0_about_1 _ hI0 a1 a2) ?_
          rintro _ _ ⟨g47, rfl, hI48, hF49, v50, rfl, hr51⟩
          refine At.sti ?_
          have ks54 := hr51.2.2
          have hr53 : _ ∧ _ := ⟨hr51.1, hr51.2.1⟩
          have hF52 := Fr.tr hF0 hF49 rfl rfl
          refine At.enter rfl ?_
          refine r_goto ?_
          refine At.enter rfl ?_
          refine r_ireti ?_
          have x55 := HI.eqI hI0 (p := 1) (b := 4) (hv35)
          obtain ⟨w56, w57⟩ := hr53.2
          exact ⟨_, rfl, hI48, hF52, _, rfl, trivial, ⟨by omega, by omega⟩⟩
