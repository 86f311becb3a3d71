def F_X10_of_0 : List (Nat × Nat) := []
def A_X10_of_0 : List Nat := []
set_option maxRecDepth 100000 in
set_option maxHeartbeats 4000000 in
theorem T_X10_of_0 (d : Nat) {N : Nat} {g0 : List en_E} (hI0 : HI g0) (a1 : Int32) (a2 : Int32) : Ev (d + 3) 106 [.ref 0, .int a1, .int a2] (g0, N) (fun w h' => ∃ g', h' = (g', N) ∧ HI g' ∧ Fr F_X10_of_0 A_X10_of_0 g0 g' ∧ ∃ r : Int32, w = some (.int r) ∧ True ∧ ((¬ (0 ≤ a1.toInt ∧ a1.toInt < (gI g0 1 0).toInt) ∨ a2.toInt < 0 ∨ 3 < a2.toInt → r.toInt = -1) ∧ (0 ≤ a1.toInt ∧ a1.toInt < (gI g0 1 0).toInt ∧ a2.toInt = 3 → r.toInt = NX g0 a1.toInt) ∧ (0 ≤ a1.toInt ∧ a1.toInt < (gI g0 1 0).toInt ∧ a2.toInt = 0 → r.toInt = (eA g0 2 a1.toInt).toInt) ∧ (0 ≤ a1.toInt ∧ a1.toInt < (gI g0 1 0).toInt ∧ a2.toInt = 1 → r.toInt = (eA g0 3 a1.toInt).toInt) ∧ (0 ≤ a1.toInt ∧ a1.toInt < (gI g0 1 0).toInt ∧ a2.toInt = 2 → r.toInt = (eA g0 4 a1.toInt).toInt))) := by
  have hF0 : Fr F_X10_of_0 A_X10_of_0 g0 g0 := Fr.rf
  refine Ev.mk rfl rfl ⟨Nat.le_of_ble_eq_true rfl, Or.inr (q_rc hI0.1 kx_0 rfl)⟩ ?_
  show At _ none _ _ (0, [(0, .ref 0), (1, .int a1), (2, .int a2)], [], (_, _)) _
  refine At.enter rfl ?_
  refine r_aload_n rfl ?_
  refine q_getR (Sh.ref hI0.1 kx_0 rfl) ?_
  refine r_iload_n rfl ?_
  refine q_inlV 8 rfl [.ref 1, .int a1] [] (Nat.le_of_ble_eq_true rfl) rfl ?_
  refine Ev.mk rfl rfl ⟨Nat.le_of_ble_eq_true rfl, Or.inr (q_rc hI0.1 kx_1 rfl)⟩ ?_
  show At _ none _ _ (0, [(0, .ref 1), (1, .int a1)], [], (_, _)) _
  refine At.enter rfl ?_
  refine r_iload_n rfl ?_
  refine r_ifs 4 rfl (fun c33 => ?_) (fun c33 => ?_)
  · have c33_ : a1.toInt < 0 := en_k_lt_t c33
    refine At.enter rfl ?_
    refine r_iconst 0 rfl ?_
    refine Ar.fall 17 rfl ?_
    refine At.enter rfl ?_
    refine q_iretz (by decide) ?_
    refine At.enter rfl ?_
    refine r_iff 11 rfl (by decide) ?_
    refine At.enter rfl ?_
    refine r_iconst (-1) rfl ?_
    refine r_ireti ?_
    have zv34 : ((-1) : Int32).toInt = (-1) := rfl
    obtain ⟨v35, hv35⟩ : ∃ v, gI g0 1 0 = v := ⟨_, rfl⟩
    have rv35 := RgF.at hI0.2.1 (p := 1) (b := 0) rfl
    rw [hv35] at rv35
    dsimp only at rv35
    have tv35 := congrArg Int32.toInt hv35
    have x36 := HI.eqI hI0 (p := 1) (b := 0) (hv35)
    exact ⟨_, rfl, hI0, hF0, _, rfl, trivial, ⟨by omega, by omega, by omega, by omega, by omega⟩⟩
  · have c33_ : a1.toInt ≥ 0 := en_k_lt_f c33
    refine At.enter rfl ?_
    refine r_iload_n rfl ?_
    refine r_aload_n rfl ?_
    obtain ⟨v37, hv37⟩ : ∃ v, gI g0 1 0 = v := ⟨_, rfl⟩
    have rv37 := RgF.at hI0.2.1 (p := 1) (b := 0) rfl
    rw [hv37] at rv37
    dsimp only at rv37
    refine q_getI (Sh.int hI0.1 kx_1 rfl) v37 hv37 ?_
    have bv39 := q_bnd a1
    have bv40 := q_bnd v37
    refine r_ics 12 rfl (fun c38 => ?_) (fun c38 => ?_)
    · have c38_ : a1.toInt ≥ v37.toInt := en_i_ge_t c38
      refine At.enter rfl ?_
      refine r_iconst 0 rfl ?_
      refine Ar.fall 17 rfl ?_
      refine At.enter rfl ?_
      refine q_iretz (by decide) ?_
      refine At.enter rfl ?_
      refine r_iff 11 rfl (by decide) ?_
      refine At.enter rfl ?_
      refine r_iconst (-1) rfl ?_
      refine r_ireti ?_
      have zv41 : ((-1) : Int32).toInt = (-1) := rfl
      have x42 := HI.eqI hI0 (p := 1) (b := 0) (hv37)
      exact ⟨_, rfl, hI0, hF0, _, rfl, trivial, ⟨by omega, by omega, by omega, by omega, by omega⟩⟩
    · have c38_ : a1.toInt < v37.toInt := en_i_ge_f c38
      refine At.enter rfl ?_
      refine r_iconst 1 rfl ?_
      refine r_goto ?_
      refine At.enter rfl ?_
      refine q_iretz (by decide) ?_
      refine At.enter rfl ?_
      refine r_ift (by decide) ?_
      refine At.enter rfl ?_
      refine r_iload_n rfl ?_
      by_cases c43_0 : a2.toInt = 0
      · refine r_tsw 44 (by rw [c43_0]; rfl) ?_
        refine At.enter rfl ?_
        refine r_aload_n rfl ?_
        refine q_getR (Sh.ref hI0.1 kx_0 rfl) ?_
        refine q_getR (Sh.ref hI0.1 kx_1 rfl) ?_
        refine r_iload_n rfl ?_
        obtain ⟨v44, hv44⟩ : ∃ v, eA g0 2 a1.toInt = v := ⟨_, rfl⟩
        refine q_iald (Sh.arr hI0.1 ka_2) a1.toInt rfl (by omega) v44 hv44 ?_
        refine r_ireti ?_
        have x45 := HI.eqI hI0 (p := 1) (b := 0) (hv37)
        have y46 := congrArg Int32.toInt hv44
        exact ⟨_, rfl, hI0, hF0, _, rfl, trivial, ⟨by omega, by omega, by omega, by omega, by omega⟩⟩
      by_cases c43_1 : a2.toInt = 1
      · refine r_tsw 54 (by rw [c43_1]; rfl) ?_
        refine At.enter rfl ?_
        refine r_aload_n rfl ?_
        refine q_getR (Sh.ref hI0.1 kx_0 rfl) ?_
        refine q_getR (Sh.ref hI0.1 kx_1 rfl) ?_
        refine r_iload_n rfl ?_
        obtain ⟨v47, hv47⟩ : ∃ v, eA g0 3 a1.toInt = v := ⟨_, rfl⟩
        refine q_iald (Sh.arr hI0.1 ka_3) a1.toInt rfl (by omega) v47 hv47 ?_
        refine r_ireti ?_
        have x48 := HI.eqI hI0 (p := 1) (b := 0) (hv37)
        have y49 := congrArg Int32.toInt hv47
        exact ⟨_, rfl, hI0, hF0, _, rfl, trivial, ⟨by omega, by omega, by omega, by omega, by omega⟩⟩
      by_cases c43_2 : a2.toInt = 2
      · refine r_tsw 64 (by rw [c43_2]; rfl) ?_
        refine At.enter rfl ?_
        refine r_aload_n rfl ?_
        refine q_getR (Sh.ref hI0.1 kx_0 rfl) ?_
        refine q_getR (Sh.ref hI0.1 kx_1 rfl) ?_
        refine r_iload_n rfl ?_
        obtain ⟨v50, hv50⟩ : ∃ v, eA g0 4 a1.toInt = v := ⟨_, rfl⟩
        refine q_iald (Sh.arr hI0.1 ka_4) a1.toInt rfl (by omega) v50 hv50 ?_
        refine r_ireti ?_
        have x51 := HI.eqI hI0 (p := 1) (b := 0) (hv37)
        have y52 := congrArg Int32.toInt hv50
        exact ⟨_, rfl, hI0, hF0, _, rfl, trivial, ⟨by omega, by omega, by omega, by omega, by omega⟩⟩
      by_cases c43_3 : a2.toInt = 3
      · refine r_tsw 74 (by rw [c43_3]; rfl) ?_
        refine At.enter rfl ?_
        refine r_aload_n rfl ?_
        refine q_getR (Sh.ref hI0.1 kx_0 rfl) ?_
        refine r_iload_n rfl ?_
        refine r_callV 82 rfl [.ref 1, .int a1] [] (Nat.le_of_ble_eq_true rfl) rfl (T_X0_next_1 _ hI0 a1) ?_
        rintro _ _ ⟨g53, rfl, hI54, hF55, v56, rfl, hr57⟩
        refine At.sti ?_
        have hF58 := Fr.tr hF0 hF55 rfl rfl
        refine At.enter rfl ?_
        refine r_ireti ?_
        have x59 := HI.eqI hI0 (p := 1) (b := 0) (hv37)
        exact ⟨_, rfl, hI54, hF58, _, rfl, trivial, ⟨by omega, by omega, by omega, by omega, by omega⟩⟩
      have c60 : a2.toInt < 0 ∨ 3 < a2.toInt := by omega
      refine r_tsw 83 (by unfold en_sw; rw [if_pos c60]; rfl) ?_
      refine At.enter rfl ?_
      refine r_iconst (-1) rfl ?_
      refine r_ireti ?_
      have zv61 : ((-1) : Int32).toInt = (-1) := rfl
      have x62 := HI.eqI hI0 (p := 1) (b := 0) (hv37)
      exact ⟨_, rfl, hI0, hF0, _, rfl, trivial, ⟨by omega, by omega, by omega, by omega, by omega⟩⟩

def F_X10_load_0 : List (Nat × Nat) := [(0, 14), (0, 17), (1, 4), (220, 2), (222, 2), (223, 5), (223, 10)]
def A_X10_load_0 : List Nat := [5, 230]
theorem mf_X10_changed_0_1_4 : memF F_X10_changed_0 1 4 = false := by decide
theorem mf_X10_whyNoLoad_0_1_4 : memF F_X10_whyNoLoad_0 1 4 = false := by decide
theorem ma_X10_changed_0_5 : memA A_X10_changed_0 5 = false := by decide
theorem ma_X10_whyNoLoad_0_5 : memA A_X10_whyNoLoad_0 5 = false := by decide
theorem mf_X10_refused_0_1_4 : memF F_X10_refused_0 1 4 = false := by decide
theorem ma_X10_refused_0_5 : memA A_X10_refused_0 5 = false := by decide
set_option maxRecDepth 100000 in
set_option maxHeartbeats 4000000 in
theorem T_X10_load_0 (d : Nat) {N : Nat} {g0 : List en_E} (hI0 : HI g0) (a1 : Int32) (a2 : Int32) (a3 : Int32) (a4 : Int32) (a5 : Int32) (a6 : Int32) : Ev (d + 3) 107 [.ref 0, .int a1, .int a2, .int a3, .int a4, .int a5, .int a6] (g0, N) (fun w h' => ∃ g', h' = (g', N) ∧ HI g' ∧ Fr F_X10_load_0 A_X10_load_0 g0 g' ∧ ∃ r : Int32, w = some (.int r) ∧ ((-5) ≤ r.toInt ∧ r.toInt ≤ 7) ∧ ((((¬ (1 ≤ a1.toInt ∧ a1.toInt ≤ 9 ∧ 0 ≤ a4.toInt ∧ a4.toInt ≤ 99 ∧ 0 ≤ a5.toInt ∧ a5.toInt ≤ 9 ∧ 0 ≤ a6.toInt ∧ a6.toInt ≤ 9999) → r.toInt = -1 ∧ (gI g' 1 4).toInt = (gI g0 1 4).toInt) ∧ ((1 ≤ a1.toInt ∧ a1.toInt ≤ 9 ∧ 0 ≤ a4.toInt ∧ a4.toInt ≤ 99 ∧ 0 ≤ a5.toInt ∧ a5.toInt ≤ 9 ∧ 0 ≤ a6.toInt ∧ a6.toInt ≤ 9999) ∧ ¬ (0 ≤ a2.toInt ∧ a2.toInt < (gI g0 1 0).toInt ∧ 0 ≤ a3.toInt ∧ a3.toInt < (gI g0 1 0).toInt) → r.toInt = -2 ∧ (gI g' 1 4).toInt = (gI g0 1 4).toInt) ∧ ((1 ≤ a1.toInt ∧ a1.toInt ≤ 9 ∧ 0 ≤ a4.toInt ∧ a4.toInt ≤ 99 ∧ 0 ≤ a5.toInt ∧ a5.toInt ≤ 9 ∧ 0 ≤ a6.toInt ∧ a6.toInt ≤ 9999) ∧ (0 ≤ a2.toInt ∧ a2.toInt < (gI g0 1 0).toInt ∧ 0 ≤ a3.toInt ∧ a3.toInt < (gI g0 1 0).toInt) ∧ 8 ≤ (gI g0 1 4).toInt → r.toInt = -5 ∧ (gI g' 1 4).toInt = (gI g0 1 4).toInt) ∧ ((1 ≤ a1.toInt ∧ a1.toInt ≤ 9 ∧ 0 ≤ a4.toInt ∧ a4.toInt ≤ 99 ∧ 0 ≤ a5.toInt ∧ a5.toInt ≤ 9 ∧ 0 ≤ a6.toInt ∧ a6.toInt ≤ 9999) ∧ (0 ≤ a2.toInt ∧ a2.toInt < (gI g0 1 0).toInt ∧ 0 ≤ a3.toInt ∧ a3.toInt < (gI g0 1 0).toInt) ∧ (gI g0 1 4).toInt < 8 → r.toInt = (gI g0 1 4).toInt ∧ (gI g' 1 4).toInt = (gI g0 1 4).toInt + 1)) ∧ (∀ i : Int, 0 ≤ i → i < 48 → (eA g' 5 (i)).toInt = if ((1 ≤ a1.toInt ∧ a1.toInt ≤ 9 ∧ 0 ≤ a4.toInt ∧ a4.toInt ≤ 99 ∧ 0 ≤ a5.toInt ∧ a5.toInt ≤ 9 ∧ 0 ≤ a6.toInt ∧ a6.toInt ≤ 9999) ∧ (0 ≤ a2.toInt ∧ a2.toInt < (gI g0 1 0).toInt ∧ 0 ≤ a3.toInt ∧ a3.toInt < (gI g0 1 0).toInt) ∧ (gI g0 1 4).toInt < 8) ∧ i = 6 * (gI g0 1 4).toInt + 0 then a1.toInt else if ((1 ≤ a1.toInt ∧ a1.toInt ≤ 9 ∧ 0 ≤ a4.toInt ∧ a4.toInt ≤ 99 ∧ 0 ≤ a5.toInt ∧ a5.toInt ≤ 9 ∧ 0 ≤ a6.toInt ∧ a6.toInt ≤ 9999) ∧ (0 ≤ a2.toInt ∧ a2.toInt < (gI g0 1 0).toInt ∧ 0 ≤ a3.toInt ∧ a3.toInt < (gI g0 1 0).toInt) ∧ (gI g0 1 4).toInt < 8) ∧ i = 6 * (gI g0 1 4).toInt + 1 then a2.toInt else if ((1 ≤ a1.toInt ∧ a1.toInt ≤ 9 ∧ 0 ≤ a4.toInt ∧ a4.toInt ≤ 99 ∧ 0 ≤ a5.toInt ∧ a5.toInt ≤ 9 ∧ 0 ≤ a6.toInt ∧ a6.toInt ≤ 9999) ∧ (0 ≤ a2.toInt ∧ a2.toInt < (gI g0 1 0).toInt ∧ 0 ≤ a3.toInt ∧ a3.toInt < (gI g0 1 0).toInt) ∧ (gI g0 1 4).toInt < 8) ∧ i = 6 * (gI g0 1 4).toInt + 2 then a3.toInt else if ((1 ≤ a1.toInt ∧ a1.toInt ≤ 9 ∧ 0 ≤ a4.toInt ∧ a4.toInt ≤ 99 ∧ 0 ≤ a5.toInt ∧ a5.toInt ≤ 9 ∧ 0 ≤ a6.toInt ∧ a6.toInt ≤ 9999) ∧ (0 ≤ a2.toInt ∧ a2.toInt < (gI g0 1 0).toInt ∧ 0 ≤ a3.toInt ∧ a3.toInt < (gI g0 1 0).toInt) ∧ (gI g0 1 4).toInt < 8) ∧ i = 6 * (gI g0 1 4).toInt + 3 then a4.toInt else if ((1 ≤ a1.toInt ∧ a1.toInt ≤ 9 ∧ 0 ≤ a4.toInt ∧ a4.toInt ≤ 99 ∧ 0 ≤ a5.toInt ∧ a5.toInt ≤ 9 ∧ 0 ≤ a6.toInt ∧ a6.toInt ≤ 9999) ∧ (0 ≤ a2.toInt ∧ a2.toInt < (gI g0 1 0).toInt ∧ 0 ≤ a3.toInt ∧ a3.toInt < (gI g0 1 0).toInt) ∧ (gI g0 1 4).toInt < 8) ∧ i = 6 * (gI g0 1 4).toInt + 4 then a5.toInt else if ((1 ≤ a1.toInt ∧ a1.toInt ≤ 9 ∧ 0 ≤ a4.toInt ∧ a4.toInt ≤ 99 ∧ 0 ≤ a5.toInt ∧ a5.toInt ≤ 9 ∧ 0 ≤ a6.toInt ∧ a6.toInt ≤ 9999) ∧ (0 ≤ a2.toInt ∧ a2.toInt < (gI g0 1 0).toInt ∧ 0 ≤ a3.toInt ∧ a3.toInt < (gI g0 1 0).toInt) ∧ (gI g0 1 4).toInt < 8) ∧ i = 6 * (gI g0 1 4).toInt + 5 then a6.toInt else (eA g0 5 (i)).toInt)) ∧ SU r.toInt (gI g' 0 17).toInt)) := by
  have hF0 : Fr F_X10_load_0 A_X10_load_0 g0 g0 := Fr.rf
  refine Ev.mk rfl rfl ⟨Nat.le_of_ble_eq_true rfl, Or.inr (q_rc hI0.1 kx_0 rfl)⟩ ?_
  show At _ none _ _ (0, [(0, .ref 0), (1, .int a1), (2, .int a2), (3, .int a3), (4, .int a4), (5, .int a5), (6, .int a6)], [], (_, _)) _
  refine At.enter rfl ?_
  refine r_aload_n rfl ?_
  refine r_iload_n rfl ?_
  refine r_iload_n rfl ?_
  refine r_iload_n rfl ?_
  refine r_iload rfl ?_
  refine r_iload rfl ?_
  refine r_iload rfl ?_
  refine r_callV 13 rfl [.ref 0, .int a1, .int a2, .int a3, .int a4, .int a5, .int a6] [] (Nat.le_of_ble_eq_true rfl) rfl (T_X10_whyNoLoad_0 _ hI0 a1 a2 a3 a4 a5 a6) ?_
  rintro _ _ ⟨g63, rfl, hI64, hF65, v66, rfl, hr67⟩
  refine At.sti ?_
  have hF68 := Fr.tr hF0 hF65 rfl rfl
  obtain ⟨v69, hv69⟩ : ∃ v, gI g0 1 0 = v := ⟨_, rfl⟩
  have rv69 := RgF.at hI0.2.1 (p := 1) (b := 0) rfl
  rw [hv69] at rv69
  dsimp only at rv69
  have tv69 := congrArg Int32.toInt hv69
  obtain ⟨v71, hv71⟩ : ∃ v, gI g0 1 4 = v := ⟨_, rfl⟩
  have rv71 := RgF.at hI0.2.1 (p := 1) (b := 4) rfl
  rw [hv71] at rv71
  dsimp only at rv71
  have tv71 := congrArg Int32.toInt hv71
  refine At.enter rfl ?_
  refine r_istore ([(7, .int v66), (0, .ref 0), (1, .int a1), (2, .int a2), (3, .int a3), (4, .int a4), (5, .int a5), (6, .int a6)]) rfl ?_
  refine r_iload rfl ?_
  refine r_ifs 20 rfl (fun c73 => ?_) (fun c73 => ?_)
  · have c73_ : v66.toInt = 0 := en_k_eq_t c73
    refine At.enter rfl ?_
    refine r_aload_n rfl ?_
    refine r_callV 31 rfl [.ref 0] [] (Nat.le_of_ble_eq_true rfl) rfl (T_X10_changed_0 _ hI64) ?_
    rintro _ _ ⟨g74, rfl, hI75, hF76, rfl⟩
    refine At.stn ?_
    have hF79 := Fr.tr hF68 hF76 rfl rfl
    refine At.enter rfl ?_
    refine r_aload_n rfl ?_
    refine r_aload_n rfl ?_
    refine q_getR (Sh.ref hI75.1 kx_0 rfl) ?_
    refine r_iload_n rfl ?_
    refine r_iload_n rfl ?_
    refine r_iload_n rfl ?_
    refine r_iload rfl ?_
    refine r_iload rfl ?_
    refine r_iload rfl ?_
    refine r_callV 48 rfl [.ref 1, .int a1, .int a2, .int a3, .int a4, .int a5, .int a6] [.ref 0] (Nat.le_of_ble_eq_true rfl) rfl (T_X0_addLoad_1 _ hI75 a1 a2 a3 a4 a5 a6) ?_
    rintro _ _ ⟨g80, rfl, hI81, hF82, v83, rfl, hr84⟩
    refine At.sti ?_
    have hF85 := Fr.tr hF79 hF82 rfl rfl
    have x86 := HI.eqI hI75 (p := 1) (b := 4) ((((hF76.1 1 4 mf_X10_changed_0_1_4).trans (hF65.1 1 4 mf_X10_whyNoLoad_0_1_4)).trans hv71))
    obtain ⟨v87, hv87⟩ : ∃ v, gI g80 1 4 = v := ⟨_, rfl⟩
    have rv87 := RgF.at hI81.2.1 (p := 1) (b := 4) rfl
    rw [hv87] at rv87
    dsimp only at rv87
    have tv87 := congrArg Int32.toInt hv87
    refine At.enter rfl ?_
    refine q_inlV 51 rfl [.ref 0, .int v83] [] (Nat.le_of_ble_eq_true rfl) rfl ?_
    refine Ev.mk rfl rfl ⟨Nat.le_of_ble_eq_true rfl, Or.inr (q_rc hI81.1 kx_0 rfl)⟩ ?_
    show At _ none _ _ (0, [(0, .ref 0), (1, .int v83)], [], (_, _)) _
    refine At.enter rfl ?_
    refine r_aload_n rfl ?_
    refine r_iconst 0 rfl ?_
    refine q_putI (Sh.int hI81.1 kx_0 rfl) rfl ?_
    have hI89 := HI.wI0 hI81 kx_0 rfl (p := 0) (b := 17) (v := 0) rfl
    have hF90 := Fr.wI (p := 0) (b := 17) (v := 0) hF85 rfl
    refine r_iload_n rfl ?_
    refine q_ireti ?_
    refine At.enter rfl ?_
    refine r_ireti ?_
    have x91 := HI.eqI hI89 (p := 1) (b := 4) (((gI_sI_ne (by decide)).trans hv87))
    have x94 := HI.eqI hI89 (p := 0) (b := 17) ((gI_sI_eq hI81.1 kx_0 rfl _))
    have zv95 : (0 : Int32).toInt = 0 := rfl
    exact ⟨_, rfl, hI89, hF90, _, rfl, by omega, ⟨⟨(have c := WNL.y hr67.2 (by omega); ⟨fun h => absurd c.1 h, fun h => absurd c.2.1 h.2, fun h => absurd c.2.2 (Int.not_lt.mpr h.2.2), fun _ => ⟨by omega, by omega⟩⟩), (by have c := WNL.y hr67.2 (by omega); intro i i0 i1; refine (eA_ti ((gA_sI))).trans ?_; have z := hr84.2.2.2 i i0 i1; rw [show (gI g74 1 4).toInt = (gI g0 1 4).toInt from congrArg Int32.toInt (((hF76.1 1 4 mf_X10_changed_0_1_4).trans (hF65.1 1 4 mf_X10_whyNoLoad_0_1_4))), eA_ti (j := i) (((hF76.2.1 5 ma_X10_changed_0_5).trans (hF65.2.1 5 ma_X10_whyNoLoad_0_5)))] at z; rw [ite_ap c.2.2, ite_ap c.2.2, ite_ap c.2.2, ite_ap c.2.2, ite_ap c.2.2, ite_ap c.2.2] at z; rw [ite_ap c, ite_ap c, ite_ap c, ite_ap c, ite_ap c, ite_ap c]; exact z)⟩, (have c := WNL.y hr67.2 (by omega); (SU.mk (by omega)))⟩⟩
  · have c73_ : v66.toInt ≠ 0 := en_k_eq_f c73
    refine At.enter rfl ?_
    refine r_aload_n rfl ?_
    refine r_iload rfl ?_
    refine r_callV 26 rfl [.ref 0, .int v66] [] (Nat.le_of_ble_eq_true rfl) rfl (T_X10_refused_0 _ hI64 v66 (by omega)) ?_
    rintro _ _ ⟨g96, rfl, hI97, hF98, v99, rfl, hr100⟩
    refine At.sti ?_
    have hF101 := Fr.tr hF68 hF98 rfl rfl
    refine At.enter rfl ?_
    refine r_ireti ?_
    have x102 := HI.eqI hI97 (p := 1) (b := 4) ((((hF98.1 1 4 mf_X10_refused_0_1_4).trans (hF65.1 1 4 mf_X10_whyNoLoad_0_1_4)).trans hv71))
    obtain ⟨v105, hv105⟩ : ∃ v, gI g96 0 17 = v := ⟨_, rfl⟩
    have tv105 := congrArg Int32.toInt hv105
    exact ⟨_, rfl, hI97, hF101, _, rfl, by omega, ⟨⟨(by rcases WNL.cs hr67.2 (by omega) with ⟨k, kv⟩ | ⟨k, l, kv⟩ | ⟨k, l, o, kv⟩; exact ⟨fun _ => ⟨by clear k; omega, by clear k; omega⟩, fun h => absurd h.1 k, fun h => absurd h.1 k, fun h => absurd h.1 k⟩; exact ⟨fun h => absurd k h, fun _ => ⟨by clear k l; omega, by clear k l; omega⟩, fun h => absurd h.2.1 l, fun h => absurd h.2.1 l⟩; exact ⟨fun h => absurd k h, fun h => absurd l h.2, fun _ => ⟨by clear k l; omega, by clear k l; omega⟩, fun h => absurd h.2.2 (Int.not_lt.mpr o)⟩), (by have kn : ¬ ((1 ≤ a1.toInt ∧ a1.toInt ≤ 9 ∧ 0 ≤ a4.toInt ∧ a4.toInt ≤ 99 ∧ 0 ≤ a5.toInt ∧ a5.toInt ≤ 9 ∧ 0 ≤ a6.toInt ∧ a6.toInt ≤ 9999) ∧ (0 ≤ a2.toInt ∧ a2.toInt < (gI g0 1 0).toInt ∧ 0 ≤ a3.toInt ∧ a3.toInt < (gI g0 1 0).toInt) ∧ (gI g0 1 4).toInt < 8) := (WNL.n hr67.2 (by omega)); intro i i0 i1; refine Eq.trans ?_ (if_neg (show ¬ (((1 ≤ a1.toInt ∧ a1.toInt ≤ 9 ∧ 0 ≤ a4.toInt ∧ a4.toInt ≤ 99 ∧ 0 ≤ a5.toInt ∧ a5.toInt ≤ 9 ∧ 0 ≤ a6.toInt ∧ a6.toInt ≤ 9999) ∧ (0 ≤ a2.toInt ∧ a2.toInt < (gI g0 1 0).toInt ∧ 0 ≤ a3.toInt ∧ a3.toInt < (gI g0 1 0).toInt) ∧ (gI g0 1 4).toInt < 8) ∧ i = 6 * (gI g0 1 4).toInt + 0) from fun z => kn z.1)).symm; refine Eq.trans ?_ (if_neg (show ¬ (((1 ≤ a1.toInt ∧ a1.toInt ≤ 9 ∧ 0 ≤ a4.toInt ∧ a4.toInt ≤ 99 ∧ 0 ≤ a5.toInt ∧ a5.toInt ≤ 9 ∧ 0 ≤ a6.toInt ∧ a6.toInt ≤ 9999) ∧ (0 ≤ a2.toInt ∧ a2.toInt < (gI g0 1 0).toInt ∧ 0 ≤ a3.toInt ∧ a3.toInt < (gI g0 1 0).toInt) ∧ (gI g0 1 4).toInt < 8) ∧ i = 6 * (gI g0 1 4).toInt + 1) from fun z => kn z.1)).symm; refine Eq.trans ?_ (if_neg (show ¬ (((1 ≤ a1.toInt ∧ a1.toInt ≤ 9 ∧ 0 ≤ a4.toInt ∧ a4.toInt ≤ 99 ∧ 0 ≤ a5.toInt ∧ a5.toInt ≤ 9 ∧ 0 ≤ a6.toInt ∧ a6.toInt ≤ 9999) ∧ (0 ≤ a2.toInt ∧ a2.toInt < (gI g0 1 0).toInt ∧ 0 ≤ a3.toInt ∧ a3.toInt < (gI g0 1 0).toInt) ∧ (gI g0 1 4).toInt < 8) ∧ i = 6 * (gI g0 1 4).toInt + 2) from fun z => kn z.1)).symm; refine Eq.trans ?_ (if_neg (show ¬ (((1 ≤ a1.toInt ∧ a1.toInt ≤ 9 ∧ 0 ≤ a4.toInt ∧ a4.toInt ≤ 99 ∧ 0 ≤ a5.toInt ∧ a5.toInt ≤ 9 ∧ 0 ≤ a6.toInt ∧ a6.toInt ≤ 9999) ∧ (0 ≤ a2.toInt ∧ a2.toInt < (gI g0 1 0).toInt ∧ 0 ≤ a3.toInt ∧ a3.toInt < (gI g0 1 0).toInt) ∧ (gI g0 1 4).toInt < 8) ∧ i = 6 * (gI g0 1 4).toInt + 3) from fun z => kn z.1)).symm; refine Eq.trans ?_ (if_neg (show ¬ (((1 ≤ a1.toInt ∧ a1.toInt ≤ 9 ∧ 0 ≤ a4.toInt ∧ a4.toInt ≤ 99 ∧ 0 ≤ a5.toInt ∧ a5.toInt ≤ 9 ∧ 0 ≤ a6.toInt ∧ a6.toInt ≤ 9999) ∧ (0 ≤ a2.toInt ∧ a2.toInt < (gI g0 1 0).toInt ∧ 0 ≤ a3.toInt ∧ a3.toInt < (gI g0 1 0).toInt) ∧ (gI g0 1 4).toInt < 8) ∧ i = 6 * (gI g0 1 4).toInt + 4) from fun z => kn z.1)).symm; refine Eq.trans ?_ (if_neg (show ¬ (((1 ≤ a1.toInt ∧ a1.toInt ≤ 9 ∧ 0 ≤ a4.toInt ∧ a4.toInt ≤ 99 ∧ 0 ≤ a5.toInt ∧ a5.toInt ≤ 9 ∧ 0 ≤ a6.toInt ∧ a6.toInt ≤ 9999) ∧ (0 ≤ a2.toInt ∧ a2.toInt < (gI g0 1 0).toInt ∧ 0 ≤ a3.toInt ∧ a3.toInt < (gI g0 1 0).toInt) ∧ (gI g0 1 4).toInt < 8) ∧ i = 6 * (gI g0 1 4).toInt + 5) from fun z => kn z.1)).symm; refine (eA_ti (((hF98.2.1 5 ma_X10_refused_0_5).trans (hF65.2.1 5 ma_X10_whyNoLoad_0_5)))).trans ?_; (first | with_reducible rfl | omega | exact eA_ix (by omega) | rfl))⟩, (SU.mk (by omega))⟩⟩

def F_X10_fact_0 : List (Nat × Nat) := []
def A_X10_fact_0 : List Nat := []
set_option maxRecDepth 100000 in
set_option maxHeartbeats 4000000 in
theorem T_X10_fact_0 (d : Nat) {N : Nat} {g0 : List en_E} (hI0 : HI g0) (a1 : Int32) (a2 : Int32) : Ev (d + 2) 108 [.ref 0, .int a1, .int a2] (g0, N) (fun w h' => ∃ g', h' = (g', N) ∧ HI g' ∧ Fr F_X10_fact_0 A_X10_fact_0 g0 g' ∧ ∃ r : Int32, w = some (.int r) ∧ True ∧ ((0 ≤ a1.toInt ∧ a1.toInt < (gI g0 1 4).toInt ∧ 0 ≤ a2.toInt ∧ a2.toInt < 6 → r.toInt = (eA g0 5 (6 * a1.toInt + a2.toInt)).toInt) ∧ (¬ (0 ≤ a1.toInt ∧ a1.toInt < (gI g0 1 4).toInt ∧ 0 ≤ a2.toInt ∧ a2.toInt < 6) → r.toInt = -1))) := by
  have hF0 : Fr F_X10_fact_0 A_X10_fact_0 g0 g0 := Fr.rf
  refine Ev.mk rfl rfl ⟨Nat.le_of_ble_eq_true rfl, Or.inr (q_rc hI0.1 kx_0 rfl)⟩ ?_
  show At _ none _ _ (0, [(0, .ref 0), (1, .int a1), (2, .int a2)], [], (_, _)) _
  refine At.enter rfl ?_
  refine r_aload_n rfl ?_
  refine q_getR (Sh.ref hI0.1 kx_0 rfl) ?_
  refine r_iload_n rfl ?_
  refine q_inlV 8 rfl [.ref 1, .int a1] [] (Nat.le_of_ble_eq_true rfl) rfl ?_
  refine Ev.mk rfl rfl ⟨Nat.le_of_ble_eq_true rfl, Or.inr (q_rc hI0.1 kx_1 rfl)⟩ ?_
  show At _ none _ _ (0, [(0, .ref 1), (1, .int a1)], [], (_, _)) _
  refine At.enter rfl ?_
  refine r_iload_n rfl ?_
  refine r_ifs 4 rfl (fun c27 => ?_) (fun c27 => ?_)
  · have c27_ : a1.toInt < 0 := en_k_lt_t c27
    refine At.enter rfl ?_
    refine r_iconst 0 rfl ?_
    refine Ar.fall 17 rfl ?_
    refine At.enter rfl ?_
    refine q_iretz (by decide) ?_
    refine At.enter rfl ?_
    refine r_ift (by decide) ?_
    refine At.enter rfl ?_
    refine r_iconst (-1) rfl ?_
    refine Ar.fall 33 rfl ?_
    refine At.enter rfl ?_
    refine r_ireti ?_
    have zv28 : ((-1) : Int32).toInt = (-1) := rfl
    obtain ⟨v29, hv29⟩ : ∃ v, gI g0 1 4 = v := ⟨_, rfl⟩
    have rv29 := RgF.at hI0.2.1 (p := 1) (b := 4) rfl
    rw [hv29] at rv29
    dsimp only at rv29
    have tv29 := congrArg Int32.toInt hv29
    exact ⟨_, rfl, hI0, hF0, _, rfl, trivial, ⟨by omega, by omega⟩⟩
  · have c27_ : a1.toInt ≥ 0 := en_k_lt_f c27
    refine At.enter rfl ?_
    refine r_iload_n rfl ?_
    refine r_aload_n rfl ?_
    obtain ⟨v31, hv31⟩ : ∃ v, gI g0 1 4 = v := ⟨_, rfl⟩
    have rv31 := RgF.at hI0.2.1 (p := 1) (b := 4) rfl
    rw [hv31] at rv31
    dsimp only at rv31
    refine q_getI (Sh.int hI0.1 kx_1 rfl) v31 hv31 ?_
    have bv33 := q_bnd a1
    have bv34 := q_bnd v31
    refine r_ics 12 rfl (fun c32 => ?_) (fun c32 => ?_)
    · have c32_ : a1.toInt ≥ v31.toInt := en_i_ge_t c32
      refine At.enter rfl ?_
      refine r_iconst 0 rfl ?_
      refine Ar.fall 17 rfl ?_
      refine At.enter rfl ?_
      refine q_iretz (by decide) ?_
      refine At.enter rfl ?_
      refine r_ift (by decide) ?_
      refine At.enter rfl ?_
      refine r_iconst (-1) rfl ?_
      refine Ar.fall 33 rfl ?_
      refine At.enter rfl ?_
      refine r_ireti ?_
      have zv35 : ((-1) : Int32).toInt = (-1) := rfl
      have x36 := HI.eqI hI0 (p := 1) (b := 4) (hv31)
      exact ⟨_, rfl, hI0, hF0, _, rfl, trivial, ⟨by omega, by omega⟩⟩
    · have c32_ : a1.toInt < v31.toInt := en_i_ge_f c32
      refine At.enter rfl ?_
      refine r_iconst 1 rfl ?_
      refine r_goto ?_
      refine At.enter rfl ?_
      refine q_iretz (by decide) ?_
      refine At.enter rfl ?_
      refine r_iff 11 rfl (by decide) ?_
      refine At.enter rfl ?_
      refine r_iload_n rfl ?_
      refine r_iconst 0 rfl ?_
      refine r_iconst 5 rfl ?_
      refine q_inlS 17 rfl [.int a2, .int 0, .int 5] [] (Nat.le_of_ble_eq_true rfl) rfl ?_
      refine Ev.mk rfl rfl ⟨Nat.le_of_ble_eq_true rfl, Or.inl rfl⟩ ?_
      show At _ none _ _ (0, [(0, .int a2), (1, .int 0), (2, .int 5)], [], (_, _)) _
      refine At.enter rfl ?_
      refine r_iload_n rfl ?_
      refine r_iload_n rfl ?_
      refine r_ics 5 rfl (fun c37 => ?_) (fun c37 => ?_)
      · have c37_ : a2.toInt < 0 := en_i_lt_t c37
        refine At.enter rfl ?_
        refine r_iconst 0 rfl ?_
        refine Ar.fall 15 rfl ?_
        refine At.enter rfl ?_
        refine q_iretz (by decide) ?_
        refine At.enter rfl ?_
        refine r_ift (by decide) ?_
        refine At.enter rfl ?_
        refine r_iconst (-1) rfl ?_
        refine Ar.fall 33 rfl ?_
        refine At.enter rfl ?_
        refine r_ireti ?_
        have zv38 : ((-1) : Int32).toInt = (-1) := rfl
        have x39 := HI.eqI hI0 (p := 1) (b := 4) (hv31)
        exact ⟨_, rfl, hI0, hF0, _, rfl, trivial, ⟨by omega, by omega⟩⟩
      · have c37_ : a2.toInt ≥ 0 := en_i_lt_f c37
        refine At.enter rfl ?_
        refine r_iload_n rfl ?_
        refine r_iload_n rfl ?_
        refine r_ics 10 rfl (fun c40 => ?_) (fun c40 => ?_)
        · have c40_ : a2.toInt > 5 := en_i_gt_t c40
          refine At.enter rfl ?_
          refine r_iconst 0 rfl ?_
          refine Ar.fall 15 rfl ?_
          refine At.enter rfl ?_
          refine q_iretz (by decide) ?_
          refine At.enter rfl ?_
          refine r_ift (by decide) ?_
          refine At.enter rfl ?_
          refine r_iconst (-1) rfl ?_
          refine Ar.fall 33 rfl ?_
          refine At.enter rfl ?_
          refine r_ireti ?_
          have zv41 : ((-1) : Int32).toInt = (-1) := rfl
          have x42 := HI.eqI hI0 (p := 1) (b := 4) (hv31)
          exact ⟨_, rfl, hI0, hF0, _, rfl, trivial, ⟨by omega, by omega⟩⟩
        · have c40_ : a2.toInt ≤ 5 := en_i_gt_f c40
          refine At.enter rfl ?_
          refine r_iconst 1 rfl ?_
          refine r_goto ?_
          refine At.enter rfl ?_
          refine q_iretz (by decide) ?_
          refine At.enter rfl ?_
          refine r_iff 20 rfl (by decide) ?_
          refine At.enter rfl ?_
          refine r_aload_n rfl ?_
          refine q_getR (Sh.ref hI0.1 kx_0 rfl) ?_
          refine r_iload_n rfl ?_
          refine r_iload_n rfl ?_
          refine r_callV 29 rfl [.ref 1, .int a1, .int a2] [] (Nat.le_of_ble_eq_true rfl) rfl (T_X0_about_1 _ hI0 a1 a2) ?_
          rintro _ _ ⟨g43, rfl, hI44, hF45, v46, rfl, hr47⟩
          refine At.sti ?_
          have hF48 := Fr.tr hF0 hF45 rfl rfl
          refine At.enter rfl ?_
          refine r_goto ?_
          refine At.enter rfl ?_
          refine r_ireti ?_
          have x49 := HI.eqI hI0 (p := 1) (b := 4) (hv31)
          obtain ⟨w50, w51⟩ := hr47.2
          exact ⟨_, rfl, hI44, hF48, _, rfl, trivial, ⟨by omega, by omega⟩⟩
