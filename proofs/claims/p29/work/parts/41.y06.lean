def F_X10_dropped_0 : List (Nat × Nat) := []
def A_X10_dropped_0 : List Nat := []
set_option maxRecDepth 100000 in
set_option maxHeartbeats 4000000 in
theorem T_X10_dropped_0 (d : Nat) {N : Nat} {g0 : List en_E} (hI0 : HI g0) : Ev (d + 1) 114 [.ref 0] (g0, N) (fun w h' => ∃ g', h' = (g', N) ∧ HI g' ∧ Fr F_X10_dropped_0 A_X10_dropped_0 g0 g' ∧ ∃ r : Int32, w = some (.int r) ∧ True ∧ (r.toInt = (gI g0 0 16).toInt)) := by
  have hF0 : Fr F_X10_dropped_0 A_X10_dropped_0 g0 g0 := Fr.rf
  refine Ev.mk rfl rfl ⟨Nat.le_of_ble_eq_true rfl, Or.inr (q_rc hI0.1 kx_0 rfl)⟩ ?_
  show At _ none _ _ (0, [(0, .ref 0)], [], (_, _)) _
  refine At.enter rfl ?_
  refine r_aload_n rfl ?_
  obtain ⟨v3, hv3⟩ : ∃ v, gI g0 0 16 = v := ⟨_, rfl⟩
  refine q_getI (Sh.int hI0.1 kx_0 rfl) v3 hv3 ?_
  refine r_ireti ?_
  have x4 := HI.eqI hI0 (p := 0) (b := 16) (hv3)
  exact ⟨_, rfl, hI0, hF0, _, rfl, trivial, (by omega)⟩

def F_X10_fault_0 : List (Nat × Nat) := []
def A_X10_fault_0 : List Nat := []
set_option maxRecDepth 100000 in
set_option maxHeartbeats 4000000 in
theorem T_X10_fault_0 (d : Nat) {N : Nat} {g0 : List en_E} (hI0 : HI g0) : Ev (d + 1) 116 [.ref 0] (g0, N) (fun w h' => ∃ g', h' = (g', N) ∧ HI g' ∧ Fr F_X10_fault_0 A_X10_fault_0 g0 g' ∧ ∃ r : Int32, w = some (.int r) ∧ True ∧ (r.toInt = (gI g0 176 2).toInt)) := by
  have hF0 : Fr F_X10_fault_0 A_X10_fault_0 g0 g0 := Fr.rf
  refine Ev.mk rfl rfl ⟨Nat.le_of_ble_eq_true rfl, Or.inr (q_rc hI0.1 kx_0 rfl)⟩ ?_
  show At _ none _ _ (0, [(0, .ref 0)], [], (_, _)) _
  refine At.enter rfl ?_
  refine r_aload_n rfl ?_
  refine q_getR (Sh.ref hI0.1 kx_0 rfl) ?_
  obtain ⟨v3, hv3⟩ : ∃ v, gI g0 176 2 = v := ⟨_, rfl⟩
  refine q_getI (Sh.int hI0.1 kx_176 rfl) v3 hv3 ?_
  refine r_ireti ?_
  have x4 := HI.eqI hI0 (p := 176) (b := 2) (hv3)
  exact ⟨_, rfl, hI0, hF0, _, rfl, trivial, (by omega)⟩

def F_X10_force_0 : List (Nat × Nat) := [(0, 14), (0, 17), (1, 9), (220, 2), (222, 2), (223, 5), (223, 10)]
def A_X10_force_0 : List Nat := [230]
theorem mf_X10_changed_0_1_9 : memF F_X10_changed_0 1 9 = false := by decide
theorem mf_X10_refused_0_1_9 : memF F_X10_refused_0 1 9 = false := by decide
set_option maxRecDepth 100000 in
set_option maxHeartbeats 4000000 in
theorem T_X10_force_0 (d : Nat) {N : Nat} {g0 : List en_E} (hI0 : HI g0) (a1 : Int32) : Ev (d + 3) 117 [.ref 0, .int a1] (g0, N) (fun w h' => ∃ g', h' = (g', N) ∧ HI g' ∧ Fr F_X10_force_0 A_X10_force_0 g0 g' ∧ ∃ r : Int32, w = some (.int r) ∧ True ∧ ((((a1.toInt = -1 ∨ (0 ≤ a1.toInt ∧ a1.toInt < (gI g0 1 6).toInt)) → r.toInt = (gI g0 1 9).toInt ∧ (gI g' 1 9).toInt = a1.toInt) ∧ (¬ (a1.toInt = -1 ∨ (0 ≤ a1.toInt ∧ a1.toInt < (gI g0 1 6).toInt)) → r.toInt = -2 ∧ (gI g' 1 9).toInt = (gI g0 1 9).toInt)) ∧ ((TOLDX g0 → TOLDX g') ∧ (SETX g0 → SETX g')))) := by
  have hF0 : Fr F_X10_force_0 A_X10_force_0 g0 g0 := Fr.rf
  refine Ev.mk rfl rfl ⟨Nat.le_of_ble_eq_true rfl, Or.inr (q_rc hI0.1 kx_0 rfl)⟩ ?_
  show At _ none _ _ (0, [(0, .ref 0), (1, .int a1)], [], (_, _)) _
  refine At.enter rfl ?_
  refine r_iload_n rfl ?_
  refine r_iconst (-1) rfl ?_
  refine r_ics 5 rfl (fun c87 => ?_) (fun c87 => ?_)
  · have c87_ : a1.toInt = (-1) := en_i_eq_t c87
    refine At.enter rfl ?_
    refine r_aload_n rfl ?_
    refine q_getR (Sh.ref hI0.1 kx_0 rfl) ?_
    obtain ⟨v88, hv88⟩ : ∃ v, gI g0 1 9 = v := ⟨_, rfl⟩
    refine q_getI (Sh.int hI0.1 kx_1 rfl) v88 hv88 ?_
    refine r_istore_n ([(2, .int v88), (0, .ref 0), (1, .int a1)]) rfl ?_
    refine r_aload_n rfl ?_
    refine q_getR (Sh.ref hI0.1 kx_0 rfl) ?_
    refine r_iload_n rfl ?_
    refine q_putI (Sh.int hI0.1 kx_1 rfl) rfl ?_
    have hI89 := HI.wI0 hI0 kx_1 rfl (p := 1) (b := 9) (v := a1) rfl
    have hF90 := Fr.wI (p := 1) (b := 9) (v := a1) hF0 rfl
    refine r_aload_n rfl ?_
    refine r_callV 49 rfl [.ref 0] [] (Nat.le_of_ble_eq_true rfl) rfl (T_X10_changed_0 _ hI89) ?_
    rintro _ _ ⟨g91, rfl, hI92, hF93, rfl, hr95⟩
    refine At.stn ?_
    have hF96 := Fr.tr hF90 hF93 rfl rfl
    refine At.enter rfl ?_
    refine r_aload_n rfl ?_
    refine r_iload_n rfl ?_
    refine q_inlV 54 rfl [.ref 0, .int v88] [] (Nat.le_of_ble_eq_true rfl) rfl ?_
    refine Ev.mk rfl rfl ⟨Nat.le_of_ble_eq_true rfl, Or.inr (q_rc hI92.1 kx_0 rfl)⟩ ?_
    show At _ none _ _ (0, [(0, .ref 0), (1, .int v88)], [], (_, _)) _
    refine At.enter rfl ?_
    refine r_aload_n rfl ?_
    refine r_iconst 0 rfl ?_
    refine q_putI (Sh.int hI92.1 kx_0 rfl) rfl ?_
    have hI97 := HI.wI0 hI92 kx_0 rfl (p := 0) (b := 17) (v := 0) rfl
    have hF98 := Fr.wI (p := 0) (b := 17) (v := 0) hF96 rfl
    refine r_iload_n rfl ?_
    refine q_ireti ?_
    refine At.enter rfl ?_
    refine r_ireti ?_
    have x99 := HI.eqI hI97 (p := 1) (b := 9) (((gI_sI_ne (by decide)).trans ((hF93.1 1 9 mf_X10_changed_0_1_9).trans (gI_sI_eq hI0.1 kx_1 rfl _))))
    have x100 := HI.eqI hI0 (p := 1) (b := 9) (hv88)
    obtain ⟨v101, hv101⟩ : ∃ v, gI g0 1 6 = v := ⟨_, rfl⟩
    have rv101 := RgF.at hI0.2.1 (p := 1) (b := 6) rfl
    rw [hv101] at rv101
    dsimp only at rv101
    have tv101 := congrArg Int32.toInt hv101
    exact ⟨_, rfl, hI97, hF98, _, rfl, trivial, ⟨(by omega), ⟨(fun _ => TOLDX_z ((congrArg Int32.toInt ((gI_sI_ne (by decide)))).trans hr95.1)), (fun _ => SETX_z ((congrArg Int32.toInt ((gI_sI_ne (by decide)))).trans hr95.2))⟩⟩⟩
  · have c87_ : a1.toInt ≠ (-1) := en_i_eq_f c87
    refine At.enter rfl ?_
    refine r_iload_n rfl ?_
    refine r_iconst 0 rfl ?_
    refine r_aload_n rfl ?_
    refine q_getR (Sh.ref hI0.1 kx_0 rfl) ?_
    obtain ⟨v103, hv103⟩ : ∃ v, gI g0 1 6 = v := ⟨_, rfl⟩
    have rv103 := RgF.at hI0.2.1 (p := 1) (b := 6) rfl
    rw [hv103] at rv103
    dsimp only at rv103
    refine q_getI (Sh.int hI0.1 kx_1 rfl) v103 hv103 ?_
    refine r_iconst 1 rfl ?_
    refine q_isub (v103.toInt - 1) rfl (by omega) (fun v104 hv104 => ?_)
    refine q_inlS 19 rfl [.int a1, .int 0, .int v104] [] (Nat.le_of_ble_eq_true rfl) rfl ?_
    refine Ev.mk rfl rfl ⟨Nat.le_of_ble_eq_true rfl, Or.inl rfl⟩ ?_
    show At _ none _ _ (0, [(0, .int a1), (1, .int 0), (2, .int v104)], [], (_, _)) _
    refine At.enter rfl ?_
    refine r_iload_n rfl ?_
    refine r_iload_n rfl ?_
    refine r_ics 5 rfl (fun c105 => ?_) (fun c105 => ?_)
    · have c105_ : a1.toInt < 0 := en_i_lt_t c105
      refine At.enter rfl ?_
      refine r_iconst 0 rfl ?_
      refine Ar.fall 15 rfl ?_
      refine At.enter rfl ?_
      refine q_iretz (by decide) ?_
      refine At.enter rfl ?_
      refine r_iff 22 rfl (by decide) ?_
      refine At.enter rfl ?_
      refine r_aload_n rfl ?_
      refine r_bipush (-2) rfl ?_
      refine r_callV 28 rfl [.ref 0, .int (-2)] [] (Nat.le_of_ble_eq_true rfl) rfl (T_X10_refused_0 _ hI0 (-2) (by decide)) ?_
      rintro _ _ ⟨g106, rfl, hI107, hF108, v109, rfl, hr110⟩
      refine At.sti ?_
      have hF111 := Fr.tr hF0 hF108 rfl rfl
      have zv112 : ((-2) : Int32).toInt = (-2) := rfl
      refine At.enter rfl ?_
      refine r_ireti ?_
      obtain ⟨v113, hv113⟩ : ∃ v, gI g0 1 9 = v := ⟨_, rfl⟩
      have tv113 := congrArg Int32.toInt hv113
      have x114 := HI.eqI hI107 (p := 1) (b := 9) (((hF108.1 1 9 mf_X10_refused_0_1_9).trans hv113))
      have x116 := HI.eqI hI0 (p := 1) (b := 6) (hv103)
      exact ⟨_, rfl, hI107, hF111, _, rfl, trivial, ⟨(by omega), ⟨(fun t => (TOLDX_fr hF108 rfl rfl rfl rfl t)), (fun t => (SETX_fr hF108 rfl rfl rfl rfl rfl t))⟩⟩⟩
    · have c105_ : a1.toInt ≥ 0 := en_i_lt_f c105
      refine At.enter rfl ?_
      refine r_iload_n rfl ?_
      refine r_iload_n rfl ?_
      have bv118 := q_bnd a1
      have bv119 := q_bnd v104
      refine r_ics 10 rfl (fun c117 => ?_) (fun c117 => ?_)
      · have c117_ : a1.toInt > v104.toInt := en_i_gt_t c117
        refine At.enter rfl ?_
        refine r_iconst 0 rfl ?_
        refine Ar.fall 15 rfl ?_
        refine At.enter rfl ?_
        refine q_iretz (by decide) ?_
        refine At.enter rfl ?_
        refine r_iff 22 rfl (by decide) ?_
        refine At.enter rfl ?_
        refine r_aload_n rfl ?_
        refine r_bipush (-2) rfl ?_
        refine r_callV 28 rfl [.ref 0, .int (-2)] [] (Nat.le_of_ble_eq_true rfl) rfl (T_X10_refused_0 _ hI0 (-2) (by decide)) ?_
        rintro _ _ ⟨g120, rfl, hI121, hF122, v123, rfl, hr124⟩
        refine At.sti ?_
        have hF125 := Fr.tr hF0 hF122 rfl rfl
        have zv126 : ((-2) : Int32).toInt = (-2) := rfl
        refine At.enter rfl ?_
        refine r_ireti ?_
        obtain ⟨v127, hv127⟩ : ∃ v, gI g0 1 9 = v := ⟨_, rfl⟩
        have tv127 := congrArg Int32.toInt hv127
        have x128 := HI.eqI hI121 (p := 1) (b := 9) (((hF122.1 1 9 mf_X10_refused_0_1_9).trans hv127))
        have x130 := HI.eqI hI0 (p := 1) (b := 6) (hv103)
        exact ⟨_, rfl, hI121, hF125, _, rfl, trivial, ⟨(by omega), ⟨(fun t => (TOLDX_fr hF122 rfl rfl rfl rfl t)), (fun t => (SETX_fr hF122 rfl rfl rfl rfl rfl t))⟩⟩⟩
      · have c117_ : a1.toInt ≤ v104.toInt := en_i_gt_f c117
        refine At.enter rfl ?_
        refine r_iconst 1 rfl ?_
        refine r_goto ?_
        refine At.enter rfl ?_
        refine q_iretz (by decide) ?_
        refine At.enter rfl ?_
        refine r_ift (by decide) ?_
        refine At.enter rfl ?_
        refine r_aload_n rfl ?_
        refine q_getR (Sh.ref hI0.1 kx_0 rfl) ?_
        obtain ⟨v131, hv131⟩ : ∃ v, gI g0 1 9 = v := ⟨_, rfl⟩
        refine q_getI (Sh.int hI0.1 kx_1 rfl) v131 hv131 ?_
        refine r_istore_n ([(2, .int v131), (0, .ref 0), (1, .int a1)]) rfl ?_
        refine r_aload_n rfl ?_
        refine q_getR (Sh.ref hI0.1 kx_0 rfl) ?_
        refine r_iload_n rfl ?_
        refine q_putI (Sh.int hI0.1 kx_1 rfl) rfl ?_
        have hI132 := HI.wI0 hI0 kx_1 rfl (p := 1) (b := 9) (v := a1) rfl
        have hF133 := Fr.wI (p := 1) (b := 9) (v := a1) hF0 rfl
        refine r_aload_n rfl ?_
        refine r_callV 49 rfl [.ref 0] [] (Nat.le_of_ble_eq_true rfl) rfl (T_X10_changed_0 _ hI132) ?_
        rintro _ _ ⟨g134, rfl, hI135, hF136, rfl, hr138⟩
        refine At.stn ?_
        have hF139 := Fr.tr hF133 hF136 rfl rfl
        refine At.enter rfl ?_
        refine r_aload_n rfl ?_
        refine r_iload_n rfl ?_
        refine q_inlV 54 rfl [.ref 0, .int v131] [] (Nat.le_of_ble_eq_true rfl) rfl ?_
        refine Ev.mk rfl rfl ⟨Nat.le_of_ble_eq_true rfl, Or.inr (q_rc hI135.1 kx_0 rfl)⟩ ?_
        show At _ none _ _ (0, [(0, .ref 0), (1, .int v131)], [], (_, _)) _
        refine At.enter rfl ?_
        refine r_aload_n rfl ?_
        refine r_iconst 0 rfl ?_
        refine q_putI (Sh.int hI135.1 kx_0 rfl) rfl ?_
        have hI140 := HI.wI0 hI135 kx_0 rfl (p := 0) (b := 17) (v := 0) rfl
        have hF141 := Fr.wI (p := 0) (b := 17) (v := 0) hF139 rfl
        refine r_iload_n rfl ?_
        refine q_ireti ?_
        refine At.enter rfl ?_
        refine r_ireti ?_
        have x142 := HI.eqI hI140 (p := 1) (b := 9) (((gI_sI_ne (by decide)).trans ((hF136.1 1 9 mf_X10_changed_0_1_9).trans (gI_sI_eq hI0.1 kx_1 rfl _))))
        have x143 := HI.eqI hI0 (p := 1) (b := 9) (hv131)
        have x144 := HI.eqI hI0 (p := 1) (b := 6) (hv103)
        exact ⟨_, rfl, hI140, hF141, _, rfl, trivial, ⟨(by omega), ⟨(fun _ => TOLDX_z ((congrArg Int32.toInt ((gI_sI_ne (by decide)))).trans hr138.1)), (fun _ => SETX_z ((congrArg Int32.toInt ((gI_sI_ne (by decide)))).trans hr138.2))⟩⟩⟩

def F_X10_way_0 : List (Nat × Nat) := []
def A_X10_way_0 : List Nat := []
set_option maxRecDepth 100000 in
set_option maxHeartbeats 4000000 in
theorem T_X10_way_0 (d : Nat) {N : Nat} {g0 : List en_E} (hI0 : HI g0) (a1 : Int32) (a2 : Int32) : Ev (d + 5) 118 [.ref 0, .int a1, .int a2] (g0, N) (fun w h' => ∃ g', h' = (g', N) ∧ HI g' ∧ Fr F_X10_way_0 A_X10_way_0 g0 g' ∧ ∃ r : Int32, w = some (.int r) ∧ True ∧ ((¬ (0 ≤ a1.toInt ∧ a1.toInt < (gI g0 1 4).toInt) → r.toInt = -1) ∧ ((0 ≤ a1.toInt ∧ a1.toInt < (gI g0 1 4).toInt) → (eA g0 5 (6 * a1.toInt + 2)).toInt ≠ -1 → WAYA (NX g0) 11 (eA g0 5 (6 * a1.toInt + 1)).toInt (eA g0 5 (6 * a1.toInt + 2)).toInt a2.toInt r.toInt))) := by
  have hF0 : Fr F_X10_way_0 A_X10_way_0 g0 g0 := Fr.rf
  refine Ev.mk rfl rfl ⟨Nat.le_of_ble_eq_true rfl, Or.inr (q_rc hI0.1 kx_0 rfl)⟩ ?_
  show At _ none _ _ (0, [(0, .ref 0), (1, .int a1), (2, .int a2)], [], (_, _)) _
  refine At.enter rfl ?_
  refine r_aload_n rfl ?_
  refine q_getR (Sh.ref hI0.1 kx_0 rfl) ?_
  refine r_iload_n rfl ?_
  refine q_inlV 8 rfl [.ref 1, .int a1] [] (Nat.le_of_ble_eq_true rfl) rfl ?_
  refine Ev.mk rfl rfl ⟨Nat.le_of_ble_eq_true rfl, Or.inr (q_rc hI0.1 kx_1 rfl)⟩ ?_
  show At _ none _ _ (0, [(0, .ref 1), (1, .int a1)], [], (_, _)) _
  refine At.enter rfl ?_
  refine r_iload_n rfl ?_
  refine r_ifs 4 rfl (fun c37 => ?_) (fun c37 => ?_)
  · have c37_ : a1.toInt < 0 := en_k_lt_t c37
    refine At.enter rfl ?_
    refine r_iconst 0 rfl ?_
    refine Ar.fall 17 rfl ?_
    refine At.enter rfl ?_
    refine q_iretz (by decide) ?_
    refine At.enter rfl ?_
    refine r_iff 11 rfl (by decide) ?_
    refine At.enter rfl ?_
    refine r_iconst (-1) rfl ?_
    refine r_ireti ?_
    have zv38 : ((-1) : Int32).toInt = (-1) := rfl
    obtain ⟨v39, hv39⟩ : ∃ v, gI g0 1 4 = v := ⟨_, rfl⟩
    have rv39 := RgF.at hI0.2.1 (p := 1) (b := 4) rfl
    rw [hv39] at rv39
    dsimp only at rv39
    have tv39 := congrArg Int32.toInt hv39
    exact ⟨_, rfl, hI0, hF0, _, rfl, trivial, ⟨fun _ => by omega, fun h => absurd h (by omega)⟩⟩
  · have c37_ : a1.toInt ≥ 0 := en_k_lt_f c37
    refine At.enter rfl ?_
    refine r_iload_n rfl ?_
    refine r_aload_n rfl ?_
    obtain ⟨v41, hv41⟩ : ∃ v, gI g0 1 4 = v := ⟨_, rfl⟩
    have rv41 := RgF.at hI0.2.1 (p := 1) (b := 4) rfl
    rw [hv41] at rv41
    dsimp only at rv41
    refine q_getI (Sh.int hI0.1 kx_1 rfl) v41 hv41 ?_
    have bv43 := q_bnd a1
    have bv44 := q_bnd v41
    refine r_ics 12 rfl (fun c42 => ?_) (fun c42 => ?_)
    · have c42_ : a1.toInt ≥ v41.toInt := en_i_ge_t c42
      refine At.enter rfl ?_
      refine r_iconst 0 rfl ?_
      refine Ar.fall 17 rfl ?_
      refine At.enter rfl ?_
      refine q_iretz (by decide) ?_
      refine At.enter rfl ?_
      refine r_iff 11 rfl (by decide) ?_
      refine At.enter rfl ?_
      refine r_iconst (-1) rfl ?_
      refine r_ireti ?_
      have zv45 : ((-1) : Int32).toInt = (-1) := rfl
      have x46 := HI.eqI hI0 (p := 1) (b := 4) (hv41)
      exact ⟨_, rfl, hI0, hF0, _, rfl, trivial, ⟨fun _ => by omega, fun h => absurd h (by omega)⟩⟩
    · have c42_ : a1.toInt < v41.toInt := en_i_ge_f c42
      refine At.enter rfl ?_
      refine r_iconst 1 rfl ?_
      refine r_goto ?_
      refine At.enter rfl ?_
      refine q_iretz (by decide) ?_
      refine At.enter rfl ?_
      refine r_ift (by decide) ?_
      refine At.enter rfl ?_
      refine r_iload_n rfl ?_
      refine r_iconst (-1) rfl ?_
      refine r_ics 18 rfl (fun c47 => ?_) (fun c47 => ?_)
      · have c47_ : a2.toInt ≠ (-1) := en_i_ne_t c47
        refine At.enter rfl ?_
        refine r_aload_n rfl ?_
        refine q_getR (Sh.ref hI0.1 kx_0 rfl) ?_
        refine r_iload_n rfl ?_
        refine r_iload_n rfl ?_
        refine r_callV 38 rfl [.ref 184, .int a1, .int a2] [] (Nat.le_of_ble_eq_true rfl) rfl (T_X9_standOf_184 _ hI0 a1 a2) ?_
        rintro _ _ ⟨g48, rfl, hI49, hF50, v51, rfl, hr52⟩
        refine At.sti ?_
        have hF53 := Fr.tr hF0 hF50 rfl rfl
        refine At.enter rfl ?_
        refine r_ireti ?_
        have x54 := HI.eqI hI0 (p := 1) (b := 4) (hv41)
        exact ⟨_, rfl, hI49, hF53, _, rfl, trivial, ⟨fun h => absurd h (by omega), fun h hw => hr52.2 h hw (by omega)⟩⟩
      · have c47_ : a2.toInt = (-1) := en_i_ne_f c47
        refine At.enter rfl ?_
        refine r_aload_n rfl ?_
        refine q_getR (Sh.ref hI0.1 kx_0 rfl) ?_
        refine r_iload_n rfl ?_
        refine r_callV 26 rfl [.ref 1, .int a1] [] (Nat.le_of_ble_eq_true rfl) rfl (T_X0_handsOf_1 _ hI0 a1) ?_
        rintro _ _ ⟨g55, rfl, hI56, hF57, v58, rfl, hr59⟩
        refine At.sti ?_
        have hF60 := Fr.tr hF0 hF57 rfl rfl
        refine At.enter rfl ?_
        refine r_goto ?_
        refine At.enter rfl ?_
        refine r_ireti ?_
        have x61 := HI.eqI hI0 (p := 1) (b := 4) (hv41)
        exact ⟨_, rfl, hI56, hF60, _, rfl, trivial, ⟨fun h => absurd h (by omega), fun h hw => WAYA.mk v58.toInt (hr59.2 h hw) (fun _ => by omega) (fun c => absurd c.1 (by omega)) (fun c => absurd c.1 (by omega))⟩⟩
