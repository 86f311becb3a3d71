def F_X10_feed_0 : List (Nat × Nat) := [(174, 1)]
def A_X10_feed_0 : List Nat := [175]
set_option maxRecDepth 100000 in
set_option maxHeartbeats 4000000 in
theorem T_X10_feed_0 (d : Nat) {N : Nat} {g0 : List en_E} (hI0 : HI g0) (a1 : Int32) (a2 : Int32) (a3 : Int32) (a4 : Int32) (a5 : Int32) : Ev (d + 2) 111 [.ref 0, .int a1, .int a2, .int a3, .int a4, .int a5] (g0, N) (fun w h' => ∃ g', h' = (g', N) ∧ HI g' ∧ Fr F_X10_feed_0 A_X10_feed_0 g0 g' ∧ ∃ r : Int32, w = some (.int r) ∧ ((-1) ≤ r.toInt ∧ r.toInt ≤ 400) ∧ (((380 < (gI g0 174 1).toInt → r.toInt = -1 ∧ (gI g' 174 1).toInt = (gI g0 174 1).toInt) ∧ ((gI g0 174 1).toInt ≤ 380 → r.toInt = (gI g0 174 1).toInt + 20 ∧ (gI g' 174 1).toInt = (gI g0 174 1).toInt + 20)) ∧ (∀ i : Int, 0 ≤ i → i < 400 → (eA g' 175 (i)).toInt = if (gI g0 174 1).toInt ≤ 380 ∧ (gI g0 174 1).toInt + 0 ≤ i ∧ i < (gI g0 174 1).toInt + 4 then BYT a1 (i - (gI g0 174 1).toInt - 0) else if (gI g0 174 1).toInt ≤ 380 ∧ (gI g0 174 1).toInt + 4 ≤ i ∧ i < (gI g0 174 1).toInt + 8 then BYT a2 (i - (gI g0 174 1).toInt - 4) else if (gI g0 174 1).toInt ≤ 380 ∧ (gI g0 174 1).toInt + 8 ≤ i ∧ i < (gI g0 174 1).toInt + 12 then BYT a3 (i - (gI g0 174 1).toInt - 8) else if (gI g0 174 1).toInt ≤ 380 ∧ (gI g0 174 1).toInt + 12 ≤ i ∧ i < (gI g0 174 1).toInt + 16 then BYT a4 (i - (gI g0 174 1).toInt - 12) else if (gI g0 174 1).toInt ≤ 380 ∧ (gI g0 174 1).toInt + 16 ≤ i ∧ i < (gI g0 174 1).toInt + 20 then BYT a5 (i - (gI g0 174 1).toInt - 16) else (eA g0 175 (i)).toInt))) := by
  have hF0 : Fr F_X10_feed_0 A_X10_feed_0 g0 g0 := Fr.rf
  refine Ev.mk rfl rfl ⟨Nat.le_of_ble_eq_true rfl, Or.inr (q_rc hI0.1 kx_0 rfl)⟩ ?_
  show At _ none _ _ (0, [(0, .ref 0), (1, .int a1), (2, .int a2), (3, .int a3), (4, .int a4), (5, .int a5)], [], (_, _)) _
  refine At.enter rfl ?_
  refine r_aload_n rfl ?_
  refine q_getR (Sh.ref hI0.1 kx_0 rfl) ?_
  obtain ⟨v97, hv97⟩ : ∃ v, gI g0 174 1 = v := ⟨_, rfl⟩
  have rv97 := RgF.at hI0.2.1 (p := 174) (b := 1) rfl
  rw [hv97] at rv97
  dsimp only at rv97
  refine q_getI (Sh.int hI0.1 kx_174 rfl) v97 hv97 ?_
  refine r_bipush 20 rfl ?_
  refine q_iadd (v97.toInt + 20) rfl (by omega) (fun v98 hv98 => ?_)
  refine r_sipush 400 rfl ?_
  refine r_ics 16 rfl (fun c99 => ?_) (fun c99 => ?_)
  · have c99_ : v98.toInt ≤ 400 := en_i_le_t c99
    refine At.enter rfl ?_
    refine r_aload_n rfl ?_
    refine q_getR (Sh.ref hI0.1 kx_0 rfl) ?_
    refine r_iload_n rfl ?_
    refine r_callV 26 rfl [.ref 174, .int a1] [] (Nat.le_of_ble_eq_true rfl) rfl (T_X8_append_174 _ hI0 a1) ?_
    rintro _ _ ⟨g100, rfl, hI101, hF102, rfl, hr104⟩
    refine At.stn ?_
    have hF105 := Fr.tr hF0 hF102 rfl rfl
    have x106 := HI.eqI hI0 (p := 174) (b := 1) (hv97)
    obtain ⟨v107, hv107⟩ : ∃ v, gI g100 174 1 = v := ⟨_, rfl⟩
    have rv107 := RgF.at hI101.2.1 (p := 174) (b := 1) rfl
    rw [hv107] at rv107
    dsimp only at rv107
    have tv107 := congrArg Int32.toInt hv107
    refine At.enter rfl ?_
    refine r_aload_n rfl ?_
    refine q_getR (Sh.ref hI101.1 kx_0 rfl) ?_
    refine r_iload_n rfl ?_
    refine r_callV 34 rfl [.ref 174, .int a2] [] (Nat.le_of_ble_eq_true rfl) rfl (T_X8_append_174 _ hI101 a2) ?_
    rintro _ _ ⟨g109, rfl, hI110, hF111, rfl, hr113⟩
    refine At.stn ?_
    have hF114 := Fr.tr hF105 hF111 rfl rfl
    obtain ⟨v116, hv116⟩ : ∃ v, gI g109 174 1 = v := ⟨_, rfl⟩
    have rv116 := RgF.at hI110.2.1 (p := 174) (b := 1) rfl
    rw [hv116] at rv116
    dsimp only at rv116
    have tv116 := congrArg Int32.toInt hv116
    refine At.enter rfl ?_
    refine r_aload_n rfl ?_
    refine q_getR (Sh.ref hI110.1 kx_0 rfl) ?_
    refine r_iload_n rfl ?_
    refine r_callV 42 rfl [.ref 174, .int a3] [] (Nat.le_of_ble_eq_true rfl) rfl (T_X8_append_174 _ hI110 a3) ?_
    rintro _ _ ⟨g118, rfl, hI119, hF120, rfl, hr122⟩
    refine At.stn ?_
    have hF123 := Fr.tr hF114 hF120 rfl rfl
    obtain ⟨v125, hv125⟩ : ∃ v, gI g118 174 1 = v := ⟨_, rfl⟩
    have rv125 := RgF.at hI119.2.1 (p := 174) (b := 1) rfl
    rw [hv125] at rv125
    dsimp only at rv125
    have tv125 := congrArg Int32.toInt hv125
    refine At.enter rfl ?_
    refine r_aload_n rfl ?_
    refine q_getR (Sh.ref hI119.1 kx_0 rfl) ?_
    refine r_iload rfl ?_
    refine r_callV 51 rfl [.ref 174, .int a4] [] (Nat.le_of_ble_eq_true rfl) rfl (T_X8_append_174 _ hI119 a4) ?_
    rintro _ _ ⟨g127, rfl, hI128, hF129, rfl, hr131⟩
    refine At.stn ?_
    have hF132 := Fr.tr hF123 hF129 rfl rfl
    obtain ⟨v134, hv134⟩ : ∃ v, gI g127 174 1 = v := ⟨_, rfl⟩
    have rv134 := RgF.at hI128.2.1 (p := 174) (b := 1) rfl
    rw [hv134] at rv134
    dsimp only at rv134
    have tv134 := congrArg Int32.toInt hv134
    refine At.enter rfl ?_
    refine r_aload_n rfl ?_
    refine q_getR (Sh.ref hI128.1 kx_0 rfl) ?_
    refine r_iload rfl ?_
    refine r_callV 60 rfl [.ref 174, .int a5] [] (Nat.le_of_ble_eq_true rfl) rfl (T_X8_append_174 _ hI128 a5) ?_
    rintro _ _ ⟨g136, rfl, hI137, hF138, rfl, hr140⟩
    refine At.stn ?_
    have hF141 := Fr.tr hF132 hF138 rfl rfl
    obtain ⟨v143, hv143⟩ : ∃ v, gI g136 174 1 = v := ⟨_, rfl⟩
    have rv143 := RgF.at hI137.2.1 (p := 174) (b := 1) rfl
    rw [hv143] at rv143
    dsimp only at rv143
    have tv143 := congrArg Int32.toInt hv143
    refine At.enter rfl ?_
    refine r_aload_n rfl ?_
    refine q_getR (Sh.ref hI137.1 kx_0 rfl) ?_
    refine q_getI (Sh.int hI137.1 kx_174 rfl) v143 hv143 ?_
    refine r_ireti ?_
    have x146 := HI.eqI hI0 (p := 174) (b := 1) (hv97)
    exact ⟨_, rfl, hI137, hF141, _, rfl, by omega, ⟨(by omega), (by intro i i0 i1; exact FEED5 (L := (gI g0 174 1).toInt) (F0 := (fun i => (eA g0 175 i).toInt)) (F1 := (fun i => (eA g100 175 i).toInt)) (F2 := (fun i => (eA g109 175 i).toInt)) (F3 := (fun i => (eA g118 175 i).toInt)) (F4 := (fun i => (eA g127 175 i).toInt)) (F5 := (fun i => (eA g136 175 i).toInt)) (by omega) (by omega) (by omega) (by omega) (by omega) ((hr104.2 (by omega))) ((hr113.2 (by omega))) ((hr122.2 (by omega))) ((hr131.2 (by omega))) ((hr140.2 (by omega))) (fun i => rfl) i i0 i1)⟩⟩
  · have c99_ : v98.toInt > 400 := en_i_le_f c99
    refine At.enter rfl ?_
    refine r_iconst (-1) rfl ?_
    refine r_ireti ?_
    have zv147 : ((-1) : Int32).toInt = (-1) := rfl
    have x148 := HI.eqI hI0 (p := 174) (b := 1) (hv97)
    have x149 := HI.eqI hI0 (p := 174) (b := 1) (hv97)
    exact ⟨_, rfl, hI0, hF0, _, rfl, by decide, ⟨(by omega), (by intro i i0 i1; refine Eq.trans ?_ (if_neg (show ¬ ((gI g0 174 1).toInt ≤ 380 ∧ (gI g0 174 1).toInt + 0 ≤ i ∧ i < (gI g0 174 1).toInt + 4) from by omega)).symm; refine Eq.trans ?_ (if_neg (show ¬ ((gI g0 174 1).toInt ≤ 380 ∧ (gI g0 174 1).toInt + 4 ≤ i ∧ i < (gI g0 174 1).toInt + 8) from by omega)).symm; refine Eq.trans ?_ (if_neg (show ¬ ((gI g0 174 1).toInt ≤ 380 ∧ (gI g0 174 1).toInt + 8 ≤ i ∧ i < (gI g0 174 1).toInt + 12) from by omega)).symm; refine Eq.trans ?_ (if_neg (show ¬ ((gI g0 174 1).toInt ≤ 380 ∧ (gI g0 174 1).toInt + 12 ≤ i ∧ i < (gI g0 174 1).toInt + 16) from by omega)).symm; refine Eq.trans ?_ (if_neg (show ¬ ((gI g0 174 1).toInt ≤ 380 ∧ (gI g0 174 1).toInt + 16 ≤ i ∧ i < (gI g0 174 1).toInt + 20) from by omega)).symm; (first | with_reducible rfl | omega | exact eA_ix (by omega) | rfl))⟩⟩

def F_X10_end_0 : List (Nat × Nat) := [(174, 1)]
def A_X10_end_0 : List Nat := []
set_option maxRecDepth 100000 in
set_option maxHeartbeats 4000000 in
theorem T_X10_end_0 (d : Nat) {N : Nat} {g0 : List en_E} (hI0 : HI g0) (a1 : Int32) : Ev (d + 2) 112 [.ref 0, .int a1] (g0, N) (fun w h' => ∃ g', h' = (g', N) ∧ HI g' ∧ Fr F_X10_end_0 A_X10_end_0 g0 g' ∧ ∃ r : Int32, w = some (.int r) ∧ ((-1) ≤ r.toInt ∧ r.toInt ≤ 400) ∧ ((0 ≤ a1.toInt ∧ a1.toInt ≤ (gI g0 174 1).toInt → r.toInt = a1.toInt ∧ (gI g' 174 1).toInt = a1.toInt) ∧ (a1.toInt < 0 ∨ (gI g0 174 1).toInt < a1.toInt → r.toInt = -1 ∧ (gI g' 174 1).toInt = (gI g0 174 1).toInt))) := by
  have hF0 : Fr F_X10_end_0 A_X10_end_0 g0 g0 := Fr.rf
  refine Ev.mk rfl rfl ⟨Nat.le_of_ble_eq_true rfl, Or.inr (q_rc hI0.1 kx_0 rfl)⟩ ?_
  show At _ none _ _ (0, [(0, .ref 0), (1, .int a1)], [], (_, _)) _
  refine At.enter rfl ?_
  refine r_iload_n rfl ?_
  refine r_iconst 0 rfl ?_
  refine r_aload_n rfl ?_
  refine q_getR (Sh.ref hI0.1 kx_0 rfl) ?_
  obtain ⟨v15, hv15⟩ : ∃ v, gI g0 174 1 = v := ⟨_, rfl⟩
  have rv15 := RgF.at hI0.2.1 (p := 174) (b := 1) rfl
  rw [hv15] at rv15
  dsimp only at rv15
  refine q_getI (Sh.int hI0.1 kx_174 rfl) v15 hv15 ?_
  refine q_inlS 12 rfl [.int a1, .int 0, .int v15] [] (Nat.le_of_ble_eq_true rfl) rfl ?_
  refine Ev.mk rfl rfl ⟨Nat.le_of_ble_eq_true rfl, Or.inl rfl⟩ ?_
  show At _ none _ _ (0, [(0, .int a1), (1, .int 0), (2, .int v15)], [], (_, _)) _
  refine At.enter rfl ?_
  refine r_iload_n rfl ?_
  refine r_iload_n rfl ?_
  refine r_ics 5 rfl (fun c16 => ?_) (fun c16 => ?_)
  · have c16_ : a1.toInt < 0 := en_i_lt_t c16
    refine At.enter rfl ?_
    refine r_iconst 0 rfl ?_
    refine Ar.fall 15 rfl ?_
    refine At.enter rfl ?_
    refine q_iretz (by decide) ?_
    refine At.enter rfl ?_
    refine r_iff 15 rfl (by decide) ?_
    refine At.enter rfl ?_
    refine r_iconst (-1) rfl ?_
    refine r_ireti ?_
    have zv17 : ((-1) : Int32).toInt = (-1) := rfl
    have x18 := HI.eqI hI0 (p := 174) (b := 1) (hv15)
    have x19 := HI.eqI hI0 (p := 174) (b := 1) (hv15)
    exact ⟨_, rfl, hI0, hF0, _, rfl, by decide, (by omega)⟩
  · have c16_ : a1.toInt ≥ 0 := en_i_lt_f c16
    refine At.enter rfl ?_
    refine r_iload_n rfl ?_
    refine r_iload_n rfl ?_
    have bv21 := q_bnd a1
    have bv22 := q_bnd v15
    refine r_ics 10 rfl (fun c20 => ?_) (fun c20 => ?_)
    · have c20_ : a1.toInt > v15.toInt := en_i_gt_t c20
      refine At.enter rfl ?_
      refine r_iconst 0 rfl ?_
      refine Ar.fall 15 rfl ?_
      refine At.enter rfl ?_
      refine q_iretz (by decide) ?_
      refine At.enter rfl ?_
      refine r_iff 15 rfl (by decide) ?_
      refine At.enter rfl ?_
      refine r_iconst (-1) rfl ?_
      refine r_ireti ?_
      have zv23 : ((-1) : Int32).toInt = (-1) := rfl
      have x24 := HI.eqI hI0 (p := 174) (b := 1) (hv15)
      have x25 := HI.eqI hI0 (p := 174) (b := 1) (hv15)
      exact ⟨_, rfl, hI0, hF0, _, rfl, by decide, (by omega)⟩
    · have c20_ : a1.toInt ≤ v15.toInt := en_i_gt_f c20
      refine At.enter rfl ?_
      refine r_iconst 1 rfl ?_
      refine r_goto ?_
      refine At.enter rfl ?_
      refine q_iretz (by decide) ?_
      refine At.enter rfl ?_
      refine r_ift (by decide) ?_
      refine At.enter rfl ?_
      refine r_aload_n rfl ?_
      refine q_getR (Sh.ref hI0.1 kx_0 rfl) ?_
      refine r_iload_n rfl ?_
      refine q_putI (Sh.int hI0.1 kx_174 rfl) rfl ?_
      have hI26 := HI.wI1 hI0 kx_174 rfl (p := 174) (b := 1) (v := a1) rfl (by dsimp only; omega)
      have hF27 := Fr.wI (p := 174) (b := 1) (v := a1) hF0 rfl
      refine r_iload_n rfl ?_
      refine r_ireti ?_
      have x28 := HI.eqI hI26 (p := 174) (b := 1) ((gI_sI_eq hI0.1 kx_174 rfl _))
      have x29 := HI.eqI hI0 (p := 174) (b := 1) (hv15)
      exact ⟨_, rfl, hI26, hF27, _, rfl, by omega, (by omega)⟩

def F_X10_row_0 : List (Nat × Nat) := [(0, 14), (0, 16), (0, 17), (1, 4), (174, 1), (220, 2), (222, 2), (223, 5), (223, 10)]
def A_X10_row_0 : List Nat := [5, 230]
theorem mf_X10_changed_0_174_1 : memF F_X10_changed_0 174 1 = false := by decide
theorem mf_X10_changed_0_0_16 : memF F_X10_changed_0 0 16 = false := by decide
theorem mf_X8_at_174_174_1 : memF F_X8_at_174 174 1 = false := by decide
theorem ma_X8_at_174_175 : memA A_X8_at_174 175 = false := by decide
theorem mf_X8_at_174_1_0 : memF F_X8_at_174 1 0 = false := by decide
theorem mf_X8_at_174_1_4 : memF F_X8_at_174 1 4 = false := by decide
theorem mf_X0_addLoad_1_174_1 : memF F_X0_addLoad_1 174 1 = false := by decide
theorem mf_X10_whyNoLoad_0_174_1 : memF F_X10_whyNoLoad_0 174 1 = false := by decide
theorem ma_X8_at_174_5 : memA A_X8_at_174 5 = false := by decide
theorem mf_X10_refused_0_174_1 : memF F_X10_refused_0 174 1 = false := by decide
theorem mf_X10_refused_0_0_16 : memF F_X10_refused_0 0 16 = false := by decide
set_option maxRecDepth 100000 in
set_option maxHeartbeats 4000000 in
theorem T_X10_row_0 (d : Nat) {N : Nat} {g0 : List en_E} (hI0 : HI g0) : Ev (d + 4) 113 [.ref 0] (g0, N) (fun w h' => ∃ g', h' = (g', N) ∧ HI g' ∧ Fr F_X10_row_0 A_X10_row_0 g0 g' ∧ ∃ r : Int32, w = some (.int r) ∧ ((-6) ≤ r.toInt ∧ r.toInt ≤ 400) ∧ ((((gI g' 1 4).toInt = RLI (fun i : Int => (eA g0 175 i).toInt) (gI g0 174 1).toInt (gI g0 1 0).toInt (gI g0 1 4).toInt (6 * (((gI g0 174 1).toInt + 5) / 6)) ∧ ((gI g0 174 1).toInt = 0 → r.toInt = -6 ∧ (gI g' 0 16).toInt = (gI g0 0 16).toInt) ∧ ((gI g0 174 1).toInt ≠ 0 → r.toInt = (gI g' 1 4).toInt - (gI g0 1 4).toInt ∧ (gI g' 0 16).toInt = (6 * (((gI g0 174 1).toInt + 5) / 6)) / 6 - r.toInt) ∧ (gI g' 174 1).toInt = 0) ∧ (∀ i : Int, 0 ≤ i → i < 48 → (eA g' 5 (i)).toInt = RFI (fun i : Int => (eA g0 175 i).toInt) (gI g0 174 1).toInt (gI g0 1 0).toInt (gI g0 1 4).toInt (fun i : Int => (eA g0 5 i).toInt) (6 * (((gI g0 174 1).toInt + 5) / 6)) (i))) ∧ ((TOLDX g0 → TOLDX g') ∧ (SETX g0 → SETX g')))) := by
  have hF0 : Fr F_X10_row_0 A_X10_row_0 g0 g0 := Fr.rf
  refine Ev.mk rfl rfl ⟨Nat.le_of_ble_eq_true rfl, Or.inr (q_rc hI0.1 kx_0 rfl)⟩ ?_
  show At _ none _ _ (0, [(0, .ref 0)], [], (_, _)) _
  refine At.enter rfl ?_
  refine r_aload_n rfl ?_
  refine q_getR (Sh.ref hI0.1 kx_0 rfl) ?_
  obtain ⟨v5060, hv5060⟩ : ∃ v, gI g0 174 1 = v := ⟨_, rfl⟩
  have rv5060 := RgF.at hI0.2.1 (p := 174) (b := 1) rfl
  rw [hv5060] at rv5060
  dsimp only at rv5060
  refine q_getI (Sh.int hI0.1 kx_174 rfl) v5060 hv5060 ?_
  refine r_istore_n ([(1, .int v5060), (0, .ref 0)]) rfl ?_
  refine r_iload_n rfl ?_
  refine r_ifs 12 rfl (fun c5061 => ?_) (fun c5061 => ?_)
  · have c5061_ : v5060.toInt ≠ 0 := en_k_ne_t c5061
    refine At.enter rfl ?_
    refine r_iconst 0 rfl ?_
    refine r_istore_n ([(2, .int 0), (1, .int v5060), (0, .ref 0)]) rfl ?_
    refine r_iconst 0 rfl ?_
    refine r_istore_n ([(3, .int 0), (2, .int 0), (1, .int v5060), (0, .ref 0)]) rfl ?_
    refine r_iconst 0 rfl ?_
    refine r_istore ([(4, .int 0), (3, .int 0), (2, .int 0), (1, .int v5060), (0, .ref 0)]) rfl ?_
    refine Ar.fall 26 rfl ?_
    obtain ⟨v5062, hv5062⟩ : ∃ v, gI g0 1 4 = v := ⟨_, rfl⟩
    have rv5062 := RgF.at hI0.2.1 (p := 1) (b := 4) rfl
    rw [hv5062] at rv5062
    dsimp only at rv5062
    have tv5062 := congrArg Int32.toInt hv5062
    have z_7479 : (0 : Int32).toInt = 0 := rfl
    have z_7480 : (0 : Int32).toInt = 0 := rfl
    have z_7481 : (0 : Int32).toInt = 0 := rfl
    obtain ⟨v7483, hv7483⟩ : ∃ v, gI g0 1 0 = v := ⟨_, rfl⟩
    have rv7483 := RgF.at hI0.2.1 (p := 1) (b := 0) rfl
    rw [hv7483] at rv7483
    dsimp only at rv7483
    have tv7483 := congrArg Int32.toInt hv7483
    have x7485 := HI.eqI hI0 (p := 174) (b := 1) (hv5060)
    refine w_loopI (fun n_ l_ g_ => ∃ x7451 : Int32, ∃ x7452 : Int32, ∃ x7453 : Int32, ∃ x7454 : Int32, n_ = 405 - x7453.toInt ∧ HI g_ ∧ Fr F_X10_row_0 A_X10_row_0 g0 g_ ∧ gI g_ 1 4 = x7454 ∧ gI g_ 174 1 = v5060 ∧ en_get 0 l_ = some (.ref 0) ∧ en_get 1 l_ = some (.int v5060) ∧ en_get 2 l_ = some (.int x7451) ∧ en_get 3 l_ = some (.int x7452) ∧ en_get 4 l_ = some (.int x7453) ∧ (0 ≤ x7451.toInt ∧ x7451.toInt ≤ 400) ∧ (0 ≤ x7452.toInt ∧ x7452.toInt ≤ 400) ∧ (0 ≤ x7453.toInt ∧ x7453.toInt ≤ 405) ∧ (0 ≤ x7454.toInt ∧ x7454.toInt ≤ 8) ∧ (x7453.toInt % 6 = 0) ∧ (0 ≤ x7453.toInt) ∧ (x7453.toInt < (gI g0 174 1).toInt + 6) ∧ (x7454.toInt = RLI (fun i : Int => (eA g0 175 i).toInt) (gI g0 174 1).toInt (gI g0 1 0).toInt (gI g0 1 4).toInt x7453.toInt) ∧ (x7451.toInt = x7454.toInt - (gI g0 1 4).toInt) ∧ (x7452.toInt = x7453.toInt / 6 - x7451.toInt) ∧ (∀ i : Int, 0 ≤ i → i < 48 → (eA g_ 5 (i)).toInt = RFI (fun i : Int => (eA g0 175 i).toInt) (gI g0 174 1).toInt (gI g0 1 0).toInt (gI g0 1 4).toInt (fun i : Int => (eA g0 5 i).toInt) x7453.toInt (i))) ?_ (405 - 0) ⟨0, 0, 0, v5062, by first | rfl | omega, hI0, hF0, hv5062, hv5060, rfl, rfl, rfl, rfl, rfl, by decide, by decide, by decide, by omega, by omega, by omega, by omega, (by refine Eq.trans ?_ (RLI.z _ _ _ _ (by first | rfl | decide | omega)); omega), by omega, by omega, (by intro i i0 i1; exact RFI.z _ _ _ _ (fun i : Int => (eA g0 5 i).toInt) (by first | rfl | decide | omega) _)⟩
    rintro n7459 l7458 g7455 ⟨x7451, x7452, x7453, x7454, hm7486, hI7456, hF7457, e7461, e7462, e7463, e7464, e7465, e7466, e7467, r7468, r7469, r7470, r7471, q7472, q7473, q7474, q7475, q7476, q7477, q7478⟩ ih7460
    have tv7487 := congrArg Int32.toInt e7462
    have tv7488 := congrArg Int32.toInt e7461
    refine At.enter rfl ?_
    refine r_iload e7467 ?_
    refine r_iload_n e7464 ?_
    have bv7490 := q_bnd x7453
    have bv7491 := q_bnd v5060
    refine r_ics 32 rfl (fun c7489 => ?_) (fun c7489 => ?_)
    · have c7489_ : x7453.toInt ≥ v5060.toInt := en_i_ge_t c7489
      refine At.enter rfl ?_
      refine r_aload_n e7463 ?_
      refine q_getR (Sh.ref hI7456.1 kx_0 rfl) ?_
      refine r_iconst 0 rfl ?_
      refine q_putI (Sh.int hI7456.1 kx_174 rfl) rfl ?_
      have hI7492 := HI.wI1 hI7456 kx_174 rfl (p := 174) (b := 1) (v := 0) rfl (by decide)
      have hF7493 := Fr.wI (p := 174) (b := 1) (v := 0) hF7457 rfl
      refine r_aload_n e7463 ?_
      refine r_iload_n e7466 ?_
      refine q_putI (Sh.int hI7492.1 kx_0 rfl) rfl ?_
      have hI7494 := HI.wI0 hI7492 kx_0 rfl (p := 0) (b := 16) (v := x7452) rfl
      have hF7495 := Fr.wI (p := 0) (b := 16) (v := x7452) hF7493 rfl
      refine r_aload_n e7463 ?_
      refine r_callV 82 rfl [.ref 0] [] (Nat.le_of_ble_eq_true rfl) rfl (T_X10_changed_0 _ hI7494) ?_
      rintro _ _ ⟨g7496, rfl, hI7497, hF7498, rfl, hr7500⟩
      refine At.stn ?_
      have hF7501 := Fr.tr hF7495 hF7498 rfl rfl
      refine At.enter rfl ?_
      refine r_aload_n e7463 ?_
      refine r_iload_n e7465 ?_
      refine q_inlV 87 rfl [.ref 0, .int x7451] [] (Nat.le_of_ble_eq_true rfl) rfl ?_
      refine Ev.mk rfl rfl ⟨Nat.le_of_ble_eq_true rfl, Or.inr (q_rc hI7497.1 kx_0 rfl)⟩ ?_
      show At _ none _ _ (0, [(0, .ref 0), (1, .int x7451)], [], (_, _)) _
      refine At.enter rfl ?_
      refine r_aload_n rfl ?_
      refine r_iconst 0 rfl ?_
      refine q_putI (Sh.int hI7497.1 kx_0 rfl) rfl ?_
      have hI7502 := HI.wI0 hI7497 kx_0 rfl (p := 0) (b := 17) (v := 0) rfl
      have hF7503 := Fr.wI (p := 0) (b := 17) (v := 0) hF7501 rfl
      refine r_iload_n rfl ?_
      refine q_ireti ?_
      refine At.enter rfl ?_
      refine r_ireti ?_
      have x7504 := HI.eqI hI7502 (p := 1) (b := 4) ((((gI_sI_ne (by decide)).trans ((hF7498.1 1 4 mf_X10_changed_0_1_4).trans ((gI_sI_ne (by decide)).trans (gI_sI_ne (by decide))))).trans e7461))
      have x7506 := HI.eqI hI7502 (p := 174) (b := 1) (((gI_sI_ne (by decide)).trans ((hF7498.1 174 1 mf_X10_changed_0_174_1).trans ((gI_sI_ne (by decide)).trans (gI_sI_eq hI7456.1 kx_174 rfl _)))))
      have zv7507 : (0 : Int32).toInt = 0 := rfl
      have x7508 := HI.eqI hI0 (p := 174) (b := 1) (hv5060)
      have x7509 := HI.eqI hI7502 (p := 0) (b := 16) (((gI_sI_ne (by decide)).trans ((hF7498.1 0 16 mf_X10_changed_0_0_16).trans (gI_sI_eq hI7492.1 kx_0 rfl _))))
      obtain ⟨v7510, hv7510⟩ : ∃ v, gI g0 0 16 = v := ⟨_, rfl⟩
      have tv7510 := congrArg Int32.toInt hv7510
      exact ⟨_, rfl, hI7502, hF7503, _, rfl, by omega, ⟨⟨⟨(by rw [show (6 * (((gI g0 174 1).toInt + 5) / 6)) = x7453.toInt from by omega]; refine Eq.trans ?_ q7475; omega), by omega, by omega, by omega⟩, (by intro i i0 i1; rw [show (6 * (((gI g0 174 1).toInt + 5) / 6)) = x7453.toInt from by omega]; refine (eA_ti (((gA_sI).trans ((hF7498.2.1 5 ma_X10_changed_0_5).trans ((gA_sI).trans (gA_sI)))))).trans ?_; exact q7478 i i0 i1)⟩, ⟨(fun _ => TOLDX_z ((congrArg Int32.toInt ((gI_sI_ne (by decide)))).trans hr7500.1)), (fun _ => SETX_z ((congrArg Int32.toInt ((gI_sI_ne (by decide)))).trans hr7500.2))⟩⟩⟩
    · have c7489_ : x7453.toInt < v5060.toInt := en_i_ge_f c7489
      refine At.enter rfl ?_
      refine r_iload e7467 ?_
      refine r_bipush 6 rfl ?_
      refine q_iadd (x7453.toInt + 6) rfl (by omega) (fun v7513 hv7513 => ?_)
      refine r_iload_n e7464 ?_
      have bv7515 := q_bnd v7513
      refine r_ics 41 rfl (fun c7514 => ?_) (fun c7514 => ?_)
      · have c7514_ : v7513.toInt > v5060.toInt := en_i_gt_t c7514
        refine At.enter rfl ?_
        refine q_iinc e7466 (x7452.toInt + 1) rfl (by omega) (fun v7516 hv7516 => ?_)
        refine Ar.fall 59 rfl ?_
        refine At.enter rfl ?_
        refine q_iinc (w_p1 (by decide) (Or.inr rfl) e7467) (x7453.toInt + 6) rfl (by omega) (fun v7517 hv7517 => ?_)
        refine r_goto ?_
        exact ih7460 (405 - v7517.toInt) _ _ ⟨x7451, v7516, v7517, x7454, by first | rfl | omega, hI7456, hF7457, e7461, e7462, (w_p1 (by decide) (Or.inr rfl) (w_p1 (by decide) (Or.inr rfl) e7463)), (w_p1 (by decide) (Or.inr rfl) (w_p1 (by decide) (Or.inr rfl) e7464)), (w_p1 (by decide) (Or.inr rfl) (w_p1 (by decide) (Or.inr rfl) e7465)), (w_p1 (by decide) (Or.inr rfl) (w_e1 _ _ _)), (w_e1 _ _ _), by omega, by omega, by omega, by omega, by omega, by omega, by omega, (RLI.n (by omega) (by omega) q7475 (fun h => by have h2 : x7453.toInt + 6 ≤ (gI g0 174 1).toInt ∧ x7454.toInt < 8 ∧ (1 ≤ (eA g0 175 x7453.toInt).toInt ∧ (eA g0 175 x7453.toInt).toInt ≤ 9) ∧ (0 ≤ (eA g0 175 (x7453.toInt + 3)).toInt ∧ (eA g0 175 (x7453.toInt + 3)).toInt ≤ 99) ∧ (0 ≤ (eA g0 175 (x7453.toInt + 4)).toInt ∧ (eA g0 175 (x7453.toInt + 4)).toInt ≤ 9) ∧ (0 ≤ (eA g0 175 (x7453.toInt + 5)).toInt ∧ (eA g0 175 (x7453.toInt + 5)).toInt ≤ 9999) ∧ (0 ≤ (eA g0 175 (x7453.toInt + 1)).toInt ∧ (eA g0 175 (x7453.toInt + 1)).toInt < (gI g0 1 0).toInt) ∧ (0 ≤ (eA g0 175 (x7453.toInt + 2)).toInt ∧ (eA g0 175 (x7453.toInt + 2)).toInt < (gI g0 1 0).toInt) := h; omega) (by omega) (by omega)), by omega, by omega, (by intro i i0 i1; refine (eA_ti (rfl)).trans ?_; refine (q7478 i i0 i1).trans ?_; exact RFI.n (by omega) (by omega) q7475 (by omega) rfl (fun k => absurd k.1 (fun h => by have h2 : x7453.toInt + 6 ≤ (gI g0 174 1).toInt ∧ x7454.toInt < 8 ∧ (1 ≤ (eA g0 175 x7453.toInt).toInt ∧ (eA g0 175 x7453.toInt).toInt ≤ 9) ∧ (0 ≤ (eA g0 175 (x7453.toInt + 3)).toInt ∧ (eA g0 175 (x7453.toInt + 3)).toInt ≤ 99) ∧ (0 ≤ (eA g0 175 (x7453.toInt + 4)).toInt ∧ (eA g0 175 (x7453.toInt + 4)).toInt ≤ 9) ∧ (0 ≤ (eA g0 175 (x7453.toInt + 5)).toInt ∧ (eA g0 175 (x7453.toInt + 5)).toInt ≤ 9999) ∧ (0 ≤ (eA g0 175 (x7453.toInt + 1)).toInt ∧ (eA g0 175 (x7453.toInt + 1)).toInt < (gI g0 1 0).toInt) ∧ (0 ≤ (eA g0 175 (x7453.toInt + 2)).toInt ∧ (eA g0 175 (x7453.toInt + 2)).toInt < (gI g0 1 0).toInt) := h; omega)))⟩ ⟨by omega, by omega⟩
      · have c7514_ : v7513.toInt ≤ v5060.toInt := en_i_gt_f c7514
        refine At.enter rfl ?_
        refine r_aload_n e7463 ?_
        refine r_iload e7467 ?_
        refine q_inlV 47 rfl [.ref 0, .int x7453] [] (Nat.le_of_ble_eq_true rfl) rfl ?_
        refine Ev.mk rfl rfl ⟨Nat.le_of_ble_eq_true rfl, Or.inr (q_rc hI7456.1 kx_0 rfl)⟩ ?_
        show At _ none _ _ (0, [(0, .ref 0), (1, .int x7453)], [], (_, _)) _
        refine At.enter rfl ?_
        refine r_aload_n rfl ?_
        refine q_getR (Sh.ref hI7456.1 kx_0 rfl) ?_
        refine r_iload_n rfl ?_
        refine r_iconst 0 rfl ?_
        refine q_iadd (x7453.toInt + 0) rfl (by omega) (fun v7518 hv7518 => ?_)
        refine r_callV 10 rfl [.ref 174, .int v7518] [] (Nat.le_of_ble_eq_true rfl) rfl (T_X8_at_174 _ hI7456 v7518) ?_
        rintro _ _ ⟨g7519, rfl, hI7520, hF7521, v7522, rfl, hr7523⟩
        refine At.sti ?_
        have hF7524 := Fr.tr hF7457 hF7521 rfl rfl
        have x7525 := HI.eqI hI7456 (p := 174) (b := 1) (e7462)
        have y7526 := (eA_ix (g := g0) (p := 175) (show x7453.toInt = v7518.toInt from by omega)).trans (eA_ti (j := v7518.toInt) ((hF7457.2.1 175 (by decide)))).symm
        have y7527 : v7522.toInt = (eA g0 175 x7453.toInt).toInt := (hr7523.2.2.1 (by omega) (show _ < (gI _ 174 1).toInt from by omega)).trans y7526.symm
        clear hr7523 y7526
        have x7528 := HI.eqI hI7456 (p := 174) (b := 1) (e7462)
        refine At.enter rfl ?_
        refine r_istore_n ([(2, .int v7522), (0, .ref 0), (1, .int x7453)]) rfl ?_
        refine r_aload_n rfl ?_
        refine q_getR (Sh.ref hI7520.1 kx_0 rfl) ?_
        refine r_iload_n rfl ?_
        refine r_iconst 1 rfl ?_
        refine q_iadd (x7453.toInt + 1) rfl (by omega) (fun v7530 hv7530 => ?_)
        refine r_callV 21 rfl [.ref 174, .int v7530] [] (Nat.le_of_ble_eq_true rfl) rfl (T_X8_at_174 _ hI7520 v7530) ?_
        rintro _ _ ⟨g7531, rfl, hI7532, hF7533, v7534, rfl, hr7535⟩
        refine At.sti ?_
        have hF7536 := Fr.tr hF7524 hF7533 rfl rfl
        have x7537 := HI.eqI hI7520 (p := 174) (b := 1) (((hF7521.1 174 1 mf_X8_at_174_174_1).trans e7462))
        have y7538 := (eA_ix (g := g0) (p := 175) (show (x7453.toInt + 1) = v7530.toInt from by omega)).trans (eA_ti (j := v7530.toInt) (((hF7521.2.1 175 ma_X8_at_174_175).trans (hF7457.2.1 175 (by decide))))).symm
        have y7539 : v7534.toInt = (eA g0 175 (x7453.toInt + 1)).toInt := (hr7535.2.2.1 (by omega) (show _ < (gI _ 174 1).toInt from by omega)).trans y7538.symm
        clear hr7535 y7538
        have x7540 := HI.eqI hI7520 (p := 174) (b := 1) (((hF7521.1 174 1 mf_X8_at_174_174_1).trans e7462))
        refine At.enter rfl ?_
        refine r_istore_n ([(3, .int v7534), (2, .int v7522), (0, .ref 0), (1, .int x7453)]) rfl ?_
        refine r_aload_n rfl ?_
        refine q_getR (Sh.ref hI7532.1 kx_0 rfl) ?_
        refine r_iload_n rfl ?_
        refine r_iconst 2 rfl ?_
        refine q_iadd (x7453.toInt + 2) rfl (by omega) (fun v7542 hv7542 => ?_)
        refine r_callV 32 rfl [.ref 174, .int v7542] [] (Nat.le_of_ble_eq_true rfl) rfl (T_X8_at_174 _ hI7532 v7542) ?_
        rintro _ _ ⟨g7543, rfl, hI7544, hF7545, v7546, rfl, hr7547⟩
        refine At.sti ?_
        have hF7548 := Fr.tr hF7536 hF7545 rfl rfl
        have x7549 := HI.eqI hI7532 (p := 174) (b := 1) ((((hF7533.1 174 1 mf_X8_at_174_174_1).trans (hF7521.1 174 1 mf_X8_at_174_174_1)).trans e7462))
        have y7550 := (eA_ix (g := g0) (p := 175) (show (x7453.toInt + 2) = v7542.toInt from by omega)).trans (eA_ti (j := v7542.toInt) (((hF7533.2.1 175 ma_X8_at_174_175).trans ((hF7521.2.1 175 ma_X8_at_174_175).trans (hF7457.2.1 175 (by decide)))))).symm
        have y7551 : v7546.toInt = (eA g0 175 (x7453.toInt + 2)).toInt := (hr7547.2.2.1 (by omega) (show _ < (gI _ 174 1).toInt from by omega)).trans y7550.symm
        clear hr7547 y7550
        have x7552 := HI.eqI hI7532 (p := 174) (b := 1) ((((hF7533.1 174 1 mf_X8_at_174_174_1).trans (hF7521.1 174 1 mf_X8_at_174_174_1)).trans e7462))
        refine At.enter rfl ?_
        refine r_istore ([(4, .int v7546), (3, .int v7534), (2, .int v7522), (0, .ref 0), (1, .int x7453)]) rfl ?_
        refine r_aload_n rfl ?_
        refine q_getR (Sh.ref hI7544.1 kx_0 rfl) ?_
        refine r_iload_n rfl ?_
        refine r_iconst 3 rfl ?_
        refine q_iadd (x7453.toInt + 3) rfl (by omega) (fun v7554 hv7554 => ?_)
        refine r_callV 44 rfl [.ref 174, .int v7554] [] (Nat.le_of_ble_eq_true rfl) rfl (T_X8_at_174 _ hI7544 v7554) ?_
        rintro _ _ ⟨g7555, rfl, hI7556, hF7557, v7558, rfl, hr7559⟩
        refine At.sti ?_
        have hF7560 := Fr.tr hF7548 hF7557 rfl rfl
        have x7561 := HI.eqI hI7544 (p := 174) (b := 1) ((((hF7545.1 174 1 mf_X8_at_174_174_1).trans ((hF7533.1 174 1 mf_X8_at_174_174_1).trans (hF7521.1 174 1 mf_X8_at_174_174_1))).trans e7462))
        have y7562 := (eA_ix (g := g0) (p := 175) (show (x7453.toInt + 3) = v7554.toInt from by omega)).trans (eA_ti (j := v7554.toInt) (((hF7545.2.1 175 ma_X8_at_174_175).trans ((hF7533.2.1 175 ma_X8_at_174_175).trans ((hF7521.2.1 175 ma_X8_at_174_175).trans (hF7457.2.1 175 (by decide))))))).symm
        have y7563 : v7558.toInt = (eA g0 175 (x7453.toInt + 3)).toInt := (hr7559.2.2.1 (by omega) (show _ < (gI _ 174 1).toInt from by omega)).trans y7562.symm
        clear hr7559 y7562
        have x7564 := HI.eqI hI7544 (p := 174) (b := 1) ((((hF7545.1 174 1 mf_X8_at_174_174_1).trans ((hF7533.1 174 1 mf_X8_at_174_174_1).trans (hF7521.1 174 1 mf_X8_at_174_174_1))).trans e7462))
        refine At.enter rfl ?_
        refine r_istore ([(5, .int v7558), (4, .int v7546), (3, .int v7534), (2, .int v7522), (0, .ref 0), (1, .int x7453)]) rfl ?_
        refine r_aload_n rfl ?_
        refine q_getR (Sh.ref hI7556.1 kx_0 rfl) ?_
        refine r_iload_n rfl ?_
        refine r_iconst 4 rfl ?_
        refine q_iadd (x7453.toInt + 4) rfl (by omega) (fun v7566 hv7566 => ?_)
        refine r_callV 56 rfl [.ref 174, .int v7566] [] (Nat.le_of_ble_eq_true rfl) rfl (T_X8_at_174 _ hI7556 v7566) ?_
        rintro _ _ ⟨g7567, rfl, hI7568, hF7569, v7570, rfl, hr7571⟩
        refine At.sti ?_
        have hF7572 := Fr.tr hF7560 hF7569 rfl rfl
        have x7573 := HI.eqI hI7556 (p := 174) (b := 1) ((((hF7557.1 174 1 mf_X8_at_174_174_1).trans ((hF7545.1 174 1 mf_X8_at_174_174_1).trans ((hF7533.1 174 1 mf_X8_at_174_174_1).trans (hF7521.1 174 1 mf_X8_at_174_174_1)))).trans e7462))
        have y7574 := (eA_ix (g := g0) (p := 175) (show (x7453.toInt + 4) = v7566.toInt from by omega)).trans (eA_ti (j := v7566.toInt) (((hF7557.2.1 175 ma_X8_at_174_175).trans ((hF7545.2.1 175 ma_X8_at_174_175).trans ((hF7533.2.1 175 ma_X8_at_174_175).trans ((hF7521.2.1 175 ma_X8_at_174_175).trans (hF7457.2.1 175 (by decide)))))))).symm
        have y7575 : v7570.toInt = (eA g0 175 (x7453.toInt + 4)).toInt := (hr7571.2.2.1 (by omega) (show _ < (gI _ 174 1).toInt from by omega)).trans y7574.symm
        clear hr7571 y7574
        have x7576 := HI.eqI hI7556 (p := 174) (b := 1) ((((hF7557.1 174 1 mf_X8_at_174_174_1).trans ((hF7545.1 174 1 mf_X8_at_174_174_1).trans ((hF7533.1 174 1 mf_X8_at_174_174_1).trans (hF7521.1 174 1 mf_X8_at_174_174_1)))).trans e7462))
        refine At.enter rfl ?_
        refine r_istore ([(6, .int v7570), (5, .int v7558), (4, .int v7546), (3, .int v7534), (2, .int v7522), (0, .ref 0), (1, .int x7453)]) rfl ?_
        refine r_aload_n rfl ?_
        refine q_getR (Sh.ref hI7568.1 kx_0 rfl) ?_
        refine r_iload_n rfl ?_
        refine r_iconst 5 rfl ?_
        refine q_iadd (x7453.toInt + 5) rfl (by omega) (fun v7578 hv7578 => ?_)
        refine r_callV 68 rfl [.ref 174, .int v7578] [] (Nat.le_of_ble_eq_true rfl) rfl (T_X8_at_174 _ hI7568 v7578) ?_
        rintro _ _ ⟨g7579, rfl, hI7580, hF7581, v7582, rfl, hr7583⟩
        refine At.sti ?_
        have hF7584 := Fr.tr hF7572 hF7581 rfl rfl
        have x7585 := HI.eqI hI7568 (p := 174) (b := 1) ((((hF7569.1 174 1 mf_X8_at_174_174_1).trans ((hF7557.1 174 1 mf_X8_at_174_174_1).trans ((hF7545.1 174 1 mf_X8_at_174_174_1).trans ((hF7533.1 174 1 mf_X8_at_174_174_1).trans (hF7521.1 174 1 mf_X8_at_174_174_1))))).trans e7462))
        have y7586 := (eA_ix (g := g0) (p := 175) (show (x7453.toInt + 5) = v7578.toInt from by omega)).trans (eA_ti (j := v7578.toInt) (((hF7569.2.1 175 ma_X8_at_174_175).trans ((hF7557.2.1 175 ma_X8_at_174_175).trans ((hF7545.2.1 175 ma_X8_at_174_175).trans ((hF7533.2.1 175 ma_X8_at_174_175).trans ((hF7521.2.1 175 ma_X8_at_174_175).trans (hF7457.2.1 175 (by decide))))))))).symm
        have y7587 : v7582.toInt = (eA g0 175 (x7453.toInt + 5)).toInt := (hr7583.2.2.1 (by omega) (show _ < (gI _ 174 1).toInt from by omega)).trans y7586.symm
        clear hr7583 y7586
        have x7588 := HI.eqI hI7568 (p := 174) (b := 1) ((((hF7569.1 174 1 mf_X8_at_174_174_1).trans ((hF7557.1 174 1 mf_X8_at_174_174_1).trans ((hF7545.1 174 1 mf_X8_at_174_174_1).trans ((hF7533.1 174 1 mf_X8_at_174_174_1).trans (hF7521.1 174 1 mf_X8_at_174_174_1))))).trans e7462))
        refine At.enter rfl ?_
        refine r_istore ([(7, .int v7582), (6, .int v7570), (5, .int v7558), (4, .int v7546), (3, .int v7534), (2, .int v7522), (0, .ref 0), (1, .int x7453)]) rfl ?_
        refine r_aload_n rfl ?_
        refine r_iload_n rfl ?_
        refine r_iload_n rfl ?_
        refine r_iload rfl ?_
        refine r_iload rfl ?_
        refine r_iload rfl ?_
        refine r_iload rfl ?_
        refine r_callV 84 rfl [.ref 0, .int v7522, .int v7534, .int v7546, .int v7558, .int v7570, .int v7582] [] (Nat.le_of_ble_eq_true rfl) rfl (T_X10_whyNoLoad_0 _ hI7580 v7522 v7534 v7546 v7558 v7570 v7582) ?_
        rintro _ _ ⟨g7590, rfl, hI7591, hF7592, v7593, rfl, hr7594⟩
        refine At.sti ?_
        have hF7595 := Fr.tr hF7584 hF7592 rfl rfl
        have x7596 := HI.eqI hI7580 (p := 1) (b := 0) ((((hF7581.1 1 0 mf_X8_at_174_1_0).trans ((hF7569.1 1 0 mf_X8_at_174_1_0).trans ((hF7557.1 1 0 mf_X8_at_174_1_0).trans ((hF7545.1 1 0 mf_X8_at_174_1_0).trans ((hF7533.1 1 0 mf_X8_at_174_1_0).trans ((hF7521.1 1 0 mf_X8_at_174_1_0).trans (hF7457.1 1 0 (by decide)))))))).trans hv7483))
        have x7597 := HI.eqI hI7580 (p := 1) (b := 4) ((((hF7581.1 1 4 mf_X8_at_174_1_4).trans ((hF7569.1 1 4 mf_X8_at_174_1_4).trans ((hF7557.1 1 4 mf_X8_at_174_1_4).trans ((hF7545.1 1 4 mf_X8_at_174_1_4).trans ((hF7533.1 1 4 mf_X8_at_174_1_4).trans (hF7521.1 1 4 mf_X8_at_174_1_4)))))).trans e7461))
        refine At.enter rfl ?_
        refine r_ifs 87 rfl (fun c7598 => ?_) (fun c7598 => ?_)
        · have c7598_ : v7593.toInt = 0 := en_k_eq_t c7598
          refine At.enter rfl ?_
          refine r_aload_n rfl ?_
          refine q_getR (Sh.ref hI7591.1 kx_0 rfl) ?_
          refine r_iload_n rfl ?_
          refine r_iload_n rfl ?_
          refine r_iload rfl ?_
          refine r_iload rfl ?_
          refine r_iload rfl ?_
          refine r_iload rfl ?_
          refine r_callV 106 rfl [.ref 1, .int v7522, .int v7534, .int v7546, .int v7558, .int v7570, .int v7582] [] (Nat.le_of_ble_eq_true rfl) rfl (T_X0_addLoad_1 _ hI7591 v7522 v7534 v7546 v7558 v7570 v7582) ?_
          rintro _ _ ⟨g7599, rfl, hI7600, hF7601, v7602, rfl, hr7603⟩
          refine At.sti ?_
          have hF7604 := Fr.tr hF7595 hF7601 rfl rfl
          have x7605 := HI.eqI hI7591 (p := 1) (b := 4) ((((hF7592.1 1 4 mf_X10_whyNoLoad_0_1_4).trans ((hF7581.1 1 4 mf_X8_at_174_1_4).trans ((hF7569.1 1 4 mf_X8_at_174_1_4).trans ((hF7557.1 1 4 mf_X8_at_174_1_4).trans ((hF7545.1 1 4 mf_X8_at_174_1_4).trans ((hF7533.1 1 4 mf_X8_at_174_1_4).trans (hF7521.1 1 4 mf_X8_at_174_1_4))))))).trans e7461))
          obtain ⟨v7606, hv7606⟩ : ∃ v, gI g7599 1 4 = v := ⟨_, rfl⟩
          have rv7606 := RgF.at hI7600.2.1 (p := 1) (b := 4) rfl
          rw [hv7606] at rv7606
          dsimp only at rv7606
          have tv7606 := congrArg Int32.toInt hv7606
          refine At.enter rfl ?_
          refine r_pop rfl ?_
          refine r_iconst 1 rfl ?_
          refine q_iretz (by decide) ?_
          refine At.enter rfl ?_
          refine r_iff 50 rfl (by decide) ?_
          refine At.enter rfl ?_
          refine q_iinc e7465 (x7451.toInt + 1) rfl (by omega) (fun v7608 hv7608 => ?_)
          refine r_goto ?_
          refine At.enter rfl ?_
          refine q_iinc (w_p1 (by decide) (Or.inr rfl) e7467) (x7453.toInt + 6) rfl (by omega) (fun v7609 hv7609 => ?_)
          refine r_goto ?_
          have c7610 := WNL.y hr7594.2 (by omega)
          exact ih7460 (405 - v7609.toInt) _ _ ⟨v7608, x7452, v7609, v7606, by first | rfl | omega, hI7600, hF7604, hv7606, (((hF7601.1 174 1 mf_X0_addLoad_1_174_1).trans ((hF7592.1 174 1 mf_X10_whyNoLoad_0_174_1).trans ((hF7581.1 174 1 mf_X8_at_174_174_1).trans ((hF7569.1 174 1 mf_X8_at_174_174_1).trans ((hF7557.1 174 1 mf_X8_at_174_174_1).trans ((hF7545.1 174 1 mf_X8_at_174_174_1).trans ((hF7533.1 174 1 mf_X8_at_174_174_1).trans (hF7521.1 174 1 mf_X8_at_174_174_1)))))))).trans e7462), (w_p1 (by decide) (Or.inr rfl) (w_p1 (by decide) (Or.inr rfl) e7463)), (w_p1 (by decide) (Or.inr rfl) (w_p1 (by decide) (Or.inr rfl) e7464)), (w_p1 (by decide) (Or.inr rfl) (w_e1 _ _ _)), (w_p1 (by decide) (Or.inr rfl) (w_p1 (by decide) (Or.inr rfl) e7466)), (w_e1 _ _ _), by omega, by omega, by omega, by omega, by omega, by omega, by omega, (RLI.y (by omega) (by omega) q7475 (show x7453.toInt + 6 ≤ (gI g0 174 1).toInt ∧ x7454.toInt < 8 ∧ (1 ≤ (eA g0 175 x7453.toInt).toInt ∧ (eA g0 175 x7453.toInt).toInt ≤ 9) ∧ (0 ≤ (eA g0 175 (x7453.toInt + 3)).toInt ∧ (eA g0 175 (x7453.toInt + 3)).toInt ≤ 99) ∧ (0 ≤ (eA g0 175 (x7453.toInt + 4)).toInt ∧ (eA g0 175 (x7453.toInt + 4)).toInt ≤ 9) ∧ (0 ≤ (eA g0 175 (x7453.toInt + 5)).toInt ∧ (eA g0 175 (x7453.toInt + 5)).toInt ≤ 9999) ∧ (0 ≤ (eA g0 175 (x7453.toInt + 1)).toInt ∧ (eA g0 175 (x7453.toInt + 1)).toInt < (gI g0 1 0).toInt) ∧ (0 ≤ (eA g0 175 (x7453.toInt + 2)).toInt ∧ (eA g0 175 (x7453.toInt + 2)).toInt < (gI g0 1 0).toInt) from by have c := WNL.y hr7594.2 (by omega); omega) (by omega) (by omega)), by omega, by omega, (by intro i i0 i1; refine (hr7603.2.2.2 i i0 i1).trans ?_; exact (Decidable.em ((gI g7590 1 4).toInt < 8 ∧ i = 6 * (gI g7590 1 4).toInt + 0)).elim (fun k82_ => by refine (if_pos k82_).trans ?_; refine Eq.trans ?_ (RFI.y (l := x7454.toInt) (by omega) (by omega) q7475 (show x7453.toInt + 6 ≤ (gI g0 174 1).toInt ∧ x7454.toInt < 8 ∧ (1 ≤ (eA g0 175 x7453.toInt).toInt ∧ (eA g0 175 x7453.toInt).toInt ≤ 9) ∧ (0 ≤ (eA g0 175 (x7453.toInt + 3)).toInt ∧ (eA g0 175 (x7453.toInt + 3)).toInt ≤ 99) ∧ (0 ≤ (eA g0 175 (x7453.toInt + 4)).toInt ∧ (eA g0 175 (x7453.toInt + 4)).toInt ≤ 9) ∧ (0 ≤ (eA g0 175 (x7453.toInt + 5)).toInt ∧ (eA g0 175 (x7453.toInt + 5)).toInt ≤ 9999) ∧ (0 ≤ (eA g0 175 (x7453.toInt + 1)).toInt ∧ (eA g0 175 (x7453.toInt + 1)).toInt < (gI g0 1 0).toInt) ∧ (0 ≤ (eA g0 175 (x7453.toInt + 2)).toInt ∧ (eA g0 175 (x7453.toInt + 2)).toInt < (gI g0 1 0).toInt) from by have c := WNL.y hr7594.2 (by omega); omega) (by omega) (by omega)); refine Eq.trans ?_ (eA_ix (g := g0) (p := 175) (show x7453.toInt = x7453.toInt + (i - 6 * x7454.toInt) from by omega)); omega) (fun k82_ => by refine (if_neg k82_).trans ?_; exact (Decidable.em ((gI g7590 1 4).toInt < 8 ∧ i = 6 * (gI g7590 1 4).toInt + 1)).elim (fun k83_ => by refine (if_pos k83_).trans ?_; refine Eq.trans ?_ (RFI.y (l := x7454.toInt) (by omega) (by omega) q7475 (show x7453.toInt + 6 ≤ (gI g0 174 1).toInt ∧ x7454.toInt < 8 ∧ (1 ≤ (eA g0 175 x7453.toInt).toInt ∧ (eA g0 175 x7453.toInt).toInt ≤ 9) ∧ (0 ≤ (eA g0 175 (x7453.toInt + 3)).toInt ∧ (eA g0 175 (x7453.toInt + 3)).toInt ≤ 99) ∧ (0 ≤ (eA g0 175 (x7453.toInt + 4)).toInt ∧ (eA g0 175 (x7453.toInt + 4)).toInt ≤ 9) ∧ (0 ≤ (eA g0 175 (x7453.toInt + 5)).toInt ∧ (eA g0 175 (x7453.toInt + 5)).toInt ≤ 9999) ∧ (0 ≤ (eA g0 175 (x7453.toInt + 1)).toInt ∧ (eA g0 175 (x7453.toInt + 1)).toInt < (gI g0 1 0).toInt) ∧ (0 ≤ (eA g0 175 (x7453.toInt + 2)).toInt ∧ (eA g0 175 (x7453.toInt + 2)).toInt < (gI g0 1 0).toInt) from by have c := WNL.y hr7594.2 (by omega); omega) (by omega) (by omega)); refine Eq.trans ?_ (eA_ix (g := g0) (p := 175) (show x7453.toInt + 1 = x7453.toInt + (i - 6 * x7454.toInt) from by omega)); omega) (fun k83_ => by refine (if_neg k83_).trans ?_; exact (Decidable.em ((gI g7590 1 4).toInt < 8 ∧ i = 6 * (gI g7590 1 4).toInt + 2)).elim (fun k84_ => by refine (if_pos k84_).trans ?_; refine Eq.trans ?_ (RFI.y (l := x7454.toInt) (by omega) (by omega) q7475 (show x7453.toInt + 6 ≤ (gI g0 174 1).toInt ∧ x7454.toInt < 8 ∧ (1 ≤ (eA g0 175 x7453.toInt).toInt ∧ (eA g0 175 x7453.toInt).toInt ≤ 9) ∧ (0 ≤ (eA g0 175 (x7453.toInt + 3)).toInt ∧ (eA g0 175 (x7453.toInt + 3)).toInt ≤ 99) ∧ (0 ≤ (eA g0 175 (x7453.toInt + 4)).toInt ∧ (eA g0 175 (x7453.toInt + 4)).toInt ≤ 9) ∧ (0 ≤ (eA g0 175 (x7453.toInt + 5)).toInt ∧ (eA g0 175 (x7453.toInt + 5)).toInt ≤ 9999) ∧ (0 ≤ (eA g0 175 (x7453.toInt + 1)).toInt ∧ (eA g0 175 (x7453.toInt + 1)).toInt < (gI g0 1 0).toInt) ∧ (0 ≤ (eA g0 175 (x7453.toInt + 2)).toInt ∧ (eA g0 175 (x7453.toInt + 2)).toInt < (gI g0 1 0).toInt) from by have c := WNL.y hr7594.2 (by omega); omega) (by omega) (by omega)); refine Eq.trans ?_ (eA_ix (g := g0) (p := 175) (show x7453.toInt + 2 = x7453.toInt + (i - 6 * x7454.toInt) from by omega)); omega) (fun k84_ => by refine (if_neg k84_).trans ?_; exact (Decidable.em ((gI g7590 1 4).toInt < 8 ∧ i = 6 * (gI g7590 1 4).toInt + 3)).elim (fun k85_ => by refine (if_pos k85_).trans ?_; refine Eq.trans ?_ (RFI.y (l := x7454.toInt) (by omega) (by omega) q7475 (show x7453.toInt + 6 ≤ (gI g0 174 1).toInt ∧ x7454.toInt < 8 ∧ (1 ≤ (eA g0 175 x7453.toInt).toInt ∧ (eA g0 175 x7453.toInt).toInt ≤ 9) ∧ (0 ≤ (eA g0 175 (x7453.toInt + 3)).toInt ∧ (eA g0 175 (x7453.toInt + 3)).toInt ≤ 99) ∧ (0 ≤ (eA g0 175 (x7453.toInt + 4)).toInt ∧ (eA g0 175 (x7453.toInt + 4)).toInt ≤ 9) ∧ (0 ≤ (eA g0 175 (x7453.toInt + 5)).toInt ∧ (eA g0 175 (x7453.toInt + 5)).toInt ≤ 9999) ∧ (0 ≤ (eA g0 175 (x7453.toInt + 1)).toInt ∧ (eA g0 175 (x7453.toInt + 1)).toInt < (gI g0 1 0).toInt) ∧ (0 ≤ (eA g0 175 (x7453.toInt + 2)).toInt ∧ (eA g0 175 (x7453.toInt + 2)).toInt < (gI g0 1 0).toInt) from by have c := WNL.y hr7594.2 (by omega); omega) (by omega) (by omega)); refine Eq.trans ?_ (eA_ix (g := g0) (p := 175) (show x7453.toInt + 3 = x7453.toInt + (i - 6 * x7454.toInt) from by omega)); omega) (fun k85_ => by refine (if_neg k85_).trans ?_; exact (Decidable.em ((gI g7590 1 4).toInt < 8 ∧ i = 6 * (gI g7590 1 4).toInt + 4)).elim (fun k86_ => by refine (if_pos k86_).trans ?_; refine Eq.trans ?_ (RFI.y (l := x7454.toInt) (by omega) (by omega) q7475 (show x7453.toInt + 6 ≤ (gI g0 174 1).toInt ∧ x7454.toInt < 8 ∧ (1 ≤ (eA g0 175 x7453.toInt).toInt ∧ (eA g0 175 x7453.toInt).toInt ≤ 9) ∧ (0 ≤ (eA g0 175 (x7453.toInt + 3)).toInt ∧ (eA g0 175 (x7453.toInt + 3)).toInt ≤ 99) ∧ (0 ≤ (eA g0 175 (x7453.toInt + 4)).toInt ∧ (eA g0 175 (x7453.toInt + 4)).toInt ≤ 9) ∧ (0 ≤ (eA g0 175 (x7453.toInt + 5)).toInt ∧ (eA g0 175 (x7453.toInt + 5)).toInt ≤ 9999) ∧ (0 ≤ (eA g0 175 (x7453.toInt + 1)).toInt ∧ (eA g0 175 (x7453.toInt + 1)).toInt < (gI g0 1 0).toInt) ∧ (0 ≤ (eA g0 175 (x7453.toInt + 2)).toInt ∧ (eA g0 175 (x7453.toInt + 2)).toInt < (gI g0 1 0).toInt) from by have c := WNL.y hr7594.2 (by omega); omega) (by omega) (by omega)); refine Eq.trans ?_ (eA_ix (g := g0) (p := 175) (show x7453.toInt + 4 = x7453.toInt + (i - 6 * x7454.toInt) from by omega)); omega) (fun k86_ => by refine (if_neg k86_).trans ?_; exact (Decidable.em ((gI g7590 1 4).toInt < 8 ∧ i = 6 * (gI g7590 1 4).toInt + 5)).elim (fun k87_ => by refine (if_pos k87_).trans ?_; refine Eq.trans ?_ (RFI.y (l := x7454.toInt) (by omega) (by omega) q7475 (show x7453.toInt + 6 ≤ (gI g0 174 1).toInt ∧ x7454.toInt < 8 ∧ (1 ≤ (eA g0 175 x7453.toInt).toInt ∧ (eA g0 175 x7453.toInt).toInt ≤ 9) ∧ (0 ≤ (eA g0 175 (x7453.toInt + 3)).toInt ∧ (eA g0 175 (x7453.toInt + 3)).toInt ≤ 99) ∧ (0 ≤ (eA g0 175 (x7453.toInt + 4)).toInt ∧ (eA g0 175 (x7453.toInt + 4)).toInt ≤ 9) ∧ (0 ≤ (eA g0 175 (x7453.toInt + 5)).toInt ∧ (eA g0 175 (x7453.toInt + 5)).toInt ≤ 9999) ∧ (0 ≤ (eA g0 175 (x7453.toInt + 1)).toInt ∧ (eA g0 175 (x7453.toInt + 1)).toInt < (gI g0 1 0).toInt) ∧ (0 ≤ (eA g0 175 (x7453.toInt + 2)).toInt ∧ (eA g0 175 (x7453.toInt + 2)).toInt < (gI g0 1 0).toInt) from by have c := WNL.y hr7594.2 (by omega); omega) (by omega) (by omega)); refine Eq.trans ?_ (eA_ix (g := g0) (p := 175) (show x7453.toInt + 5 = x7453.toInt + (i - 6 * x7454.toInt) from by omega)); omega) (fun k87_ => by refine (if_neg k87_).trans ?_; refine (eA_ti (((hF7592.2.1 5 ma_X10_whyNoLoad_0_5).trans ((hF7581.2.1 5 ma_X8_at_174_5).trans ((hF7569.2.1 5 ma_X8_at_174_5).trans ((hF7557.2.1 5 ma_X8_at_174_5).trans ((hF7545.2.1 5 ma_X8_at_174_5).trans ((hF7533.2.1 5 ma_X8_at_174_5).trans (hF7521.2.1 5 ma_X8_at_174_5))))))))).trans ?_; refine (q7478 i i0 i1).trans ?_; exact RFI.n (by omega) (by omega) q7475 (by omega) rfl (fun k => absurd k.2 (by omega)))))))))⟩ ⟨by omega, by omega⟩
        · have c7598_ : v7593.toInt ≠ 0 := en_k_eq_f c7598
          refine At.enter rfl ?_
          refine r_iconst 0 rfl ?_
          refine q_iretz (by decide) ?_
          refine At.enter rfl ?_
          refine r_ift (by decide) ?_
          refine At.enter rfl ?_
          refine q_iinc e7466 (x7452.toInt + 1) rfl (by omega) (fun v7611 hv7611 => ?_)
          refine Ar.fall 59 rfl ?_
          refine At.enter rfl ?_
          refine q_iinc (w_p1 (by decide) (Or.inr rfl) e7467) (x7453.toInt + 6) rfl (by omega) (fun v7612 hv7612 => ?_)
          refine r_goto ?_
          exact ih7460 (405 - v7612.toInt) _ _ ⟨x7451, v7611, v7612, x7454, by first | rfl | omega, hI7591, hF7595, (((hF7592.1 1 4 mf_X10_whyNoLoad_0_1_4).trans ((hF7581.1 1 4 mf_X8_at_174_1_4).trans ((hF7569.1 1 4 mf_X8_at_174_1_4).trans ((hF7557.1 1 4 mf_X8_at_174_1_4).trans ((hF7545.1 1 4 mf_X8_at_174_1_4).trans ((hF7533.1 1 4 mf_X8_at_174_1_4).trans (hF7521.1 1 4 mf_X8_at_174_1_4))))))).trans e7461), (((hF7592.1 174 1 mf_X10_whyNoLoad_0_174_1).trans ((hF7581.1 174 1 mf_X8_at_174_174_1).trans ((hF7569.1 174 1 mf_X8_at_174_174_1).trans ((hF7557.1 174 1 mf_X8_at_174_174_1).trans ((hF7545.1 174 1 mf_X8_at_174_174_1).trans ((hF7533.1 174 1 mf_X8_at_174_174_1).trans (hF7521.1 174 1 mf_X8_at_174_174_1))))))).trans e7462), (w_p1 (by decide) (Or.inr rfl) (w_p1 (by decide) (Or.inr rfl) e7463)), (w_p1 (by decide) (Or.inr rfl) (w_p1 (by decide) (Or.inr rfl) e7464)), (w_p1 (by decide) (Or.inr rfl) (w_p1 (by decide) (Or.inr rfl) e7465)), (w_p1 (by decide) (Or.inr rfl) (w_e1 _ _ _)), (w_e1 _ _ _), by omega, by omega, by omega, by omega, by omega, by omega, by omega, (RLI.n (by omega) (by omega) q7475 (fun h => by have h2 : x7453.toInt + 6 ≤ (gI g0 174 1).toInt ∧ x7454.toInt < 8 ∧ (1 ≤ (eA g0 175 x7453.toInt).toInt ∧ (eA g0 175 x7453.toInt).toInt ≤ 9) ∧ (0 ≤ (eA g0 175 (x7453.toInt + 3)).toInt ∧ (eA g0 175 (x7453.toInt + 3)).toInt ≤ 99) ∧ (0 ≤ (eA g0 175 (x7453.toInt + 4)).toInt ∧ (eA g0 175 (x7453.toInt + 4)).toInt ≤ 9) ∧ (0 ≤ (eA g0 175 (x7453.toInt + 5)).toInt ∧ (eA g0 175 (x7453.toInt + 5)).toInt ≤ 9999) ∧ (0 ≤ (eA g0 175 (x7453.toInt + 1)).toInt ∧ (eA g0 175 (x7453.toInt + 1)).toInt < (gI g0 1 0).toInt) ∧ (0 ≤ (eA g0 175 (x7453.toInt + 2)).toInt ∧ (eA g0 175 (x7453.toInt + 2)).toInt < (gI g0 1 0).toInt) := h; have c := WNL.n hr7594.2 (by omega); omega) (by omega) (by omega)), by omega, by omega, (by intro i i0 i1; refine (eA_ti (((hF7592.2.1 5 ma_X10_whyNoLoad_0_5).trans ((hF7581.2.1 5 ma_X8_at_174_5).trans ((hF7569.2.1 5 ma_X8_at_174_5).trans ((hF7557.2.1 5 ma_X8_at_174_5).trans ((hF7545.2.1 5 ma_X8_at_174_5).trans ((hF7533.2.1 5 ma_X8_at_174_5).trans (hF7521.2.1 5 ma_X8_at_174_5))))))))).trans ?_; refine (q7478 i i0 i1).trans ?_; exact RFI.n (by omega) (by omega) q7475 (by omega) rfl (fun k => absurd k.1 (fun h => by have h2 : x7453.toInt + 6 ≤ (gI g0 174 1).toInt ∧ x7454.toInt < 8 ∧ (1 ≤ (eA g0 175 x7453.toInt).toInt ∧ (eA g0 175 x7453.toInt).toInt ≤ 9) ∧ (0 ≤ (eA g0 175 (x7453.toInt + 3)).toInt ∧ (eA g0 175 (x7453.toInt + 3)).toInt ≤ 99) ∧ (0 ≤ (eA g0 175 (x7453.toInt + 4)).toInt ∧ (eA g0 175 (x7453.toInt + 4)).toInt ≤ 9) ∧ (0 ≤ (eA g0 175 (x7453.toInt + 5)).toInt ∧ (eA g0 175 (x7453.toInt + 5)).toInt ≤ 9999) ∧ (0 ≤ (eA g0 175 (x7453.toInt + 1)).toInt ∧ (eA g0 175 (x7453.toInt + 1)).toInt < (gI g0 1 0).toInt) ∧ (0 ≤ (eA g0 175 (x7453.toInt + 2)).toInt ∧ (eA g0 175 (x7453.toInt + 2)).toInt < (gI g0 1 0).toInt) := h; have c := WNL.n hr7594.2 (by omega); omega)))⟩ ⟨by omega, by omega⟩
  · have c5061_ : v5060.toInt = 0 := en_k_ne_f c5061
    refine At.enter rfl ?_
    refine r_aload_n rfl ?_
    refine r_bipush (-6) rfl ?_
    refine r_callV 18 rfl [.ref 0, .int (-6)] [] (Nat.le_of_ble_eq_true rfl) rfl (T_X10_refused_0 _ hI0 (-6) (by decide)) ?_
    rintro _ _ ⟨g7613, rfl, hI7614, hF7615, v7616, rfl, hr7617⟩
    refine At.sti ?_
    have hF7618 := Fr.tr hF0 hF7615 rfl rfl
    have zv7619 : ((-6) : Int32).toInt = (-6) := rfl
    refine At.enter rfl ?_
    refine r_ireti ?_
    obtain ⟨v7620, hv7620⟩ : ∃ v, gI g0 1 4 = v := ⟨_, rfl⟩
    have rv7620 := RgF.at hI0.2.1 (p := 1) (b := 4) rfl
    rw [hv7620] at rv7620
    dsimp only at rv7620
    have tv7620 := congrArg Int32.toInt hv7620
    have x7621 := HI.eqI hI7614 (p := 1) (b := 4) (((hF7615.1 1 4 mf_X10_refused_0_1_4).trans hv7620))
    have x7623 := HI.eqI hI7614 (p := 174) (b := 1) (((hF7615.1 174 1 mf_X10_refused_0_174_1).trans hv5060))
    have x7624 := HI.eqI hI0 (p := 174) (b := 1) (hv5060)
    obtain ⟨v7625, hv7625⟩ : ∃ v, gI g0 0 16 = v := ⟨_, rfl⟩
    have tv7625 := congrArg Int32.toInt hv7625
    have x7626 := HI.eqI hI7614 (p := 0) (b := 16) (((hF7615.1 0 16 mf_X10_refused_0_0_16).trans hv7625))
    obtain ⟨v7628, hv7628⟩ : ∃ v, gI g0 1 0 = v := ⟨_, rfl⟩
    have rv7628 := RgF.at hI0.2.1 (p := 1) (b := 0) rfl
    rw [hv7628] at rv7628
    dsimp only at rv7628
    have tv7628 := congrArg Int32.toInt hv7628
    exact ⟨_, rfl, hI7614, hF7618, _, rfl, by omega, ⟨⟨⟨(by refine Eq.trans ?_ (RLI.z _ _ _ _ (by omega)); omega), by omega, by omega, by omega⟩, (by intro i i0 i1; refine (eA_ti ((hF7615.2.1 5 ma_X10_refused_0_5))).trans ?_; exact RFI.z _ _ _ _ (fun i : Int => (eA g0 5 i).toInt) (by omega) _)⟩, ⟨(fun t => (TOLDX_fr hF7615 rfl rfl rfl rfl t)), (fun t => (SETX_fr hF7615 rfl rfl rfl rfl rfl t))⟩⟩⟩
