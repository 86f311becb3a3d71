def F_X10_enter_0 : List (Nat × Nat) := []
def A_X10_enter_0 : List Nat := []
set_option maxRecDepth 100000 in
set_option maxHeartbeats 4000000 in
theorem T_X10_enter_0 (d : Nat) {N : Nat} {g0 : List en_E} (hI0 : HI g0) (a1 : Int32) (a2 : Int32) : Ev (d + 4) 119 [.ref 0, .int a1, .int a2] (g0, N) (fun w h' => ∃ g', h' = (g', N) ∧ HI g' ∧ Fr F_X10_enter_0 A_X10_enter_0 g0 g' ∧ ∃ r : Int32, w = some (.int r) ∧ True ∧ ((¬ ((0 ≤ a1.toInt ∧ a1.toInt < (gI g0 1 0).toInt) ∧ BIT a2 (gI g0 1 0).toInt) → r.toInt = -1) ∧ (((0 ≤ a1.toInt ∧ a1.toInt < (gI g0 1 0).toInt) ∧ BIT a2 (gI g0 1 0).toInt) → r.toInt = (ACI (RCI (NX g0) (hbI a2) a1.toInt 12) (gI g0 1 0).toInt).toInt))) := by
  have hF0 : Fr F_X10_enter_0 A_X10_enter_0 g0 g0 := Fr.rf
  refine Ev.mk rfl rfl ⟨Nat.le_of_ble_eq_true rfl, Or.inr (q_rc hI0.1 kx_0 rfl)⟩ ?_
  show At _ none _ _ (0, [(0, .ref 0), (1, .int a1), (2, .int a2)], [], (_, _)) _
  refine At.enter rfl ?_
  refine r_aload_n rfl ?_
  refine q_getR (Sh.ref hI0.1 kx_0 rfl) ?_
  refine r_iload_n rfl ?_
  refine q_inlV 8 rfl [.ref 1, .int a1] [] (Nat.le_of_ble_eq_true rfl) rfl ?_
  refine Ev.mk rfl rfl ⟨Nat.le_of_ble_eq_true rfl, Or.inr (q_rc hI0.1 kx_1 rfl)⟩ ?_
  show At _ none _ _ (0, [(0, .ref 1), (1, .int a1)], [], (_, _)) _
  refine At.enter rfl ?_
  refine r_iload_n rfl ?_
  refine r_ifs 4 rfl (fun c29 => ?_) (fun c29 => ?_)
  · have c29_ : a1.toInt < 0 := en_k_lt_t c29
    refine At.enter rfl ?_
    refine r_iconst 0 rfl ?_
    refine Ar.fall 17 rfl ?_
    refine At.enter rfl ?_
    refine q_iretz (by decide) ?_
    refine At.enter rfl ?_
    refine r_ift (by decide) ?_
    refine At.enter rfl ?_
    refine r_iconst (-1) rfl ?_
    refine Ar.fall 38 rfl ?_
    refine At.enter rfl ?_
    refine r_ireti ?_
    have zv30 : ((-1) : Int32).toInt = (-1) := rfl
    obtain ⟨v31, hv31⟩ : ∃ v, gI g0 1 0 = v := ⟨_, rfl⟩
    have rv31 := RgF.at hI0.2.1 (p := 1) (b := 0) rfl
    rw [hv31] at rv31
    dsimp only at rv31
    have tv31 := congrArg Int32.toInt hv31
    exact ⟨_, rfl, hI0, hF0, _, rfl, trivial, ⟨fun _ => by omega, fun h => by first | exact absurd h.1 (by omega) | exact absurd h.2.1 (by omega)⟩⟩
  · have c29_ : a1.toInt ≥ 0 := en_k_lt_f c29
    refine At.enter rfl ?_
    refine r_iload_n rfl ?_
    refine r_aload_n rfl ?_
    obtain ⟨v33, hv33⟩ : ∃ v, gI g0 1 0 = v := ⟨_, rfl⟩
    have rv33 := RgF.at hI0.2.1 (p := 1) (b := 0) rfl
    rw [hv33] at rv33
    dsimp only at rv33
    refine q_getI (Sh.int hI0.1 kx_1 rfl) v33 hv33 ?_
    have bv35 := q_bnd a1
    have bv36 := q_bnd v33
    refine r_ics 12 rfl (fun c34 => ?_) (fun c34 => ?_)
    · have c34_ : a1.toInt ≥ v33.toInt := en_i_ge_t c34
      refine At.enter rfl ?_
      refine r_iconst 0 rfl ?_
      refine Ar.fall 17 rfl ?_
      refine At.enter rfl ?_
      refine q_iretz (by decide) ?_
      refine At.enter rfl ?_
      refine r_ift (by decide) ?_
      refine At.enter rfl ?_
      refine r_iconst (-1) rfl ?_
      refine Ar.fall 38 rfl ?_
      refine At.enter rfl ?_
      refine r_ireti ?_
      have zv37 : ((-1) : Int32).toInt = (-1) := rfl
      have x38 := HI.eqI hI0 (p := 1) (b := 0) (hv33)
      exact ⟨_, rfl, hI0, hF0, _, rfl, trivial, ⟨fun _ => by omega, fun h => by first | exact absurd h.1 (by omega) | exact absurd h.2.1 (by omega)⟩⟩
    · have c34_ : a1.toInt < v33.toInt := en_i_ge_f c34
      refine At.enter rfl ?_
      refine r_iconst 1 rfl ?_
      refine r_goto ?_
      refine At.enter rfl ?_
      refine q_iretz (by decide) ?_
      refine At.enter rfl ?_
      refine r_iff 11 rfl (by decide) ?_
      refine At.enter rfl ?_
      refine r_iload_n rfl ?_
      refine r_aload_n rfl ?_
      refine q_getR (Sh.ref hI0.1 kx_0 rfl) ?_
      refine q_getI (Sh.int hI0.1 kx_1 rfl) v33 hv33 ?_
      refine q_inlS 22 rfl [.int a2, .int v33] [] (Nat.le_of_ble_eq_true rfl) rfl ?_
      refine Ev.mk rfl rfl ⟨Nat.le_of_ble_eq_true rfl, Or.inl rfl⟩ ?_
      show At _ none _ _ (0, [(0, .int a2), (1, .int v33)], [], (_, _)) _
      refine At.enter rfl ?_
      refine r_iload_n rfl ?_
      refine r_ifs 4 rfl (fun c39 => ?_) (fun c39 => ?_)
      · have c39_ : a2.toInt < 0 := en_k_lt_t c39
        refine At.enter rfl ?_
        refine r_iconst 0 rfl ?_
        refine Ar.fall 15 rfl ?_
        refine At.enter rfl ?_
        refine q_iretz (by decide) ?_
        refine At.enter rfl ?_
        refine r_ift (by decide) ?_
        refine At.enter rfl ?_
        refine r_iconst (-1) rfl ?_
        refine Ar.fall 38 rfl ?_
        refine At.enter rfl ?_
        refine r_ireti ?_
        have zv40 : ((-1) : Int32).toInt = (-1) := rfl
        have x41 := HI.eqI hI0 (p := 1) (b := 0) (hv33)
        exact ⟨_, rfl, hI0, hF0, _, rfl, trivial, ⟨fun _ => by omega, fun h => by first | exact absurd h.1 (by omega) | exact absurd h.2.1 (by omega)⟩⟩
      · have c39_ : a2.toInt ≥ 0 := en_k_lt_f c39
        refine At.enter rfl ?_
        refine r_iload_n rfl ?_
        refine r_iload_n rfl ?_
        refine q_ishrO (fun v42 hv42 => ?_)
        refine r_ifs 10 rfl (fun c43 => ?_) (fun c43 => ?_)
        · have c43_ : v42.toInt ≠ 0 := en_k_ne_t c43
          refine At.enter rfl ?_
          refine r_iconst 0 rfl ?_
          refine Ar.fall 15 rfl ?_
          refine At.enter rfl ?_
          refine q_iretz (by decide) ?_
          refine At.enter rfl ?_
          refine r_ift (by decide) ?_
          refine At.enter rfl ?_
          refine r_iconst (-1) rfl ?_
          refine Ar.fall 38 rfl ?_
          refine At.enter rfl ?_
          refine r_ireti ?_
          have zv44 : ((-1) : Int32).toInt = (-1) := rfl
          have x45 := HI.eqI hI0 (p := 1) (b := 0) (hv33)
          exact ⟨_, rfl, hI0, hF0, _, rfl, trivial, ⟨fun _ => by omega, fun h => by first | exact absurd h.1 (by omega) | exact absurd h.2.1 (by omega) | exact absurd ((show v42.toInt = 0 ↔ BIT a2 (gI g0 1 0).toInt from by rw [hv33]; exact BIT.x hv42 (by omega) (by omega)).mpr h.2) (by omega)⟩⟩
        · have c43_ : v42.toInt = 0 := en_k_ne_f c43
          refine At.enter rfl ?_
          refine r_iconst 1 rfl ?_
          refine r_goto ?_
          refine At.enter rfl ?_
          refine q_iretz (by decide) ?_
          refine At.enter rfl ?_
          refine r_iff 25 rfl (by decide) ?_
          refine At.enter rfl ?_
          refine r_aload_n rfl ?_
          refine q_getR (Sh.ref hI0.1 kx_0 rfl) ?_
          refine r_iload_n rfl ?_
          refine r_iload_n rfl ?_
          refine r_callV 34 rfl [.ref 184, .int a1, .int a2] [] (Nat.le_of_ble_eq_true rfl) rfl (T_X9_comersTo_184 _ hI0 a1 (by omega) a2) ?_
          rintro _ _ ⟨g46, rfl, hI47, hF48, v49, rfl, hr50⟩
          refine At.sti ?_
          have hF51 := Fr.tr hF0 hF48 rfl rfl
          refine At.enter rfl ?_
          refine r_goto ?_
          refine At.enter rfl ?_
          refine r_ireti ?_
          have x52 := HI.eqI hI0 (p := 1) (b := 0) (hv33)
          exact ⟨_, rfl, hI47, hF51, _, rfl, trivial, ⟨fun h => absurd ⟨⟨by omega, by omega⟩, (show v42.toInt = 0 ↔ BIT a2 (gI g0 1 0).toInt from by rw [hv33]; exact BIT.x hv42 (by omega) (by omega)).mp (by omega)⟩ h, fun _ => hr50.2⟩⟩

def F_X10_day_0 : List (Nat × Nat) := [(0, 14), (185, 3), (188, 16), (188, 18)]
def A_X10_day_0 : List Nat := [189, 190, 191, 192, 193, 194, 195, 196, 197, 198, 199, 200, 202, 203]
theorem mf_X1_runWhole_188_1_10 : memF F_X1_runWhole_188 1 10 = false := by decide
theorem mf_X1_layOut_188_1_10 : memF F_X1_layOut_188 1 10 = false := by decide
set_option maxRecDepth 100000 in
set_option maxHeartbeats 4000000 in
theorem T_X10_day_0 (d : Nat) {N : Nat} {g0 : List en_E} (hI0 : HI g0) (a1 : Int32) (a2 : Int32) : Ev (d + 7) 120 [.ref 0, .int a1, .int a2] (g0, N) (fun w h' => ∃ g', h' = (g', N) ∧ HI g' ∧ Fr F_X10_day_0 A_X10_day_0 g0 g' ∧ ∃ r : Int32, w = some (.int r) ∧ True) := by
  have hF0 : Fr F_X10_day_0 A_X10_day_0 g0 g0 := Fr.rf
  refine Ev.mk rfl rfl ⟨Nat.le_of_ble_eq_true rfl, Or.inr (q_rc hI0.1 kx_0 rfl)⟩ ?_
  show At _ none _ _ (0, [(0, .ref 0), (1, .int a1), (2, .int a2)], [], (_, _)) _
  refine At.enter rfl ?_
  refine r_aload_n rfl ?_
  refine q_getR (Sh.ref hI0.1 kx_0 rfl) ?_
  refine r_iload_n rfl ?_
  refine q_inlV 8 rfl [.ref 1, .int a1] [] (Nat.le_of_ble_eq_true rfl) rfl ?_
  refine Ev.mk rfl rfl ⟨Nat.le_of_ble_eq_true rfl, Or.inr (q_rc hI0.1 kx_1 rfl)⟩ ?_
  show At _ none _ _ (0, [(0, .ref 1), (1, .int a1)], [], (_, _)) _
  refine At.enter rfl ?_
  refine r_iload_n rfl ?_
  refine r_ifs 4 rfl (fun c83 => ?_) (fun c83 => ?_)
  · have c83_ : a1.toInt < 0 := en_k_lt_t c83
    refine At.enter rfl ?_
    refine r_iconst 0 rfl ?_
    refine Ar.fall 17 rfl ?_
    refine At.enter rfl ?_
    refine q_iretz (by decide) ?_
    refine At.enter rfl ?_
    refine r_iff 11 rfl (by decide) ?_
    refine At.enter rfl ?_
    refine r_iconst (-1) rfl ?_
    refine r_ireti ?_
    exact ⟨_, rfl, hI0, hF0, _, rfl, trivial⟩
  · have c83_ : a1.toInt ≥ 0 := en_k_lt_f c83
    refine At.enter rfl ?_
    refine r_iload_n rfl ?_
    refine r_aload_n rfl ?_
    obtain ⟨v84, hv84⟩ : ∃ v, gI g0 1 4 = v := ⟨_, rfl⟩
    have rv84 := RgF.at hI0.2.1 (p := 1) (b := 4) rfl
    rw [hv84] at rv84
    dsimp only at rv84
    refine q_getI (Sh.int hI0.1 kx_1 rfl) v84 hv84 ?_
    have bv86 := q_bnd a1
    have bv87 := q_bnd v84
    refine r_ics 12 rfl (fun c85 => ?_) (fun c85 => ?_)
    · have c85_ : a1.toInt ≥ v84.toInt := en_i_ge_t c85
      refine At.enter rfl ?_
      refine r_iconst 0 rfl ?_
      refine Ar.fall 17 rfl ?_
      refine At.enter rfl ?_
      refine q_iretz (by decide) ?_
      refine At.enter rfl ?_
      refine r_iff 11 rfl (by decide) ?_
      refine At.enter rfl ?_
      refine r_iconst (-1) rfl ?_
      refine r_ireti ?_
      exact ⟨_, rfl, hI0, hF0, _, rfl, trivial⟩
    · have c85_ : a1.toInt < v84.toInt := en_i_ge_f c85
      refine At.enter rfl ?_
      refine r_iconst 1 rfl ?_
      refine r_goto ?_
      refine At.enter rfl ?_
      refine q_iretz (by decide) ?_
      refine At.enter rfl ?_
      refine r_ift (by decide) ?_
      refine At.enter rfl ?_
      refine r_aload_n rfl ?_
      refine q_inlV 17 rfl [.ref 0] [] (Nat.le_of_ble_eq_true rfl) rfl ?_
      refine Ev.mk rfl rfl ⟨Nat.le_of_ble_eq_true rfl, Or.inr (q_rc hI0.1 kx_0 rfl)⟩ ?_
      show At _ none _ _ (0, [(0, .ref 0)], [], (_, _)) _
      refine At.enter rfl ?_
      refine r_aload_n rfl ?_
      obtain ⟨v88, hv88⟩ : ∃ v, gI g0 0 14 = v := ⟨_, rfl⟩
      refine q_getI (Sh.int hI0.1 kx_0 rfl) v88 hv88 ?_
      refine r_ifs 7 rfl (fun c89 => ?_) (fun c89 => ?_)
      · have c89_ : v88.toInt ≠ 0 := en_k_ne_t c89
        refine At.enter rfl ?_
        refine r_aload_n rfl ?_
        refine q_getR (Sh.ref hI0.1 kx_0 rfl) ?_
        refine q_aret ?_
        refine At.enter rfl ?_
        refine r_astore_n ([(3, .ref 188), (0, .ref 0), (1, .int a1), (2, .int a2)]) rfl ?_
        refine r_aload_n rfl ?_
        refine q_getR (Sh.ref hI0.1 kx_188 rfl) ?_
        refine r_iload_n rfl ?_
        obtain ⟨v90, hv90⟩ : ∃ v, eA g0 196 a1.toInt = v := ⟨_, rfl⟩
        refine q_iald (Sh.arr hI0.1 ka_196) a1.toInt rfl (by omega) v90 hv90 ?_
        refine r_istore ([(4, .int v90), (3, .ref 188), (0, .ref 0), (1, .int a1), (2, .int a2)]) rfl ?_
        refine r_iload_n rfl ?_
        by_cases c91_0 : a2.toInt = 0
        · refine r_tsw 56 (by rw [c91_0]; rfl) ?_
          refine At.enter rfl ?_
          refine r_iload rfl ?_
          refine r_ireti ?_
          exact ⟨_, rfl, hI0, hF0, _, rfl, trivial⟩
        by_cases c91_1 : a2.toInt = 1
        · refine r_tsw 59 (by rw [c91_1]; rfl) ?_
          refine At.enter rfl ?_
          refine r_iload rfl ?_
          refine r_iconst (-1) rfl ?_
          refine r_ics 65 rfl (fun c92 => ?_) (fun c92 => ?_)
          · have c92_ : v90.toInt ≠ (-1) := en_i_ne_t c92
            refine At.enter rfl ?_
            refine r_iconst 0 rfl ?_
            refine r_iload rfl ?_
            refine r_aload_n rfl ?_
            refine q_getR (Sh.ref hI0.1 kx_0 rfl) ?_
            obtain ⟨v93, hv93⟩ : ∃ v, gI g0 1 10 = v := ⟨_, rfl⟩
            refine q_getI (Sh.int hI0.1 kx_1 rfl) v93 hv93 ?_
            refine q_isubO (fun v94 _ => ?_)
            refine q_mmax rfl (Nat.le_of_ble_eq_true rfl) (fun v95 hv95 => ?_)
            have zv96 : (0 : Int32).toInt = 0 := rfl
            refine Ar.fall 83 rfl ?_
            refine At.enter rfl ?_
            refine r_ireti ?_
            exact ⟨_, rfl, hI0, hF0, _, rfl, trivial⟩
          · have c92_ : v90.toInt = (-1) := en_i_ne_f c92
            refine At.enter rfl ?_
            refine r_iconst (-1) rfl ?_
            refine r_goto ?_
            refine At.enter rfl ?_
            refine r_ireti ?_
            exact ⟨_, rfl, hI0, hF0, _, rfl, trivial⟩
        by_cases c91_2 : a2.toInt = 2
        · refine r_tsw 84 (by rw [c91_2]; rfl) ?_
          refine At.enter rfl ?_
          refine r_aload_n rfl ?_
          refine q_getR (Sh.ref hI0.1 kx_188 rfl) ?_
          refine r_iload_n rfl ?_
          obtain ⟨v97, hv97⟩ : ∃ v, eA g0 195 a1.toInt = v := ⟨_, rfl⟩
          refine q_iald (Sh.arr hI0.1 ka_195) a1.toInt rfl (by omega) v97 hv97 ?_
          refine r_ireti ?_
          exact ⟨_, rfl, hI0, hF0, _, rfl, trivial⟩
        by_cases c91_3 : a2.toInt = 3
        · refine r_tsw 91 (by rw [c91_3]; rfl) ?_
          refine At.enter rfl ?_
          refine r_aload_n rfl ?_
          refine q_getR (Sh.ref hI0.1 kx_188 rfl) ?_
          refine r_iload_n rfl ?_
          obtain ⟨v98, hv98⟩ : ∃ v, eA g0 197 a1.toInt = v := ⟨_, rfl⟩
          refine q_iald (Sh.arr hI0.1 ka_197) a1.toInt rfl (by omega) v98 hv98 ?_
          refine r_ireti ?_
          exact ⟨_, rfl, hI0, hF0, _, rfl, trivial⟩
        have c99 : a2.toInt < 0 ∨ 3 < a2.toInt := by omega
        refine r_tsw 98 (by unfold en_sw; rw [if_pos c99]; rfl) ?_
        refine At.enter rfl ?_
        refine r_iconst (-1) rfl ?_
        refine r_ireti ?_
        exact ⟨_, rfl, hI0, hF0, _, rfl, trivial⟩
      · have c89_ : v88.toInt = 0 := en_k_ne_f c89
        refine At.enter rfl ?_
        refine r_aload_n rfl ?_
        refine q_getR (Sh.ref hI0.1 kx_0 rfl) ?_
        refine r_iconst 0 rfl ?_
        refine r_callV 15 rfl [.ref 188, .int 0] [] (Nat.le_of_ble_eq_true rfl) rfl (T_X1_layOut_188 _ hI0 0) ?_
        rintro _ _ ⟨g100, rfl, hI101, hF102, rfl⟩
        refine At.stn ?_
        have hF105 := Fr.tr hF0 hF102 rfl rfl
        refine At.enter rfl ?_
        refine r_aload_n rfl ?_
        refine q_getR (Sh.ref hI101.1 kx_0 rfl) ?_
        refine r_callV 22 rfl [.ref 188] [] (Nat.le_of_ble_eq_true rfl) rfl (T_X1_runWhole_188 _ hI101) ?_
        rintro _ _ ⟨g106, rfl, hI107, hF108, rfl⟩
        refine At.stn ?_
        have hF111 := Fr.tr hF105 hF108 rfl rfl
        refine At.enter rfl ?_
        refine r_aload_n rfl ?_
        refine r_iconst 1 rfl ?_
        refine q_putI (Sh.int hI107.1 kx_0 rfl) rfl ?_
        have hI112 := HI.wI0 hI107 kx_0 rfl (p := 0) (b := 14) (v := 1) rfl
        have hF113 := Fr.wI (p := 0) (b := 14) (v := 1) hF111 rfl
        refine Ar.fall 27 rfl ?_
        refine At.enter rfl ?_
        refine r_aload_n rfl ?_
        refine q_getR (Sh.ref hI112.1 kx_0 rfl) ?_
        refine q_aret ?_
        refine At.enter rfl ?_
        refine r_astore_n ([(3, .ref 188), (0, .ref 0), (1, .int a1), (2, .int a2)]) rfl ?_
        refine r_aload_n rfl ?_
        refine q_getR (Sh.ref hI112.1 kx_188 rfl) ?_
        refine r_iload_n rfl ?_
        obtain ⟨v114, hv114⟩ : ∃ v, eA g106 196 a1.toInt = v := ⟨_, rfl⟩
        refine q_iald (Sh.arr hI112.1 ka_196) a1.toInt rfl (by omega) v114 ((eA_c (gA_sI)).trans hv114) ?_
        refine r_istore ([(4, .int v114), (3, .ref 188), (0, .ref 0), (1, .int a1), (2, .int a2)]) rfl ?_
        refine r_iload_n rfl ?_
        by_cases c115_0 : a2.toInt = 0
        · refine r_tsw 56 (by rw [c115_0]; rfl) ?_
          refine At.enter rfl ?_
          refine r_iload rfl ?_
          refine r_ireti ?_
          exact ⟨_, rfl, hI112, hF113, _, rfl, trivial⟩
        by_cases c115_1 : a2.toInt = 1
        · refine r_tsw 59 (by rw [c115_1]; rfl) ?_
          refine At.enter rfl ?_
          refine r_iload rfl ?_
          refine r_iconst (-1) rfl ?_
          refine r_ics 65 rfl (fun c116 => ?_) (fun c116 => ?_)
          · have c116_ : v114.toInt ≠ (-1) := en_i_ne_t c116
            refine At.enter rfl ?_
            refine r_iconst 0 rfl ?_
            refine r_iload rfl ?_
            refine r_aload_n rfl ?_
            refine q_getR (Sh.ref hI112.1 kx_0 rfl) ?_
            obtain ⟨v117, hv117⟩ : ∃ v, gI g0 1 10 = v := ⟨_, rfl⟩
            refine q_getI (Sh.int hI112.1 kx_1 rfl) v117 (((gI_sI_ne (by decide)).trans ((hF108.1 1 10 mf_X1_runWhole_188_1_10).trans (hF102.1 1 10 mf_X1_layOut_188_1_10))).trans hv117) ?_
            refine q_isubO (fun v118 _ => ?_)
            refine q_mmax rfl (Nat.le_of_ble_eq_true rfl) (fun v119 hv119 => ?_)
            have zv120 : (0 : Int32).toInt = 0 := rfl
            refine Ar.fall 83 rfl ?_
            refine At.enter rfl ?_
            refine r_ireti ?_
            exact ⟨_, rfl, hI112, hF113, _, rfl, trivial⟩
          · have c116_ : v114.toInt = (-1) := en_i_ne_f c116
            refine At.enter rfl ?_
            refine r_iconst (-1) rfl ?_
            refine r_goto ?_
            refine At.enter rfl ?_
            refine r_ireti ?_
            exact ⟨_, rfl, hI112, hF113, _, rfl, trivial⟩
        by_cases c115_2 : a2.toInt = 2
        · refine r_tsw 84 (by rw [c115_2]; rfl) ?_
          refine At.enter rfl ?_
          refine r_aload_n rfl ?_
          refine q_getR (Sh.ref hI112.1 kx_188 rfl) ?_
          refine r_iload_n rfl ?_
          obtain ⟨v121, hv121⟩ : ∃ v, eA g106 195 a1.toInt = v := ⟨_, rfl⟩
          refine q_iald (Sh.arr hI112.1 ka_195) a1.toInt rfl (by omega) v121 ((eA_c (gA_sI)).trans hv121) ?_
          refine r_ireti ?_
          exact ⟨_, rfl, hI112, hF113, _, rfl, trivial⟩
        by_cases c115_3 : a2.toInt = 3
        · refine r_tsw 91 (by rw [c115_3]; rfl) ?_
          refine At.enter rfl ?_
          refine r_aload_n rfl ?_
          refine q_getR (Sh.ref hI112.1 kx_188 rfl) ?_
          refine r_iload_n rfl ?_
          obtain ⟨v122, hv122⟩ : ∃ v, eA g106 197 a1.toInt = v := ⟨_, rfl⟩
          refine q_iald (Sh.arr hI112.1 ka_197) a1.toInt rfl (by omega) v122 ((eA_c (gA_sI)).trans hv122) ?_
          refine r_ireti ?_
          exact ⟨_, rfl, hI112, hF113, _, rfl, trivial⟩
        have c123 : a2.toInt < 0 ∨ 3 < a2.toInt := by omega
        refine r_tsw 98 (by unfold en_sw; rw [if_pos c123]; rfl) ?_
        refine At.enter rfl ?_
        refine r_iconst (-1) rfl ?_
        refine r_ireti ?_
        exact ⟨_, rfl, hI112, hF113, _, rfl, trivial⟩
