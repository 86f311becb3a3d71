def F_X10_where_0 : List (Nat × Nat) := [(0, 14), (185, 3), (188, 16), (188, 18)]
def A_X10_where_0 : List Nat := [189, 190, 191, 192, 193, 194, 195, 196, 197, 198, 199, 200, 202, 203]
set_option maxRecDepth 100000 in
set_option maxHeartbeats 4000000 in
theorem T_X10_where_0 (d : Nat) {N : Nat} {g0 : List en_E} (hI0 : HI g0) (a1 : Int32) (a2 : Int32) : Ev (d + 7) 121 [.ref 0, .int a1, .int a2] (g0, N) (fun w h' => ∃ g', h' = (g', N) ∧ HI g' ∧ Fr F_X10_where_0 A_X10_where_0 g0 g' ∧ ∃ r : Int32, w = some (.int r) ∧ True) := by
  have hF0 : Fr F_X10_where_0 A_X10_where_0 g0 g0 := Fr.rf
  refine Ev.mk rfl rfl ⟨Nat.le_of_ble_eq_true rfl, Or.inr (q_rc hI0.1 kx_0 rfl)⟩ ?_
  show At _ none _ _ (0, [(0, .ref 0), (1, .int a1), (2, .int a2)], [], (_, _)) _
  refine At.enter rfl ?_
  refine r_aload_n rfl ?_
  refine q_getR (Sh.ref hI0.1 kx_0 rfl) ?_
  refine r_iload_n rfl ?_
  refine q_inlV 8 rfl [.ref 1, .int a1] [] (Nat.le_of_ble_eq_true rfl) rfl ?_
  refine Ev.mk rfl rfl ⟨Nat.le_of_ble_eq_true rfl, Or.inr (q_rc hI0.1 kx_1 rfl)⟩ ?_
  show At _ none _ _ (0, [(0, .ref 1), (1, .int a1)], [], (_, _)) _
  refine At.enter rfl ?_
  refine r_iload_n rfl ?_
  refine r_ifs 4 rfl (fun c59 => ?_) (fun c59 => ?_)
  · have c59_ : a1.toInt < 0 := en_k_lt_t c59
    refine At.enter rfl ?_
    refine r_iconst 0 rfl ?_
    refine Ar.fall 17 rfl ?_
    refine At.enter rfl ?_
    refine q_iretz (by decide) ?_
    refine At.enter rfl ?_
    refine r_ift (by decide) ?_
    refine At.enter rfl ?_
    refine r_iconst (-1) rfl ?_
    refine Ar.fall 34 rfl ?_
    refine At.enter rfl ?_
    refine r_ireti ?_
    exact ⟨_, rfl, hI0, hF0, _, rfl, trivial⟩
  · have c59_ : a1.toInt ≥ 0 := en_k_lt_f c59
    refine At.enter rfl ?_
    refine r_iload_n rfl ?_
    refine r_aload_n rfl ?_
    obtain ⟨v60, hv60⟩ : ∃ v, gI g0 1 4 = v := ⟨_, rfl⟩
    have rv60 := RgF.at hI0.2.1 (p := 1) (b := 4) rfl
    rw [hv60] at rv60
    dsimp only at rv60
    refine q_getI (Sh.int hI0.1 kx_1 rfl) v60 hv60 ?_
    have bv62 := q_bnd a1
    have bv63 := q_bnd v60
    refine r_ics 12 rfl (fun c61 => ?_) (fun c61 => ?_)
    · have c61_ : a1.toInt ≥ v60.toInt := en_i_ge_t c61
      refine At.enter rfl ?_
      refine r_iconst 0 rfl ?_
      refine Ar.fall 17 rfl ?_
      refine At.enter rfl ?_
      refine q_iretz (by decide) ?_
      refine At.enter rfl ?_
      refine r_ift (by decide) ?_
      refine At.enter rfl ?_
      refine r_iconst (-1) rfl ?_
      refine Ar.fall 34 rfl ?_
      refine At.enter rfl ?_
      refine r_ireti ?_
      exact ⟨_, rfl, hI0, hF0, _, rfl, trivial⟩
    · have c61_ : a1.toInt < v60.toInt := en_i_ge_f c61
      refine At.enter rfl ?_
      refine r_iconst 1 rfl ?_
      refine r_goto ?_
      refine At.enter rfl ?_
      refine q_iretz (by decide) ?_
      refine At.enter rfl ?_
      refine r_iff 11 rfl (by decide) ?_
      refine At.enter rfl ?_
      refine r_iload_n rfl ?_
      refine r_iconst 0 rfl ?_
      refine r_bipush 99 rfl ?_
      refine q_inlS 18 rfl [.int a2, .int 0, .int 99] [] (Nat.le_of_ble_eq_true rfl) rfl ?_
      refine Ev.mk rfl rfl ⟨Nat.le_of_ble_eq_true rfl, Or.inl rfl⟩ ?_
      show At _ none _ _ (0, [(0, .int a2), (1, .int 0), (2, .int 99)], [], (_, _)) _
      refine At.enter rfl ?_
      refine r_iload_n rfl ?_
      refine r_iload_n rfl ?_
      refine r_ics 5 rfl (fun c64 => ?_) (fun c64 => ?_)
      · have c64_ : a2.toInt < 0 := en_i_lt_t c64
        refine At.enter rfl ?_
        refine r_iconst 0 rfl ?_
        refine Ar.fall 15 rfl ?_
        refine At.enter rfl ?_
        refine q_iretz (by decide) ?_
        refine At.enter rfl ?_
        refine r_ift (by decide) ?_
        refine At.enter rfl ?_
        refine r_iconst (-1) rfl ?_
        refine Ar.fall 34 rfl ?_
        refine At.enter rfl ?_
        refine r_ireti ?_
        exact ⟨_, rfl, hI0, hF0, _, rfl, trivial⟩
      · have c64_ : a2.toInt ≥ 0 := en_i_lt_f c64
        refine At.enter rfl ?_
        refine r_iload_n rfl ?_
        refine r_iload_n rfl ?_
        refine r_ics 10 rfl (fun c65 => ?_) (fun c65 => ?_)
        · have c65_ : a2.toInt > 99 := en_i_gt_t c65
          refine At.enter rfl ?_
          refine r_iconst 0 rfl ?_
          refine Ar.fall 15 rfl ?_
          refine At.enter rfl ?_
          refine q_iretz (by decide) ?_
          refine At.enter rfl ?_
          refine r_ift (by decide) ?_
          refine At.enter rfl ?_
          refine r_iconst (-1) rfl ?_
          refine Ar.fall 34 rfl ?_
          refine At.enter rfl ?_
          refine r_ireti ?_
          exact ⟨_, rfl, hI0, hF0, _, rfl, trivial⟩
        · have c65_ : a2.toInt ≤ 99 := en_i_gt_f c65
          refine At.enter rfl ?_
          refine r_iconst 1 rfl ?_
          refine r_goto ?_
          refine At.enter rfl ?_
          refine q_iretz (by decide) ?_
          refine At.enter rfl ?_
          refine r_iff 21 rfl (by decide) ?_
          refine At.enter rfl ?_
          refine r_aload_n rfl ?_
          refine q_inlV 25 rfl [.ref 0] [] (Nat.le_of_ble_eq_true rfl) rfl ?_
          refine Ev.mk rfl rfl ⟨Nat.le_of_ble_eq_true rfl, Or.inr (q_rc hI0.1 kx_0 rfl)⟩ ?_
          show At _ none _ _ (0, [(0, .ref 0)], [], (_, _)) _
          refine At.enter rfl ?_
          refine r_aload_n rfl ?_
          obtain ⟨v66, hv66⟩ : ∃ v, gI g0 0 14 = v := ⟨_, rfl⟩
          refine q_getI (Sh.int hI0.1 kx_0 rfl) v66 hv66 ?_
          refine r_ifs 7 rfl (fun c67 => ?_) (fun c67 => ?_)
          · have c67_ : v66.toInt ≠ 0 := en_k_ne_t c67
            refine At.enter rfl ?_
            refine r_aload_n rfl ?_
            refine q_getR (Sh.ref hI0.1 kx_0 rfl) ?_
            refine q_aret ?_
            refine At.enter rfl ?_
            refine r_iload_n rfl ?_
            refine r_iload_n rfl ?_
            refine q_inlV 30 rfl [.ref 188, .int a1, .int a2] [] (Nat.le_of_ble_eq_true rfl) rfl ?_
            refine Ev.mk rfl rfl ⟨Nat.le_of_ble_eq_true rfl, Or.inr (q_rc hI0.1 kx_188 rfl)⟩ ?_
            show At _ none _ _ (0, [(0, .ref 188), (1, .int a1), (2, .int a2)], [], (_, _)) _
            refine At.enter rfl ?_
            refine r_aload_n rfl ?_
            refine q_getR (Sh.ref hI0.1 kx_188 rfl) ?_
            refine r_iload_n rfl ?_
            refine r_bipush 8 rfl ?_
            refine q_imul (a2.toInt * 8) rfl (by omega) (fun v68 hv68 => ?_)
            refine r_iload_n rfl ?_
            refine q_iadd (v68.toInt + a1.toInt) rfl (by omega) (fun v69 hv69 => ?_)
            obtain ⟨v70, hv70⟩ : ∃ v, eA g0 203 (8 * a2.toInt + a1.toInt) = v := ⟨_, rfl⟩
            refine q_iald (Sh.arr hI0.1 ka_203) (8 * a2.toInt + a1.toInt) (by omega) (by omega) v70 hv70 ?_
            refine q_ireti ?_
            refine At.enter rfl ?_
            refine r_goto ?_
            refine At.enter rfl ?_
            refine r_ireti ?_
            exact ⟨_, rfl, hI0, hF0, _, rfl, trivial⟩
          · have c67_ : v66.toInt = 0 := en_k_ne_f c67
            refine At.enter rfl ?_
            refine r_aload_n rfl ?_
            refine q_getR (Sh.ref hI0.1 kx_0 rfl) ?_
            refine r_iconst 0 rfl ?_
            refine r_callV 15 rfl [.ref 188, .int 0] [] (Nat.le_of_ble_eq_true rfl) rfl (T_X1_layOut_188 _ hI0 0) ?_
            rintro _ _ ⟨g71, rfl, hI72, hF73, rfl⟩
            refine At.stn ?_
            have hF76 := Fr.tr hF0 hF73 rfl rfl
            refine At.enter rfl ?_
            refine r_aload_n rfl ?_
            refine q_getR (Sh.ref hI72.1 kx_0 rfl) ?_
            refine r_callV 22 rfl [.ref 188] [] (Nat.le_of_ble_eq_true rfl) rfl (T_X1_runWhole_188 _ hI72) ?_
            rintro _ _ ⟨g77, rfl, hI78, hF79, rfl⟩
            refine At.stn ?_
            have hF82 := Fr.tr hF76 hF79 rfl rfl
            refine At.enter rfl ?_
            refine r_aload_n rfl ?_
            refine r_iconst 1 rfl ?_
            refine q_putI (Sh.int hI78.1 kx_0 rfl) rfl ?_
            have hI83 := HI.wI0 hI78 kx_0 rfl (p := 0) (b := 14) (v := 1) rfl
            have hF84 := Fr.wI (p := 0) (b := 14) (v := 1) hF82 rfl
            refine Ar.fall 27 rfl ?_
            refine At.enter rfl ?_
            refine r_aload_n rfl ?_
            refine q_getR (Sh.ref hI83.1 kx_0 rfl) ?_
            refine q_aret ?_
            refine At.enter rfl ?_
            refine r_iload_n rfl ?_
            refine r_iload_n rfl ?_
            refine q_inlV 30 rfl [.ref 188, .int a1, .int a2] [] (Nat.le_of_ble_eq_true rfl) rfl ?_
            refine Ev.mk rfl rfl ⟨Nat.le_of_ble_eq_true rfl, Or.inr (q_rc hI83.1 kx_188 rfl)⟩ ?_
            show At _ none _ _ (0, [(0, .ref 188), (1, .int a1), (2, .int a2)], [], (_, _)) _
            refine At.enter rfl ?_
            refine r_aload_n rfl ?_
            refine q_getR (Sh.ref hI83.1 kx_188 rfl) ?_
            refine r_iload_n rfl ?_
            refine r_bipush 8 rfl ?_
            refine q_imul (a2.toInt * 8) rfl (by omega) (fun v85 hv85 => ?_)
            refine r_iload_n rfl ?_
            refine q_iadd (v85.toInt + a1.toInt) rfl (by omega) (fun v86 hv86 => ?_)
            obtain ⟨v87, hv87⟩ : ∃ v, eA g77 203 (8 * a2.toInt + a1.toInt) = v := ⟨_, rfl⟩
            refine q_iald (Sh.arr hI83.1 ka_203) (8 * a2.toInt + a1.toInt) (by omega) (by omega) v87 ((eA_c (gA_sI)).trans hv87) ?_
            refine q_ireti ?_
            refine At.enter rfl ?_
            refine r_goto ?_
            refine At.enter rfl ?_
            refine r_ireti ?_
            exact ⟨_, rfl, hI83, hF84, _, rfl, trivial⟩

def F_X10_held_0 : List (Nat × Nat) := [(0, 14), (185, 3), (188, 16), (188, 18)]
def A_X10_held_0 : List Nat := [189, 190, 191, 192, 193, 194, 195, 196, 197, 198, 199, 200, 202, 203]
set_option maxRecDepth 100000 in
set_option maxHeartbeats 4000000 in
theorem T_X10_held_0 (d : Nat) {N : Nat} {g0 : List en_E} (hI0 : HI g0) (a1 : Int32) (a2 : Int32) (a3 : Int32) : Ev (d + 7) 122 [.ref 0, .int a1, .int a2, .int a3] (g0, N) (fun w h' => ∃ g', h' = (g', N) ∧ HI g' ∧ Fr F_X10_held_0 A_X10_held_0 g0 g' ∧ ∃ r : Int32, w = some (.int r) ∧ True) := by
  have hF0 : Fr F_X10_held_0 A_X10_held_0 g0 g0 := Fr.rf
  refine Ev.mk rfl rfl ⟨Nat.le_of_ble_eq_true rfl, Or.inr (q_rc hI0.1 kx_0 rfl)⟩ ?_
  show At _ none _ _ (0, [(0, .ref 0), (1, .int a1), (2, .int a2), (3, .int a3)], [], (_, _)) _
  refine At.enter rfl ?_
  refine r_aload_n rfl ?_
  refine q_getR (Sh.ref hI0.1 kx_0 rfl) ?_
  refine r_iload_n rfl ?_
  refine q_inlV 8 rfl [.ref 1, .int a1] [] (Nat.le_of_ble_eq_true rfl) rfl ?_
  refine Ev.mk rfl rfl ⟨Nat.le_of_ble_eq_true rfl, Or.inr (q_rc hI0.1 kx_1 rfl)⟩ ?_
  show At _ none _ _ (0, [(0, .ref 1), (1, .int a1)], [], (_, _)) _
  refine At.enter rfl ?_
  refine r_iload_n rfl ?_
  refine r_ifs 4 rfl (fun c951 => ?_) (fun c951 => ?_)
  · have c951_ : a1.toInt < 0 := en_k_lt_t c951
    refine At.enter rfl ?_
    refine r_iconst 0 rfl ?_
    refine Ar.fall 17 rfl ?_
    refine At.enter rfl ?_
    refine q_iretz (by decide) ?_
    refine At.enter rfl ?_
    refine r_ift (by decide) ?_
    refine At.enter rfl ?_
    refine r_iconst (-1) rfl ?_
    refine r_ireti ?_
    exact ⟨_, rfl, hI0, hF0, _, rfl, trivial⟩
  · have c951_ : a1.toInt ≥ 0 := en_k_lt_f c951
    refine At.enter rfl ?_
    refine r_iload_n rfl ?_
    refine r_aload_n rfl ?_
    obtain ⟨v952, hv952⟩ : ∃ v, gI g0 1 0 = v := ⟨_, rfl⟩
    have rv952 := RgF.at hI0.2.1 (p := 1) (b := 0) rfl
    rw [hv952] at rv952
    dsimp only at rv952
    refine q_getI (Sh.int hI0.1 kx_1 rfl) v952 hv952 ?_
    have bv954 := q_bnd a1
    have bv955 := q_bnd v952
    refine r_ics 12 rfl (fun c953 => ?_) (fun c953 => ?_)
    · have c953_ : a1.toInt ≥ v952.toInt := en_i_ge_t c953
      refine At.enter rfl ?_
      refine r_iconst 0 rfl ?_
      refine Ar.fall 17 rfl ?_
      refine At.enter rfl ?_
      refine q_iretz (by decide) ?_
      refine At.enter rfl ?_
      refine r_ift (by decide) ?_
      refine At.enter rfl ?_
      refine r_iconst (-1) rfl ?_
      refine r_ireti ?_
      exact ⟨_, rfl, hI0, hF0, _, rfl, trivial⟩
    · have c953_ : a1.toInt < v952.toInt := en_i_ge_f c953
      refine At.enter rfl ?_
      refine r_iconst 1 rfl ?_
      refine r_goto ?_
      refine At.enter rfl ?_
      refine q_iretz (by decide) ?_
      refine At.enter rfl ?_
      refine r_iff 11 rfl (by decide) ?_
      refine At.enter rfl ?_
      refine r_iload_n rfl ?_
      refine r_iconst 0 rfl ?_
      refine r_bipush 99 rfl ?_
      refine q_inlS 18 rfl [.int a2, .int 0, .int 99] [] (Nat.le_of_ble_eq_true rfl) rfl ?_
      refine Ev.mk rfl rfl ⟨Nat.le_of_ble_eq_true rfl, Or.inl rfl⟩ ?_
      show At _ none _ _ (0, [(0, .int a2), (1, .int 0), (2, .int 99)], [], (_, _)) _
      refine At.enter rfl ?_
      refine r_iload_n rfl ?_
      refine r_iload_n rfl ?_
      refine r_ics 5 rfl (fun c956 => ?_) (fun c956 => ?_)
      · have c956_ : a2.toInt < 0 := en_i_lt_t c956
        refine At.enter rfl ?_
        refine r_iconst 0 rfl ?_
        refine Ar.fall 15 rfl ?_
        refine At.enter rfl ?_
        refine q_iretz (by decide) ?_
        refine At.enter rfl ?_
        refine r_ift (by decide) ?_
        refine At.enter rfl ?_
        refine r_iconst (-1) rfl ?_
        refine r_ireti ?_
        exact ⟨_, rfl, hI0, hF0, _, rfl, trivial⟩
      · have c956_ : a2.toInt ≥ 0 := en_i_lt_f c956
        refine At.enter rfl ?_
        refine r_iload_n rfl ?_
        refine r_iload_n rfl ?_
        refine r_ics 10 rfl (fun c957 => ?_) (fun c957 => ?_)
        · have c957_ : a2.toInt > 99 := en_i_gt_t c957
          refine At.enter rfl ?_
          refine r_iconst 0 rfl ?_
          refine Ar.fall 15 rfl ?_
          refine At.enter rfl ?_
          refine q_iretz (by decide) ?_
          refine At.enter rfl ?_
          refine r_ift (by decide) ?_
          refine At.enter rfl ?_
          refine r_iconst (-1) rfl ?_
          refine r_ireti ?_
          exact ⟨_, rfl, hI0, hF0, _, rfl, trivial⟩
        · have c957_ : a2.toInt ≤ 99 := en_i_gt_f c957
          refine At.enter rfl ?_
          refine r_iconst 1 rfl ?_
          refine r_goto ?_
          refine At.enter rfl ?_
          refine q_iretz (by decide) ?_
          refine At.enter rfl ?_
          refine r_iff 21 rfl (by decide) ?_
          refine At.enter rfl ?_
          refine r_iload_n rfl ?_
          refine r_iconst 0 rfl ?_
          refine r_iconst 1 rfl ?_
          refine q_inlS 27 rfl [.int a3, .int 0, .int 1] [] (Nat.le_of_ble_eq_true rfl) rfl ?_
          refine Ev.mk rfl rfl ⟨Nat.le_of_ble_eq_true rfl, Or.inl rfl⟩ ?_
          show At _ none _ _ (0, [(0, .int a3), (1, .int 0), (2, .int 1)], [], (_, _)) _
          refine At.enter rfl ?_
          refine r_iload_n rfl ?_
          refine r_iload_n rfl ?_
          refine r_ics 5 rfl (fun c958 => ?_) (fun c958 => ?_)
          · have c958_ : a3.toInt < 0 := en_i_lt_t c958
            refine At.enter rfl ?_
            refine r_iconst 0 rfl ?_
            refine Ar.fall 15 rfl ?_
            refine At.enter rfl ?_
            refine q_iretz (by decide) ?_
            refine At.enter rfl ?_
            refine r_iff 30 rfl (by decide) ?_
            refine At.enter rfl ?_
            refine r_iconst (-1) rfl ?_
            refine r_ireti ?_
            exact ⟨_, rfl, hI0, hF0, _, rfl, trivial⟩
          · have c958_ : a3.toInt ≥ 0 := en_i_lt_f c958
            refine At.enter rfl ?_
            refine r_iload_n rfl ?_
            refine r_iload_n rfl ?_
            refine r_ics 10 rfl (fun c959 => ?_) (fun c959 => ?_)
            · have c959_ : a3.toInt > 1 := en_i_gt_t c959
              refine At.enter rfl ?_
              refine r_iconst 0 rfl ?_
              refine Ar.fall 15 rfl ?_
              refine At.enter rfl ?_
              refine q_iretz (by decide) ?_
              refine At.enter rfl ?_
              refine r_iff 30 rfl (by decide) ?_
              refine At.enter rfl ?_
              refine r_iconst (-1) rfl ?_
              refine r_ireti ?_
              exact ⟨_, rfl, hI0, hF0, _, rfl, trivial⟩
            · have c959_ : a3.toInt ≤ 1 := en_i_gt_f c959
              refine At.enter rfl ?_
              refine r_iconst 1 rfl ?_
              refine r_goto ?_
              refine At.enter rfl ?_
              refine q_iretz (by decide) ?_
              refine At.enter rfl ?_
              refine r_ift (by decide) ?_
              refine At.enter rfl ?_
              refine r_aload_n rfl ?_
              refine q_inlV 36 rfl [.ref 0] [] (Nat.le_of_ble_eq_true rfl) rfl ?_
              refine Ev.mk rfl rfl ⟨Nat.le_of_ble_eq_true rfl, Or.inr (q_rc hI0.1 kx_0 rfl)⟩ ?_
              show At _ none _ _ (0, [(0, .ref 0)], [], (_, _)) _
              refine At.enter rfl ?_
              refine r_aload_n rfl ?_
              obtain ⟨v960, hv960⟩ : ∃ v, gI g0 0 14 = v := ⟨_, rfl⟩
              refine q_getI (Sh.int hI0.1 kx_0 rfl) v960 hv960 ?_
              refine r_ifs 7 rfl (fun c961 => ?_) (fun c961 => ?_)
              · have c961_ : v960.toInt ≠ 0 := en_k_ne_t c961
                refine At.enter rfl ?_
                refine r_aload_n rfl ?_
                refine q_getR (Sh.ref hI0.1 kx_0 rfl) ?_
                refine q_aret ?_
                refine At.enter rfl ?_
                refine r_astore ([(4, .ref 188), (0, .ref 0), (1, .int a1), (2, .int a2), (3, .int a3)]) rfl ?_
                refine r_iconst 0 rfl ?_
                refine r_istore ([(5, .int 0), (4, .ref 188), (0, .ref 0), (1, .int a1), (2, .int a2), (3, .int a3)]) rfl ?_
                refine r_iconst 0 rfl ?_
                refine r_istore ([(6, .int 0), (5, .int 0), (4, .ref 188), (0, .ref 0), (1, .int a1), (2, .int a2), (3, .int a3)]) rfl ?_
                refine Ar.fall 44 rfl ?_
                have z_1161 : (0 : Int32).toInt = 0 := rfl
                have z_1162 : (0 : Int32).toInt = 0 := rfl
                refine w_loopI (fun n_ l_ g_ => ∃ x1145 : Int32, ∃ x1146 : Int32, n_ = 8 - x1146.toInt ∧ HI g_ ∧ Fr F_X10_held_0 A_X10_held_0 g0 g_ ∧ en_get 0 l_ = some (.ref 0) ∧ en_get 1 l_ = some (.int a1) ∧ en_get 2 l_ = some (.int a2) ∧ en_get 3 l_ = some (.int a3) ∧ en_get 4 l_ = some (.ref 188) ∧ en_get 5 l_ = some (.int x1145) ∧ en_get 6 l_ = some (.int x1146) ∧ (0 ≤ x1146.toInt ∧ x1146.toInt ≤ 8)) ?_ (8 - 0) ⟨0, 0, by first | rfl | omega, hI0, hF0, rfl, rfl, rfl, rfl, rfl, rfl, rfl, by decide⟩
                rintro n1151 l1150 g1147 ⟨x1145, x1146, hm1163, hI1148, hF1149, e1153, e1154, e1155, e1156, e1157, e1158, e1159, r1160⟩ ih1152
                refine At.enter rfl ?_
                refine r_iload e1159 ?_
                refine r_aload_n e1153 ?_
                refine q_getR (Sh.ref hI1148.1 kx_0 rfl) ?_
                obtain ⟨v1164, hv1164⟩ : ∃ v, gI g0 1 4 = v := ⟨_, rfl⟩
                have rv1164 := RgF.at hI0.2.1 (p := 1) (b := 4) rfl
                rw [hv1164] at rv1164
                dsimp only at rv1164
                refine q_getI (Sh.int hI1148.1 kx_1 rfl) v1164 ((hF1149.1 1 4 (by decide)).trans hv1164) ?_
                have bv1166 := q_bnd x1146
                have bv1167 := q_bnd v1164
                refine r_ics 56 rfl (fun c1165 => ?_) (fun c1165 => ?_)
                · have c1165_ : x1146.toInt ≥ v1164.toInt := en_i_ge_t c1165
                  refine At.enter rfl ?_
                  refine r_iload e1158 ?_
                  refine r_ireti ?_
                  exact ⟨_, rfl, hI1148, hF1149, _, rfl, trivial⟩
                · have c1165_ : x1146.toInt < v1164.toInt := en_i_ge_f c1165
                  refine At.enter rfl ?_
                  refine r_aload e1157 ?_
                  refine r_iload e1159 ?_
                  refine r_iload_n e1155 ?_
                  refine q_inlV 64 rfl [.ref 188, .int x1146, .int a2] [] (Nat.le_of_ble_eq_true rfl) rfl ?_
                  refine Ev.mk rfl rfl ⟨Nat.le_of_ble_eq_true rfl, Or.inr (q_rc hI1148.1 kx_188 rfl)⟩ ?_
                  show At _ none _ _ (0, [(0, .ref 188), (1, .int x1146), (2, .int a2)], [], (_, _)) _
                  refine At.enter rfl ?_
                  refine r_aload_n rfl ?_
                  refine q_getR (Sh.ref hI1148.1 kx_188 rfl) ?_
                  refine r_iload_n rfl ?_
                  refine r_bipush 8 rfl ?_
                  refine q_imul (a2.toInt * 8) rfl (by omega) (fun v1168 hv1168 => ?_)
                  refine r_iload_n rfl ?_
                  refine q_iadd (v1168.toInt + x1146.toInt) rfl (by omega) (fun v1169 hv1169 => ?_)
                  obtain ⟨v1170, hv1170⟩ : ∃ v, eA g1147 203 (8 * a2.toInt + x1146.toInt) = v := ⟨_, rfl⟩
                  refine q_iald (Sh.arr hI1148.1 ka_203) (8 * a2.toInt + x1146.toInt) (by omega) (by omega) v1170 hv1170 ?_
                  refine q_ireti ?_
                  refine At.enter rfl ?_
                  refine r_iload_n e1154 ?_
                  refine r_ics 68 rfl (fun c1171 => ?_) (fun c1171 => ?_)
                  · have c1171_ : v1170.toInt ≠ a1.toInt := en_i_ne_t c1171
                    refine At.enter rfl ?_
                    refine q_iinc e1159 (x1146.toInt + 1) rfl (by omega) (fun v1172 hv1172 => ?_)
                    refine r_goto ?_
                    have bv1173 := q_bnd x1145
                    exact ih1152 (8 - v1172.toInt) _ _ ⟨x1145, v1172, by first | rfl | omega, hI1148, hF1149, (w_p1 (by decide) (Or.inr rfl) e1153), (w_p1 (by decide) (Or.inr rfl) e1154), (w_p1 (by decide) (Or.inr rfl) e1155), (w_p1 (by decide) (Or.inr rfl) e1156), (w_p1 (by decide) (Or.inr rfl) e1157), (w_p1 (by decide) (Or.inr rfl) e1158), (w_e1 _ _ _), by omega⟩ ⟨by omega, by omega⟩
                  · have c1171_ : v1170.toInt = a1.toInt := en_i_ne_f c1171
                    refine At.enter rfl ?_
                    refine r_iload e1158 ?_
                    refine r_iload_n e1156 ?_
                    refine r_ifs 74 rfl (fun c1174 => ?_) (fun c1174 => ?_)
                    · have c1174_ : a3.toInt ≠ 0 := en_k_ne_t c1174
                      refine At.enter rfl ?_
                      refine r_aload_n e1153 ?_
                      refine q_getR (Sh.ref hI1148.1 kx_0 rfl) ?_
                      refine r_iload e1159 ?_
                      refine r_iconst 0 rfl ?_
                      refine r_callV 88 rfl [.ref 1, .int x1146, .int 0] [.int x1145] (Nat.le_of_ble_eq_true rfl) rfl (T_X0_about_1 _ hI1148 x1146 0) ?_
                      rintro _ _ ⟨g1175, rfl, hI1176, hF1177, v1178, rfl, hr1179⟩
                      refine At.sti ?_
                      have ks1182 := hr1179.2.2
                      have hr1181 : _ ∧ _ := ⟨hr1179.1, hr1179.2.1⟩
                      have hF1180 := Fr.tr hF1149 hF1177 rfl rfl
                      have zv1183 : (0 : Int32).toInt = 0 := rfl
                      refine At.enter rfl ?_
                      refine q_iaddO (fun v1184 _ => ?_)
                      refine r_istore _ rfl ?_
                      refine Ar.fall 91 rfl ?_
                      refine At.enter rfl ?_
                      refine q_iinc (w_p1 (by decide) (Or.inr rfl) e1159) (x1146.toInt + 1) rfl (by omega) (fun v1185 hv1185 => ?_)
                      refine r_goto ?_
                      have bv1186 := q_bnd v1184
                      exact ih1152 (8 - v1185.toInt) _ _ ⟨v1184, v1185, by first | rfl | omega, hI1176, hF1180, (w_p1 (by decide) (Or.inr rfl) (w_p1 (by decide) (Or.inr rfl) e1153)), (w_p1 (by decide) (Or.inr rfl) (w_p1 (by decide) (Or.inr rfl) e1154)), (w_p1 (by decide) (Or.inr rfl) (w_p1 (by decide) (Or.inr rfl) e1155)), (w_p1 (by decide) (Or.inr rfl) (w_p1 (by decide) (Or.inr rfl) e1156)), (w_p1 (by decide) (Or.inr rfl) (w_p1 (by decide) (Or.inr rfl) e1157)), (w_p1 (by decide) (Or.inr rfl) (w_e1 _ _ _)), (w_e1 _ _ _), by omega⟩ ⟨by omega, by omega⟩
                    · have c1174_ : a3.toInt = 0 := en_k_ne_f c1174
                      refine At.enter rfl ?_
                      refine r_iconst 1 rfl ?_
                      refine r_goto ?_
                      refine At.enter rfl ?_
                      refine q_iaddO (fun v1187 _ => ?_)
                      refine r_istore _ rfl ?_
                      refine Ar.fall 91 rfl ?_
                      refine At.enter rfl ?_
                      refine q_iinc (w_p1 (by decide) (Or.inr rfl) e1159) (x1146.toInt + 1) rfl (by omega) (fun v1188 hv1188 => ?_)
                      refine r_goto ?_
                      have bv1189 := q_bnd v1187
                      exact ih1152 (8 - v1188.toInt) _ _ ⟨v1187, v1188, by first | rfl | omega, hI1148, hF1149, (w_p1 (by decide) (Or.inr rfl) (w_p1 (by decide) (Or.inr rfl) e1153)), (w_p1 (by decide) (Or.inr rfl) (w_p1 (by decide) (Or.inr rfl) e1154)), (w_p1 (by decide) (Or.inr rfl) (w_p1 (by decide) (Or.inr rfl) e1155)), (w_p1 (by decide) (Or.inr rfl) (w_p1 (by decide) (Or.inr rfl) e1156)), (w_p1 (by decide) (Or.inr rfl) (w_p1 (by decide) (Or.inr rfl) e1157)), (w_p1 (by decide) (Or.inr rfl) (w_e1 _ _ _)), (w_e1 _ _ _), by omega⟩ ⟨by omega, by omega⟩
              · have c961_ : v960.toInt = 0 := en_k_ne_f c961
                refine At.enter rfl ?_
                refine r_aload_n rfl ?_
                refine q_getR (Sh.ref hI0.1 kx_0 rfl) ?_
                refine r_iconst 0 rfl ?_
                refine r_callV 15 rfl [.ref 188, .int 0] [] (Nat.le_of_ble_eq_true rfl) rfl (T_X1_layOut_188 _ hI0 0) ?_
                rintro _ _ ⟨g1190, rfl, hI1191, hF1192, rfl⟩
                refine At.stn ?_
                have hF1195 := Fr.tr hF0 hF1192 rfl rfl
                refine At.enter rfl ?_
                refine r_aload_n rfl ?_
                refine q_getR (Sh.ref hI1191.1 kx_0 rfl) ?_
                refine r_callV 22 rfl [.ref 188] [] (Nat.le_of_ble_eq_true rfl) rfl (T_X1_runWhole_188 _ hI1191) ?_
                rintro _ _ ⟨g1196, rfl, hI1197, hF1198, rfl⟩
                refine At.stn ?_
                have hF1201 := Fr.tr hF1195 hF1198 rfl rfl
                refine At.enter rfl ?_
                refine r_aload_n rfl ?_
                refine r_iconst 1 rfl ?_
                refine q_putI (Sh.int hI1197.1 kx_0 rfl) rfl ?_
                have hI1202 := HI.wI0 hI1197 kx_0 rfl (p := 0) (b := 14) (v := 1) rfl
                have hF1203 := Fr.wI (p := 0) (b := 14) (v := 1) hF1201 rfl
                refine Ar.fall 27 rfl ?_
                refine At.enter rfl ?_
                refine r_aload_n rfl ?_
                refine q_getR (Sh.ref hI1202.1 kx_0 rfl) ?_
                refine q_aret ?_
                refine At.enter rfl ?_
                refine r_astore ([(4, .ref 188), (0, .ref 0), (1, .int a1), (2, .int a2), (3, .int a3)]) rfl ?_
                refine r_iconst 0 rfl ?_
                refine r_istore ([(5, .int 0), (4, .ref 188), (0, .ref 0), (1, .int a1), (2, .int a2), (3, .int a3)]) rfl ?_
                refine r_iconst 0 rfl ?_
                refine r_istore ([(6, .int 0), (5, .int 0), (4, .ref 188), (0, .ref 0), (1, .int a1), (2, .int a2), (3, .int a3)]) rfl ?_
                refine Ar.fall 44 rfl ?_
                have z_1403 : (0 : Int32).toInt = 0 := rfl
                have z_1404 : (0 : Int32).toInt = 0 := rfl
                refine w_loopI (fun n_ l_ g_ => ∃ x1387 : Int32, ∃ x1388 : Int32, n_ = 8 - x1388.toInt ∧ HI g_ ∧ Fr F_X10_held_0 A_X10_held_0 g0 g_ ∧ en_get 0 l_ = some (.ref 0) ∧ en_get 1 l_ = some (.int a1) ∧ en_get 2 l_ = some (.int a2) ∧ en_get 3 l_ = some (.int a3) ∧ en_get 4 l_ = some (.ref 188) ∧ en_get 5 l_ = some (.int x1387) ∧ en_get 6 l_ = some (.int x1388) ∧ (0 ≤ x1388.toInt ∧ x1388.toInt ≤ 8)) ?_ (8 - 0) ⟨0, 0, by first | rfl | omega, hI1202, hF1203, rfl, rfl, rfl, rfl, rfl, rfl, rfl, by decide⟩
                rintro n1393 l1392 g1389 ⟨x1387, x1388, hm1405, hI1390, hF1391, e1395, e1396, e1397, e1398, e1399, e1400, e1401, r1402⟩ ih1394
                refine At.enter rfl ?_
                refine r_iload e1401 ?_
                refine r_aload_n e1395 ?_
                refine q_getR (Sh.ref hI1390.1 kx_0 rfl) ?_
                obtain ⟨v1406, hv1406⟩ : ∃ v, gI g0 1 4 = v := ⟨_, rfl⟩
                have rv1406 := RgF.at hI0.2.1 (p := 1) (b := 4) rfl
                rw [hv1406] at rv1406
                dsimp only at rv1406
                refine q_getI (Sh.int hI1390.1 kx_1 rfl) v1406 ((hF1391.1 1 4 (by decide)).trans hv1406) ?_
                have bv1408 := q_bnd x1388
                have bv1409 := q_bnd v1406
                refine r_ics 56 rfl (fun c1407 => ?_) (fun c1407 => ?_)
                · have c1407_ : x1388.toInt ≥ v1406.toInt := en_i_ge_t c1407
                  refine At.enter rfl ?_
                  refine r_iload e1400 ?_
                  refine r_ireti ?_
                  exact ⟨_, rfl, hI1390, hF1391, _, rfl, trivial⟩
                · have c1407_ : x1388.toInt < v1406.toInt := en_i_ge_f c1407
                  refine At.enter rfl ?_
                  refine r_aload e1399 ?_
                  refine r_iload e1401 ?_
                  refine r_iload_n e1397 ?_
                  refine q_inlV 64 rfl [.ref 188, .int x1388, .int a2] [] (Nat.le_of_ble_eq_true rfl) rfl ?_
                  refine Ev.mk rfl rfl ⟨Nat.le_of_ble_eq_true rfl, Or.inr (q_rc hI1390.1 kx_188 rfl)⟩ ?_
                  show At _ none _ _ (0, [(0, .ref 188), (1, .int x1388), (2, .int a2)], [], (_, _)) _
                  refine At.enter rfl ?_
                  refine r_aload_n rfl ?_
                  refine q_getR (Sh.ref hI1390.1 kx_188 rfl) ?_
                  refine r_iload_n rfl ?_
                  refine r_bipush 8 rfl ?_
                  refine q_imul (a2.toInt * 8) rfl (by omega) (fun v1410 hv1410 => ?_)
                  refine r_iload_n rfl ?_
                  refine q_iadd (v1410.toInt + x1388.toInt) rfl (by omega) (fun v1411 hv1411 => ?_)
                  obtain ⟨v1412, hv1412⟩ : ∃ v, eA g1389 203 (8 * a2.toInt + x1388.toInt) = v := ⟨_, rfl⟩
                  refine q_iald (Sh.arr hI1390.1 ka_203) (8 * a2.toInt + x1388.toInt) (by omega) (by omega) v1412 hv1412 ?_
                  refine q_ireti ?_
                  refine At.enter rfl ?_
                  refine r_iload_n e1396 ?_
                  refine r_ics 68 rfl (fun c1413 => ?_) (fun c1413 => ?_)
                  · have c1413_ : v1412.toInt ≠ a1.toInt := en_i_ne_t c1413
                    refine At.enter rfl ?_
                    refine q_iinc e1401 (x1388.toInt + 1) rfl (by omega) (fun v1414 hv1414 => ?_)
                    refine r_goto ?_
                    have bv1415 := q_bnd x1387
                    exact ih1394 (8 - v1414.toInt) _ _ ⟨x1387, v1414, by first | rfl | omega, hI1390, hF1391, (w_p1 (by decide) (Or.inr rfl) e1395), (w_p1 (by decide) (Or.inr rfl) e1396), (w_p1 (by decide) (Or.inr rfl) e1397), (w_p1 (by decide) (Or.inr rfl) e1398), (w_p1 (by decide) (Or.inr rfl) e1399), (w_p1 (by decide) (Or.inr rfl) e1400), (w_e1 _ _ _), by omega⟩ ⟨by omega, by omega⟩
                  · have c1413_ : v1412.toInt = a1.toInt := en_i_ne_f c1413
                    refine At.enter rfl ?_
                    refine r_iload e1400 ?_
                    refine r_iload_n e1398 ?_
                    refine r_ifs 74 rfl (fun c1416 => ?_) (fun c1416 => ?_)
                    · have c1416_ : a3.toInt ≠ 0 := en_k_ne_t c1416
                      refine At.enter rfl ?_
                      refine r_aload_n e1395 ?_
                      refine q_getR (Sh.ref hI1390.1 kx_0 rfl) ?_
                      refine r_iload e1401 ?_
                      refine r_iconst 0 rfl ?_
                      refine r_callV 88 rfl [.ref 1, .int x1388, .int 0] [.int x1387] (Nat.le_of_ble_eq_true rfl) rfl (T_X0_about_1 _ hI1390 x1388 0) ?_
                      rintro _ _ ⟨g1417, rfl, hI1418, hF1419, v1420, rfl, hr1421⟩
                      refine At.sti ?_
                      have ks1424 := hr1421.2.2
                      have hr1423 : _ ∧ _ := ⟨hr1421.1, hr1421.2.1⟩
                      have hF1422 := Fr.tr hF1391 hF1419 rfl rfl
                      have zv1425 : (0 : Int32).toInt = 0 := rfl
                      refine At.enter rfl ?_
                      refine q_iaddO (fun v1426 _ => ?_)
                      refine r_istore _ rfl ?_
                      refine Ar.fall 91 rfl ?_
                      refine At.enter rfl ?_
                      refine q_iinc (w_p1 (by decide) (Or.inr rfl) e1401) (x1388.toInt + 1) rfl (by omega) (fun v1427 hv1427 => ?_)
                      refine r_goto ?_
                      have bv1428 := q_bnd v1426
                      exact ih1394 (8 - v1427.toInt) _ _ ⟨v1426, v1427, by first | rfl | omega, hI1418, hF1422, (w_p1 (by decide) (Or.inr rfl) (w_p1 (by decide) (Or.inr rfl) e1395)), (w_p1 (by decide) (Or.inr rfl) (w_p1 (by decide) (Or.inr rfl) e1396)), (w_p1 (by decide) (Or.inr rfl) (w_p1 (by decide) (Or.inr rfl) e1397)), (w_p1 (by decide) (Or.inr rfl) (w_p1 (by decide) (Or.inr rfl) e1398)), (w_p1 (by decide) (Or.inr rfl) (w_p1 (by decide) (Or.inr rfl) e1399)), (w_p1 (by decide) (Or.inr rfl) (w_e1 _ _ _)), (w_e1 _ _ _), by omega⟩ ⟨by omega, by omega⟩
                    · have c1416_ : a3.toInt = 0 := en_k_ne_f c1416
                      refine At.enter rfl ?_
                      refine r_iconst 1 rfl ?_
                      refine r_goto ?_
                      refine At.enter rfl ?_
                      refine q_iaddO (fun v1429 _ => ?_)
                      refine r_istore _ rfl ?_
                      refine Ar.fall 91 rfl ?_
                      refine At.enter rfl ?_
                      refine q_iinc (w_p1 (by decide) (Or.inr rfl) e1401) (x1388.toInt + 1) rfl (by omega) (fun v1430 hv1430 => ?_)
                      refine r_goto ?_
                      have bv1431 := q_bnd v1429
                      exact ih1394 (8 - v1430.toInt) _ _ ⟨v1429, v1430, by first | rfl | omega, hI1390, hF1391, (w_p1 (by decide) (Or.inr rfl) (w_p1 (by decide) (Or.inr rfl) e1395)), (w_p1 (by decide) (Or.inr rfl) (w_p1 (by decide) (Or.inr rfl) e1396)), (w_p1 (by decide) (Or.inr rfl) (w_p1 (by decide) (Or.inr rfl) e1397)), (w_p1 (by decide) (Or.inr rfl) (w_p1 (by decide) (Or.inr rfl) e1398)), (w_p1 (by decide) (Or.inr rfl) (w_p1 (by decide) (Or.inr rfl) e1399)), (w_p1 (by decide) (Or.inr rfl) (w_e1 _ _ _)), (w_e1 _ _ _), by omega⟩ ⟨by omega, by omega⟩
