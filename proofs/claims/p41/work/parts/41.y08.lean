def F_X10_where_0 : List (Nat × Nat) := [(0, 14), (185, 3), (188, 16), (188, 18)]
def A_X10_where_0 : List Nat := [189, 190, 191, 192, 193, 194, 195, 196, 197, 198, 199, 200, 202, 203]
set_option maxRecDepth 100000 in
set_option maxHeartbeats 4000000 in
theorem T_X10_where_0 (d : Nat) {N : Nat} {g0 : List en_E} (hI0 : HI g0) (a1 : Int32) (a2 : Int32) : Ev (d + 7) 121 [.ref 0, .int a1, .int a2] (g0, N) (fun w h' => ∃ g', h' = (g', N) ∧ HI g' ∧ Fr F_X10_where_0 A_X10_where_0 g0 g' ∧ ∃ r : Int32, w = some (.int r) ∧ True) := by
  have hF0 : Fr F_X10_where_0 A_X10_where_0 g0 g0 := Fr.rf
  refine Ev.mk rfl rfl ⟨Nat.le_of_ble_eq_true rfl, Or.inr (q_rc hI0.1 kx_0 rfl)⟩ ?_
  show At _ none _ _ (0, [(0, .ref 0), (1, .int a1), (2, .int a2)], [], (_, _)) _
  refine At.enter rfl ?_
  refine r_aload_n rfl ?_
  refine q_getR (Sh.ref hI0.1 kx_0 rfl) ?_
  refine r_iload_n rfl ?_
  refine q_inlV 8 rfl [.ref 1, .int a1] [] (Nat.le_of_ble_eq_true rfl) rfl ?_
  refine Ev.mk rfl rfl ⟨Nat.le_of_ble_eq_true rfl, Or.inr (q_rc hI0.1 kx_1 rfl)⟩ ?_
  show At _ none _ _ (0, [(0, .ref 1), (1, .int a1)], [], (_, _)) _
  refine At.enter rfl ?_
  refine r_iload_n rfl ?_
  refine r_ifs 4 rfl (fun c59 => ?_) (fun c59 => ?_)
  · have c59_ : a1.toInt < 0 := en_k_lt_t c59
    refine At.enter rfl ?_
    refine r_iconst 0 rfl ?_
    refine Ar.fall 17 rfl ?_
    refine At.enter rfl ?_
    refine q_iretz (by decide) ?_
    refine At.enter rfl ?_
    refine r_ift (by decide) ?_
    refine At.enter rfl ?_
    refine r_iconst (-1) rfl ?_
    refine Ar.fall 34 rfl ?_
    refine At.enter rfl ?_
    refine r_ireti ?_
    exact ⟨_, rfl, hI0, hF0, _, rfl, trivial⟩
  · have c59_ : a1.toInt ≥ 0 := en_k_lt_f c59
    refine At.enter rfl ?_
    refine r_iload_n rfl ?_
    refine r_aload_n rfl ?_
    obtain ⟨v60, hv60⟩ : ∃ v, gI g0 1 4 = v := ⟨_, rfl⟩
    have rv60 := RgF.at hI0.2.1 (p := 1) (b := 4) rfl
    rw [hv60] at rv60
    dsimp only at rv60
    refine q_getI (Sh.int hI0.1 kx_1 rfl) v60 hv60 ?_
    have bv62 := q_bnd a1
    have bv63 := q_bnd v60
    refine r_ics 12 rfl (fun c61 => ?_) (fun c61 => ?_)
    · have c61_ : a1.toInt ≥ v60.toInt := en_i_ge_t c61
      refine At.enter rfl ?_
      refine r_iconst 0 rfl ?_
      refine Ar.fall 17 rfl ?_
      refine At.enter rfl ?_
      refine q_iretz (by decide) ?_
      refine At.enter rfl ?_
      refine r_ift (by decide) ?_
      refine At.enter rfl ?_
      refine r_iconst (-1) rfl ?_
      refine Ar.fall 34 rfl ?_
      refine At.enter rfl ?_
      refine r_ireti ?_
      exact ⟨_, rfl, hI0, hF0, _, rfl, trivial⟩
    · have c61_ : a1.toInt < v60.toInt := en_i_ge_f c61
      refine At.enter rfl ?_
      refine r_iconst 1 rfl ?_
      refine r_goto ?_
      refine At.enter rfl ?_
      refine q_iretz (by decide) ?_
      refine At.enter rfl ?_
      refine r_iff 11 rfl (by decide) ?_
      refine At.enter rfl ?_
      refine r_iload_n rfl ?_
      refine r_iconst 0 rfl ?_
      refine r_bipush 99 rfl ?_
      refine q_inlS 18 rfl [.int a2, .int 0, .int 99] [] (Nat.le_of_ble_eq_true rfl) rfl ?_
      refine Ev.mk rfl rfl ⟨Nat.le_of_ble_eq_true rfl, Or.inl rfl⟩ ?_
      show At _ none _ _ (0, [(0, .int a2), (1, .int 0), (2, .int 99)], [], (_, _)) _
      refine At.enter rfl ?_
      refine r_iload_n rfl ?_
      refine r_iload_n rfl ?_
      refine r_ics 5 rfl (fun c64 => ?_) (fun c64 => ?_)
      · have c64_ : a2.toInt < 0 := en_i_lt_t c64
        refine At.enter rfl ?_
        refine r_iconst 0 rfl ?_
        refine Ar.fall 15 rfl ?_
        refine At.enter rfl ?_
        refine q_iretz (by decide) ?_
        refine At.enter rfl ?_
        refine r_ift (by decide) ?_
        refine At.enter rfl ?_
        refine r_iconst (-1) rfl ?_
        refine Ar.fall 34 rfl ?_
        refine At.enter rfl ?_
        refine r_ireti ?_
        exact ⟨_, rfl, hI0, hF0, _, rfl, trivial⟩
      · have c64_ : a2.toInt ≥ 0 := en_i_lt_f c64
        refine At.enter rfl ?_
        refine r_iload_n rfl ?_
        refine r_iload_n rfl ?_
        refine r_ics 10 rfl (fun c65 => ?_) (fun c65 => ?_)
        · have c65_ : a2.toInt > 99 := en_i_gt_t c65
          refine At.enter rfl ?_
          refine r_iconst 0 rfl ?_
          refine Ar.fall 15 rfl ?_
          refine At.enter rfl ?_
          refine q_iretz (by decide) ?_
          refine At.enter rfl ?_
          refine r_ift (by decide) ?_
          refine At.enter rfl ?_
          refine r_iconst (-1) rfl ?_
          refine Ar.fall 34 rfl ?_
          refine At.enter rfl ?_
          refine r_ireti ?_
          exact ⟨_, rfl, hI0, hF0, _, rfl, trivial⟩
        · have c65_ : a2.toInt ≤ 99 := en_i_gt_f c65
          refine At.enter rfl ?_
          refine r_iconst 1 rfl ?_
          refine r_goto ?_
          refine At.enter rfl ?_
          refine q_iretz (by decide) ?_
          refine At.enter rfl ?_
          refine r_iff 21 rfl (by decide) ?_
          refine At.enter rfl ?_
          refine r_aload_n rfl ?_
          refine q_inlV 25 rfl [.ref 0] [] (Nat.le_of_ble_eq_true rfl) rfl ?_
          refine Ev.mk rfl rfl ⟨Nat.le_of_ble_eq_true rfl, Or.inr (q_rc hI0.1 kx_0 rfl)⟩ ?_
          show At _ none _ _ (0, [(0, .ref 0)], [], (_, _)) _
          refine At.enter rfl ?_
          refine r_aload_n rfl ?_
          obtain ⟨v66, hv66⟩ : ∃ v, gI g0 0 14 = v := ⟨_, rfl⟩
          refine q_getI (Sh.int hI0.1 kx_0 rfl) v66 hv66 ?_
          refine r_ifs 7 rfl (fun c67 => ?_) (fun c67 => ?_)
          · have c67_ : v66.toInt ≠ 0 := en_k_ne_t c67
            refine At.enter rfl ?_
            refine r_aload_n rfl ?_
            refine q_getR (Sh.ref hI0.1 kx_0 rfl) ?_
            refine q_aret ?_
            refine At.enter rfl ?_
            refine r_iload_n rfl ?_
            refine r_iload_n rfl ?_
            refine q_inlV 30 rfl [.ref 188, .int a1, .int a2] [] (Nat.le_of_ble_eq_true rfl) rfl ?_
            refine Ev.mk rfl rfl ⟨Nat.le_of_ble_eq_true rfl, Or.inr (q_rc hI0.1 kx_188 rfl)⟩ ?_
            show At _ none _ _ (0, [(0, .ref 188), (1, .int a1), (2, .int a2)], [], (_, _)) _
            refine At.enter rfl ?_
            refine r_aload_n rfl ?_
            refine q_getR (Sh.ref hI0.1 kx_188 rfl) ?_
            refine r_iload_n rfl ?_
            refine r_bipush 8 rfl ?_
            refine q_imul (a2.toInt * 8) rfl (by omega) (fun v68 hv68 => ?_)
            refine r_iload_n rfl ?_
            refine q_iadd (v68.toInt + a1.toInt) rfl (by omega) (fun v69 hv69 => ?_)
            obtain ⟨v70, hv70⟩ : ∃ v, eA g0 203 (8 * a2.toInt + a1.toInt) = v := ⟨_, rfl⟩
            refine q_iald (Sh.arr hI0.1 ka_203) (8 * a2.toInt + a1.toInt) (by omega) (by omega) v70 hv70 ?_
            refine q_ireti ?_
            refine At.enter rfl ?_
            refine r_goto ?_
            refine At.enter rfl ?_
            refine r_ireti ?_
            exact ⟨_, rfl, hI0, hF0, _, rfl, trivial⟩
          · have c67_ : v66.toInt = 0 := en_k_ne_f c67
            refine At.enter rfl ?_
            refine r_aload_n rfl ?_
            refine q_getR (Sh.ref hI0.1 kx_0 rfl) ?_
            refine r_iconst 0 rfl ?_
            refine r_callV 15 rfl [.ref 188, .int 0] [] (Nat.le_of_ble_eq_true rfl) rfl (T_X1_layOut_188 _ hI0 0) ?_
            rintro _ _ ⟨g71, rfl, hI72, hF73, rfl⟩
            refine At.stn ?_
            have hF76 := Fr.tr hF0 hF73 rfl rfl
            refine At.enter rfl ?_
            refine r_aload_n rfl ?_
            refine q_getR (Sh.ref hI72.1 kx_0 rfl) ?_
            refine r_callV 22 rfl [.ref 188] [] (Nat.le_of_ble_eq_true rfl) rfl (T_X1_runWhole_188 _ hI72) ?_
            rintro _ _ ⟨g77, rfl, hI78, hF79, rfl⟩
            refine At.stn ?_
            have hF82 := Fr.tr hF76 hF79 rfl rfl
            refine At.enter rfl ?_
            refine r_aload_n rfl ?_
            refine r_iconst 1 rfl ?_
            refine q_putI (Sh.int hI78.1 kx_0 rfl) rfl ?_
            have hI83 := HI.wI0 hI78 kx_0 rfl (p := 0) (b := 14) (v := 1) rfl
            have hF84 := Fr.wI (p := 0) (b := 14) (v := 1) hF82 rfl
            refine Ar.fall 27 rfl ?_
            refine At.enter rfl ?_
            refine r_aload_n rfl ?_
            refine q_getR (Sh.ref hI83.1 kx_0 rfl) ?_
            refine q_aret ?_
            refine At.enter rfl ?_
            refine r_iload_n rfl ?_
            refine r_iload_n rfl ?_
            refine q_inlV 30 rfl [.ref 188, .int a1, .int a2] [] (Nat.le_of_ble_eq_true rfl) rfl ?_
            refine Ev.mk rfl rfl ⟨Nat.le_of_ble_eq_true rfl, Or.inr (q_rc hI83.1 kx_188 rfl)⟩ ?_
            show At _ none _ _ (0, [(0, .ref 188), (1, .int a1), (2, .int a2)], [], (_, _)) _
            refine At.enter rfl ?_
            refine r_aload_n rfl ?_
            refine q_getR (Sh.ref hI83.1 kx_188 rfl) ?_
            refine r_iload_n rfl ?_
            refine r_bipush 8 rfl ?_
            refine q_imul (a2.toInt * 8) rfl (by omega) (fun v85 hv85 => ?_)
            refine r_iload_n rfl ?_
            refine q_iadd (v85.toInt + a1.toInt) rfl (by omega) (fun v86 hv86 => ?_)
            obtain ⟨v87, hv87⟩ : ∃ v, eA g77 203 (8 * a2.toInt + a1.toInt) = v := ⟨_, rfl⟩
            refine q_iald (Sh.arr hI83.1 ka_203) (8 * a2.toInt + a1.toInt) (by omega) (by omega) v87 ((eA_c (gA_sI)).trans hv87) ?_
            refine q_ireti ?_
            refine At.enter rfl ?_
            refine r_goto ?_
            refine At.enter rfl ?_
            refine r_ireti ?_
            exact ⟨_, rfl, hI83, hF84, _, rfl, trivial⟩

def F_X10_held_0 : List (Nat × Nat) := [(0, 14), (185, 3), (188, 16), (188, 18)]
def A_X10_held_0 : List Nat := [189, 190, 191, 192, 193, 194, 195, 196, 197, 198, 199, 200, 202, 203]
set_option maxRecDepth 100000 in
set_option maxHeartbeats 4000000 in
theorem T_X10_held_0 (d : Nat) {N : Nat} {g0 : List en_E} (hI0 : HI g0) (a1 : Int32) (a2 : Int32) (a3 : Int32) : Ev (d + 7) 122 [.ref 0, .int a1, .int a2, .int a3] (g0, N) (fun w h' => ∃ g', h' = (g', N) ∧ HI g' ∧ Fr F_X10_held_0 A_X10_held_0 g0 g' ∧ ∃ r : Int32, w = some (.int r) ∧ True) := by
  have hF0 : Fr F_X10_held_0 A_X10_held_0 g0 g0 := Fr.rf
  refine Ev.mk rfl rfl ⟨Nat.le_of_ble_eq_true rfl, Or.inr (q_rc hI0.1 kx_0 rfl)⟩ ?_
  show At _ none _ _ (0, [(0, .ref 0), (1, .int a1), (2, .int a2), (3, .int a3)], [], (_, _)) _
  refine At.enter rfl ?_
  refine r_aload_n rfl ?_
  refine q_getR (Sh.ref hI0.1 kx_0 rfl) ?_
  refine r_iload_n rfl ?_
  refine q_inlV 8 rfl [.ref 1, .int a1] [] (Nat.le_of_ble_eq_true rfl) rfl ?_
  refine Ev.mk rfl rfl ⟨Nat.le_of_ble_eq_true rfl, Or.inr (q_rc hI0.1 kx_1 rfl)⟩ ?_
  show At _ none _ _ (0, [(0, .ref 1), (1, .int a1)], [], (_, _)) _
  refine At.enter rfl ?_
  refine r_iload_n rfl ?_
  refine r_ifs 4 rfl (fun c887 => ?_) (fun c887 => ?_)
  · have c887_ : a1.toInt < 0 := en_k_lt_t c887
    refine At.enter rfl ?_
    refine r_iconst 0 rfl ?_
    refine Ar.fall 17 rfl ?_
    refine At.enter rfl ?_
    refine q_iretz (by decide) ?_
    refine At.enter rfl ?_
    refine r_ift (by decide) ?_
    refine At.enter rfl ?_
    refine r_iconst (-1) rfl ?_
    refine r_ireti ?_
    exact ⟨_, rfl, hI0, hF0, _, rfl, trivial⟩
  · have c887_ : a1.toInt ≥ 0 := en_k_lt_f c887
    refine At.enter rfl ?_
    refine r_iload_n rfl ?_
    refine r_aload_n rfl ?_
    obtain ⟨v888, hv888⟩ : ∃ v, gI g0 1 0 = v := ⟨_, rfl⟩
    have rv888 := RgF.at hI0.2.1 (p := 1) (b := 0) rfl
    rw [hv888] at rv888
    dsimp only at rv888
    refine q_getI (Sh.int hI0.1 kx_1 rfl) v888 hv888 ?_
    have bv890 := q_bnd a1
    have bv891 := q_bnd v888
    refine r_ics 12 rfl (fun c889 => ?_) (fun c889 => ?_)
    · have c889_ : a1.toInt ≥ v888.toInt := en_i_ge_t c889
      refine At.enter rfl ?_
      refine r_iconst 0 rfl ?_
      refine Ar.fall 17 rfl ?_
      refine At.enter rfl ?_
      refine q_iretz (by decide) ?_
      refine At.enter rfl ?_
      refine r_ift (by decide) ?_
      refine At.enter rfl ?_
      refine r_iconst (-1) rfl ?_
      refine r_ireti ?_
      exact ⟨_, rfl, hI0, hF0, _, rfl, trivial⟩
    · have c889_ : a1.toInt < v888.toInt := en_i_ge_f c889
      refine At.enter rfl ?_
      refine r_iconst 1 rfl ?_
      refine r_goto ?_
      refine At.enter rfl ?_
      refine q_iretz (by decide) ?_
      refine At.enter rfl ?_
      refine r_iff 11 rfl (by decide) ?_
      refine At.enter rfl ?_
      refine r_iload_n rfl ?_
      refine r_iconst 0 rfl ?_
      refine r_bipush 99 rfl ?_
      refine q_inlS 18 rfl [.int a2, .int 0, .int 99] [] (Nat.le_of_ble_eq_true rfl) rfl ?_
      refine Ev.mk rfl rfl ⟨Nat.le_of_ble_eq_true rfl, Or.inl rfl⟩ ?_
      show At _ none _ _ (0, [(0, .int a2), (1, .int 0), (2, .int 99)], [], (_, _)) _
      refine At.enter rfl ?_
      refine r_iload_n rfl ?_
      refine r_iload_n rfl ?_
      refine r_ics 5 rfl (fun c892 => ?_) (fun c892 => ?_)
      · have c892_ : a2.toInt < 0 := en_i_lt_t c892
        refine At.enter rfl ?_
        refine r_iconst 0 rfl ?_
        refine Ar.fall 15 rfl ?_
        refine At.enter rfl ?_
        refine q_iretz (by decide) ?_
        refine At.enter rfl ?_
        refine r_ift (by decide) ?_
        refine At.enter rfl ?_
        refine r_iconst (-1) rfl ?_
        refine r_ireti ?_
        exact ⟨_, rfl, hI0, hF0, _, rfl, trivial⟩
      · have c892_ : a2.toInt ≥ 0 := en_i_lt_f c892
        refine At.enter rfl ?_
        refine r_iload_n rfl ?_
        refine r_iload_n rfl ?_
        refine r_ics 10 rfl (fun c893 => ?_) (fun c893 => ?_)
        · have c893_ : a2.toInt > 99 := en_i_gt_t c893
          refine At.enter rfl ?_
          refine r_iconst 0 rfl ?_
          refine Ar.fall 15 rfl ?_
          refine At.enter rfl ?_
          refine q_iretz (by decide) ?_
          refine At.enter rfl ?_
          refine r_ift (by decide) ?_
          refine At.enter rfl ?_
          refine r_iconst (-1) rfl ?_
          refine r_ireti ?_
          exact ⟨_, rfl, hI0, hF0, _, rfl, trivial⟩
        · have c893_ : a2.toInt ≤ 99 := en_i_gt_f c893
          refine At.enter rfl ?_
          refine r_iconst 1 rfl ?_
          refine r_goto ?_
          refine At.enter rfl ?_
          refine q_iretz (by decide) ?_
          refine At.enter rfl ?_
          refine r_iff 21 rfl (by decide) ?_
          refine At.enter rfl ?_
          refine r_iload_n rfl ?_
          refine r_iconst 0 rfl ?_
          refine r_iconst 1 rfl ?_
          refine q_inlS 27 rfl [.int a3, .int 0, .int 1] [] (Nat.le_of_ble_eq_true rfl) rfl ?_
          refine Ev.mk rfl rfl ⟨Nat.le_of_ble_eq_true rfl, Or.inl rfl⟩ ?_
          show At _ none _ _ (0, [(0, .int a3), (1, .int 0), (2, .int 1)], [], (_, _)) _
          refine At.enter rfl ?_
          refine r_iload_n rfl ?_
          refine r_iload_n rfl ?_
          refine r_ics 5 rfl (fun c894 => ?_) (fun c894 => ?_)
          · have c894_ : a3.toInt < 0 := en_i_lt_t c894
            refine At.enter rfl ?_
            refine r_iconst 0 rfl ?_
            refine Ar.fall 15 rfl ?_
            refine At.enter rfl ?_
            refine q_iretz (by decide) ?_
            refine At.enter rfl ?_
            refine r_iff 30 rfl (by decide) ?_
            refine At.enter rfl ?_
            refine r_iconst (-1) rfl ?_
            refine r_ireti ?_
            exact ⟨_, rfl, hI0, hF0, _, rfl, trivial⟩
          · have c894_ : a3.toInt ≥ 0 := en_i_lt_f c894
            refine At.enter rfl ?_
            refine r_iload_n rfl ?_
            refine r_iload_n rfl ?_
            refine r_ics 10 rfl (fun c895 => ?_) (fun c895 => ?_)
            · have c895_ : a3.toInt > 1 := en_i_gt_t c895
              refine At.enter rfl ?_
              refine r_iconst 0 rfl ?_
              refine Ar.fall 15 rfl ?_
              refine At.enter rfl ?_
              refine q_iretz (by decide) ?_
              refine At.enter rfl ?_
              refine r_iff 30 rfl (by decide) ?_
              refine At.enter rfl ?_
              refine r_iconst (-1) rfl ?_
              refine r_ireti ?_
              exact ⟨_, rfl, hI0, hF0, _, rfl, trivial⟩
            · have c895_ : a3.toInt ≤ 1 := en_i_gt_f c895
              refine At.enter rfl ?_
              refine r_iconst 1 rfl ?_
              refine r_goto ?_
              refine At.enter rfl ?_
              refine q_iretz (by decide) ?_
              refine At.enter rfl ?_
              refine r_ift (by decide) ?_
              refine At.enter rfl ?_
              refine r_aload_n rfl ?_
              refine q_inlV 36 rfl [.ref 0] [] (Nat.le_of_ble_eq_true rfl) rfl ?_
              refine Ev.mk rfl rfl ⟨Nat.le_of_ble_eq_true rfl, Or.inr (q_rc hI0.1 kx_0 rfl)⟩ ?_
              show At _ none _ _ (0, [(0, .ref 0)], [], (_, _)) _
              refine At.enter rfl ?_
              refine r_aload_n rfl ?_
              obtain ⟨v896, hv896⟩ : ∃ v, gI g0 0 14 = v := ⟨_, rfl⟩
              refine q_getI (Sh.int hI0.1 kx_0 rfl) v896 hv896 ?_
              refine r_ifs 7 rfl (fun c897 => ?_) (fun c897 => ?_)
              · have c897_ : v896.toInt ≠ 0 := en_k_ne_t c897
                refine At.enter rfl ?_
                refine r_aload_n rfl ?_
                refine q_getR (Sh.ref hI0.1 kx_0 rfl) ?_
                refine q_aret ?_
                refine At.enter rfl ?_
                refine r_astore ([(4, .ref 188), (0, .ref 0), (1, .int a1), (2, .int a2), (3, .int a3)]) rfl ?_
                refine r_iconst 0 rfl ?_
                refine r_istore ([(5, .int 0), (4, .ref 188), (0, .ref 0), (1, .int a1), (2, .int a2), (3, .int a3)]) rfl ?_
                refine r_iconst 0 rfl ?_
                refine r_istore ([(6, .int 0), (5, .int 0), (4, .ref 188), (0, .ref 0), (1, .int a1), (2, .int a2), (3, .int a3)]) rfl ?_
                refine Ar.fall 44 rfl ?_
                have z_1083 : (0 : Int32).toInt = 0 := rfl
                have z_1084 : (0 : Int32).toInt = 0 := rfl
                refine w_loopI (fun n_ l_ g_ => ∃ x1067 : Int32, ∃ x1068 : Int32, n_ = 8 - x1068.toInt ∧ HI g_ ∧ Fr F_X10_held_0 A_X10_held_0 g0 g_ ∧ en_get 0 l_ = some (.ref 0) ∧ en_get 1 l_ = some (.int a1) ∧ en_get 2 l_ = some (.int a2) ∧ en_get 3 l_ = some (.int a3) ∧ en_get 4 l_ = some (.ref 188) ∧ en_get 5 l_ = some (.int x1067) ∧ en_get 6 l_ = some (.int x1068) ∧ (0 ≤ x1068.toInt ∧ x1068.toInt ≤ 8)) ?_ (8 - 0) ⟨0, 0, by first | rfl | omega, hI0, hF0, rfl, rfl, rfl, rfl, rfl, rfl, rfl, by decide⟩
                rintro n1073 l1072 g1069 ⟨x1067, x1068, hm1085, hI1070, hF1071, e1075, e1076, e1077, e1078, e1079, e1080, e1081, r1082⟩ ih1074
                refine At.enter rfl ?_
                refine r_iload e1081 ?_
                refine r_aload_n e1075 ?_
                refine q_getR (Sh.ref hI1070.1 kx_0 rfl) ?_
                obtain ⟨v1086, hv1086⟩ : ∃ v, gI g0 1 4 = v := ⟨_, rfl⟩
                have rv1086 := RgF.at hI0.2.1 (p := 1) (b := 4) rfl
                rw [hv1086] at rv1086
                dsimp only at rv1086
                refine q_getI (Sh.int hI1070.1 kx_1 rfl) v1086 ((hF1071.1 1 4 (by decide)).trans hv1086) ?_
                have bv1088 := q_bnd x1068
                have bv1089 := q_bnd v1086
                refine r_ics 56 rfl (fun c1087 => ?_) (fun c1087 => ?_)
                · have c1087_ : x1068.toInt ≥ v1086.toInt := en_i_ge_t c1087
                  refine At.enter rfl ?_
                  refine r_iload e1080 ?_
                  refine r_ireti ?_
                  exact ⟨_, rfl, hI1070, hF1071, _, rfl, trivial⟩
                · have c1087_ : x1068.toInt < v1086.toInt := en_i_ge_f c1087
                  refine At.enter rfl ?_
                  refine r_aload e1079 ?_
                  refine r_iload e1081 ?_
                  refine r_iload_n e1077 ?_
                  refine q_inlV 64 rfl [.ref 188, .int x1068, .int a2] [] (Nat.le_of_ble_eq_true rfl) rfl ?_
                  refine Ev.mk rfl rfl ⟨Nat.le_of_ble_eq_true rfl, Or.inr (q_rc hI1070.1 kx_188 rfl)⟩ ?_
                  show At _ none _ _ (0, [(0, .ref 188), (1, .int x1068), (2, .int a2)], [], (_, _)) _
                  refine At.enter rfl ?_
                  refine r_aload_n rfl ?_
                  refine q_getR (Sh.ref hI1070.1 kx_188 rfl) ?_
                  refine r_iload_n rfl ?_
                  refine r_bipush 8 rfl ?_
                  refine q_imul (a2.toInt * 8) rfl (by omega) (fun v1090 hv1090 => ?_)
                  refine r_iload_n rfl ?_
                  refine q_iadd (v1090.toInt + x1068.toInt) rfl (by omega) (fun v1091 hv1091 => ?_)
                  obtain ⟨v1092, hv1092⟩ : ∃ v, eA g1069 203 (8 * a2.toInt + x1068.toInt) = v := ⟨_, rfl⟩
                  refine q_iald (Sh.arr hI1070.1 ka_203) (8 * a2.toInt + x1068.toInt) (by omega) (by omega) v1092 hv1092 ?_
                  refine q_ireti ?_
                  refine At.enter rfl ?_
                  refine r_iload_n e1076 ?_
                  refine r_ics 68 rfl (fun c1093 => ?_) (fun c1093 => ?_)
                  · have c1093_ : v1092.toInt ≠ a1.toInt := en_i_ne_t c1093
                    refine At.enter rfl ?_
                    refine q_iinc e1081 (x1068.toInt + 1) rfl (by omega) (fun v1094 hv1094 => ?_)
                    refine r_goto ?_
                    have bv1095 := q_bnd x1067
                    exact ih1074 (8 - v1094.toInt) _ _ ⟨x1067, v1094, by first | rfl | omega, hI1070, hF1071, (w_p1 (by decide) (Or.inr rfl) e1075), (w_p1 (by decide) (Or.inr rfl) e1076), (w_p1 (by decide) (Or.inr rfl) e1077), (w_p1 (by decide) (Or.inr rfl) e1078), (w_p1 (by decide) (Or.inr rfl) e1079), (w_p1 (by decide) (Or.inr rfl) e1080), (w_e1 _ _ _), by omega⟩ ⟨by omega, by omega⟩
                  · have c1093_ : v1092.toInt = a1.toInt := en_i_ne_f c1093
                    refine At.enter rfl ?_
                    refine r_iload e1080 ?_
                    refine r_iload_n e1078 ?_
                    refine r_ifs 74 rfl (fun c1096 => ?_) (fun c1096 => ?_)
                    · have c1096_ : a3.toInt ≠ 0 := en_k_ne_t c1096
                      refine At.enter rfl ?_
                      refine r_aload_n e1075 ?_
                      refine q_getR (Sh.ref hI1070.1 kx_0 rfl) ?_
                      refine r_iload e1081 ?_
                      refine r_iconst 0 rfl ?_
                      refine r_callV 88 rfl [.ref 1, .int x1068, .int 0] [.int x1067] (Nat.le_of_ble_eq_true rfl) rfl (T_X0_about_1 _ hI1070 x1068 0) ?_
                      rintro _ _ ⟨g1097, rfl, hI1098, hF1099, v1100, rfl, hr1101⟩
                      refine At.sti ?_
                      have hF1102 := Fr.tr hF1071 hF1099 rfl rfl
                      have zv1103 : (0 : Int32).toInt = 0 := rfl
                      refine At.enter rfl ?_
                      refine q_iaddO (fun v1104 _ => ?_)
                      refine r_istore _ rfl ?_
                      refine Ar.fall 91 rfl ?_
                      refine At.enter rfl ?_
                      refine q_iinc (w_p1 (by decide) (Or.inr rfl) e1081) (x1068.toInt + 1) rfl (by omega) (fun v1105 hv1105 => ?_)
                      refine r_goto ?_
                      have bv1106 := q_bnd v1104
                      exact ih1074 (8 - v1105.toInt) _ _ ⟨v1104, v1105, by first | rfl | omega, hI1098, hF1102, (w_p1 (by decide) (Or.inr rfl) (w_p1 (by decide) (Or.inr rfl) e1075)), (w_p1 (by decide) (Or.inr rfl) (w_p1 (by decide) (Or.inr rfl) e1076)), (w_p1 (by decide) (Or.inr rfl) (w_p1 (by decide) (Or.inr rfl) e1077)), (w_p1 (by decide) (Or.inr rfl) (w_p1 (by decide) (Or.inr rfl) e1078)), (w_p1 (by decide) (Or.inr rfl) (w_p1 (by decide) (Or.inr rfl) e1079)), (w_p1 (by decide) (Or.inr rfl) (w_e1 _ _ _)), (w_e1 _ _ _), by omega⟩ ⟨by omega, by omega⟩
                    · have c1096_ : a3.toInt = 0 := en_k_ne_f c1096
                      refine At.enter rfl ?_
                      refine r_iconst 1 rfl ?_
                      refine r_goto ?_
                      refine At.enter rfl ?_
                      refine q_iaddO (fun v1107 _ => ?_)
                      refine r_istore _ rfl ?_
                      refine Ar.fall 91 rfl ?_
                      refine At.enter rfl ?_
                      refine q_iinc (w_p1 (by decide) (Or.inr rfl) e1081) (x1068.toInt + 1) rfl (by omega) (fun v1108 hv1108 => ?_)
                      refine r_goto ?_
                      have bv1109 := q_bnd v1107
                      exact ih1074 (8 - v1108.toInt) _ _ ⟨v1107, v1108, by first | rfl | omega, hI1070, hF1071, (w_p1 (by decide) (Or.inr rfl) (w_p1 (by decide) (Or.inr rfl) e1075)), (w_p1 (by decide) (Or.inr rfl) (w_p1 (by decide) (Or.inr rfl) e1076)), (w_p1 (by decide) (Or.inr rfl) (w_p1 (by decide) (Or.inr rfl) e1077)), (w_p1 (by decide) (Or.inr rfl) (w_p1 (by decide) (Or.inr rfl) e1078)), (w_p1 (by decide) (Or.inr rfl) (w_p1 (by decide) (Or.inr rfl) e1079)), (w_p1 (by decide) (Or.inr rfl) (w_e1 _ _ _)), (w_e1 _ _ _), by omega⟩ ⟨by omega, by omega⟩
              · have c897_ : v896.toInt = 0 := en_k_ne_f c897
                refine At.enter rfl ?_
                refine r_aload_n rfl ?_
                refine q_getR (Sh.ref hI0.1 kx_0 rfl) ?_
                refine r_iconst 0 rfl ?_
                refine r_callV 15 rfl [.ref 188, .int 0] [] (Nat.le_of_ble_eq_true rfl) rfl (T_X1_layOut_188 _ hI0 0) ?_
                rintro _ _ ⟨g1110, rfl, hI1111, hF1112, rfl⟩
                refine At.stn ?_
                have hF1115 := Fr.tr hF0 hF1112 rfl rfl
                refine At.enter rfl ?_
                refine r_aload_n rfl ?_
                refine q_getR (Sh.ref hI1111.1 kx_0 rfl) ?_
                refine r_callV 22 rfl [.ref 188] [] (Nat.le_of_ble_eq_true rfl) rfl (T_X1_runWhole_188 _ hI1111) ?_
                rintro _ _ ⟨g1116, rfl, hI1117, hF1118, rfl⟩
                refine At.stn ?_
                have hF1121 := Fr.tr hF1115 hF1118 rfl rfl
                refine At.enter rfl ?_
                refine r_aload_n rfl ?_
                refine r_iconst 1 rfl ?_
                refine q_putI (Sh.int hI1117.1 kx_0 rfl) rfl ?_
                have hI1122 := HI.wI0 hI1117 kx_0 rfl (p := 0) (b := 14) (v := 1) rfl
                have hF1123 := Fr.wI (p := 0) (b := 14) (v := 1) hF1121 rfl
                refine Ar.fall 27 rfl ?_
                refine At.enter rfl ?_
                refine r_aload_n rfl ?_
                refine q_getR (Sh.ref hI1122.1 kx_0 rfl) ?_
                refine q_aret ?_
                refine At.enter rfl ?_
                refine r_astore ([(4, .ref 188), (0, .ref 0), (1, .int a1), (2, .int a2), (3, .int a3)]) rfl ?_
                refine r_iconst 0 rfl ?_
                refine r_istore ([(5, .int 0), (4, .ref 188), (0, .ref 0), (1, .int a1), (2, .int a2), (3, .int a3)]) rfl ?_
                refine r_iconst 0 rfl ?_
                refine r_istore ([(6, .int 0), (5, .int 0), (4, .ref 188), (0, .ref 0), (1, .int a1), (2, .int a2), (3, .int a3)]) rfl ?_
                refine Ar.fall 44 rfl ?_
                have z_1309 : (0 : Int32).toInt = 0 := rfl
                have z_1310 : (0 : Int32).toInt = 0 := rfl
                refine w_loopI (fun n_ l_ g_ => ∃ x1293 : Int32, ∃ x1294 : Int32, n_ = 8 - x1294.toInt ∧ HI g_ ∧ Fr F_X10_held_0 A_X10_held_0 g0 g_ ∧ en_get 0 l_ = some (.ref 0) ∧ en_get 1 l_ = some (.int a1) ∧ en_get 2 l_ = some (.int a2) ∧ en_get 3 l_ = some (.int a3) ∧ en_get 4 l_ = some (.ref 188) ∧ en_get 5 l_ = some (.int x1293) ∧ en_get 6 l_ = some (.int x1294) ∧ (0 ≤ x1294.toInt ∧ x1294.toInt ≤ 8)) ?_ (8 - 0) ⟨0, 0, by first | rfl | omega, hI1122, hF1123, rfl, rfl, rfl, rfl, rfl, rfl, rfl, by decide⟩
                rintro n1299 l1298 g1295 ⟨x1293, x1294, hm1311, hI1296, hF1297, e1301, e1302, e1303, e1304, e1305, e1306, e1307, r1308⟩ ih1300
                refine At.enter rfl ?_
                refine r_iload e1307 ?_
                refine r_aload_n e1301 ?_
                refine q_getR (Sh.ref hI1296.1 kx_0 rfl) ?_
                obtain ⟨v1312, hv1312⟩ : ∃ v, gI g0 1 4 = v := ⟨_, rfl⟩
                have rv1312 := RgF.at hI0.2.1 (p := 1) (b := 4) rfl
                rw [hv1312] at rv1312
                dsimp only at rv1312
                refine q_getI (Sh.int hI1296.1 kx_1 rfl) v1312 ((hF1297.1 1 4 (by decide)).trans hv1312) ?_
                have bv1314 := q_bnd x1294
                have bv1315 := q_bnd v1312
                refine r_ics 56 rfl (fun c1313 => ?_) (fun c1313 => ?_)
                · have c1313_ : x1294.toInt ≥ v1312.toInt := en_i_ge_t c1313
                  refine At.enter rfl ?_
                  refine r_iload e1306 ?_
                  refine r_ireti ?_
                  exact ⟨_, rfl, hI1296, hF1297, _, rfl, trivial⟩
                · have c1313_ : x1294.toInt < v1312.toInt := en_i_ge_f c1313
                  refine At.enter rfl ?_
                  refine r_aload e1305 ?_
                  refine r_iload e1307 ?_
                  refine r_iload_n e1303 ?_
                  refine q_inlV 64 rfl [.ref 188, .int x1294, .int a2] [] (Nat.le_of_ble_eq_true rfl) rfl ?_
                  refine Ev.mk rfl rfl ⟨Nat.le_of_ble_eq_true rfl, Or.inr (q_rc hI1296.1 kx_188 rfl)⟩ ?_
                  show At _ none _ _ (0, [(0, .ref 188), (1, .int x1294), (2, .int a2)], [], (_, _)) _
                  refine At.enter rfl ?_
                  refine r_aload_n rfl ?_
                  refine q_getR (Sh.ref hI1296.1 kx_188 rfl) ?_
                  refine r_iload_n rfl ?_
                  refine r_bipush 8 rfl ?_
                  refine q_imul (a2.toInt * 8) rfl (by omega) (fun v1316 hv1316 => ?_)
                  refine r_iload_n rfl ?_
                  refine q_iadd (v1316.toInt + x1294.toInt) rfl (by omega) (fun v1317 hv1317 => ?_)
                  obtain ⟨v1318, hv1318⟩ : ∃ v, eA g1295 203 (8 * a2.toInt + x1294.toInt) = v := ⟨_, rfl⟩
                  refine q_iald (Sh.arr hI1296.1 ka_203) (8 * a2.toInt + x1294.toInt) (by omega) (by omega) v1318 hv1318 ?_
                  refine q_ireti ?_
                  refine At.enter rfl ?_
                  refine r_iload_n e1302 ?_
                  refine r_ics 68 rfl (fun c1319 => ?_) (fun c1319 => ?_)
                  · have c1319_ : v1318.toInt ≠ a1.toInt := en_i_ne_t c1319
                    refine At.enter rfl ?_
                    refine q_iinc e1307 (x1294.toInt + 1) rfl (by omega) (fun v1320 hv1320 => ?_)
                    refine r_goto ?_
                    have bv1321 := q_bnd x1293
                    exact ih1300 (8 - v1320.toInt) _ _ ⟨x1293, v1320, by first | rfl | omega, hI1296, hF1297, (w_p1 (by decide) (Or.inr rfl) e1301), (w_p1 (by decide) (Or.inr rfl) e1302), (w_p1 (by decide) (Or.inr rfl) e1303), (w_p1 (by decide) (Or.inr rfl) e1304), (w_p1 (by decide) (Or.inr rfl) e1305), (w_p1 (by decide) (Or.inr rfl) e1306), (w_e1 _ _ _), by omega⟩ ⟨by omega, by omega⟩
                  · have c1319_ : v1318.toInt = a1.toInt := en_i_ne_f c1319
                    refine At.enter rfl ?_
                    refine r_iload e1306 ?_
                    refine r_iload_n e1304 ?_
                    refine r_ifs 74 rfl (fun c1322 => ?_) (fun c1322 => ?_)
                    · have c1322_ : a3.toInt ≠ 0 := en_k_ne_t c1322
                      refine At.enter rfl ?_
                      refine r_aload_n e1301 ?_
                      refine q_getR (Sh.ref hI1296.1 kx_0 rfl) ?_
                      refine r_iload e1307 ?_
                      refine r_iconst 0 rfl ?_
                      refine r_callV 88 rfl [.ref 1, .int x1294, .int 0] [.int x1293] (Nat.le_of_ble_eq_true rfl) rfl (T_X0_about_1 _ hI1296 x1294 0) ?_
                      rintro _ _ ⟨g1323, rfl, hI1324, hF1325, v1326, rfl, hr1327⟩
                      refine At.sti ?_
                      have hF1328 := Fr.tr hF1297 hF1325 rfl rfl
                      have zv1329 : (0 : Int32).toInt = 0 := rfl
                      refine At.enter rfl ?_
                      refine q_iaddO (fun v1330 _ => ?_)
                      refine r_istore _ rfl ?_
                      refine Ar.fall 91 rfl ?_
                      refine At.enter rfl ?_
                      refine q_iinc (w_p1 (by decide) (Or.inr rfl) e1307) (x1294.toInt + 1) rfl (by omega) (fun v1331 hv1331 => ?_)
                      refine r_goto ?_
                      have bv1332 := q_bnd v1330
                      exact ih1300 (8 - v1331.toInt) _ _ ⟨v1330, v1331, by first | rfl | omega, hI1324, hF1328, (w_p1 (by decide) (Or.inr rfl) (w_p1 (by decide) (Or.inr rfl) e1301)), (w_p1 (by decide) (Or.inr rfl) (w_p1 (by decide) (Or.inr rfl) e1302)), (w_p1 (by decide) (Or.inr rfl) (w_p1 (by decide) (Or.inr rfl) e1303)), (w_p1 (by decide) (Or.inr rfl) (w_p1 (by decide) (Or.inr rfl) e1304)), (w_p1 (by decide) (Or.inr rfl) (w_p1 (by decide) (Or.inr rfl) e1305)), (w_p1 (by decide) (Or.inr rfl) (w_e1 _ _ _)), (w_e1 _ _ _), by omega⟩ ⟨by omega, by omega⟩
                    · have c1322_ : a3.toInt = 0 := en_k_ne_f c1322
                      refine At.enter rfl ?_
                      refine r_iconst 1 rfl ?_
                      refine r_goto ?_
                      refine At.enter rfl ?_
                      refine q_iaddO (fun v1333 _ => ?_)
                      refine r_istore _ rfl ?_
                      refine Ar.fall 91 rfl ?_
                      refine At.enter rfl ?_
                      refine q_iinc (w_p1 (by decide) (Or.inr rfl) e1307) (x1294.toInt + 1) rfl (by omega) (fun v1334 hv1334 => ?_)
                      refine r_goto ?_
                      have bv1335 := q_bnd v1333
                      exact ih1300 (8 - v1334.toInt) _ _ ⟨v1333, v1334, by first | rfl | omega, hI1296, hF1297, (w_p1 (by decide) (Or.inr rfl) (w_p1 (by decide) (Or.inr rfl) e1301)), (w_p1 (by decide) (Or.inr rfl) (w_p1 (by decide) (Or.inr rfl) e1302)), (w_p1 (by decide) (Or.inr rfl) (w_p1 (by decide) (Or.inr rfl) e1303)), (w_p1 (by decide) (Or.inr rfl) (w_p1 (by decide) (Or.inr rfl) e1304)), (w_p1 (by decide) (Or.inr rfl) (w_p1 (by decide) (Or.inr rfl) e1305)), (w_p1 (by decide) (Or.inr rfl) (w_e1 _ _ _)), (w_e1 _ _ _), by omega⟩ ⟨by omega, by omega⟩
