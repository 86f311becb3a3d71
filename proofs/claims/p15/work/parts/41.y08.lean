def F_X10_held_0 : List (Nat × Nat) := [(0, 14), (185, 3), (188, 16), (188, 18)]
def A_X10_held_0 : List Nat := [189, 190, 191, 192, 193, 194, 195, 196, 197, 198, 199, 200, 202, 203]
set_option maxRecDepth 100000 in
set_option maxHeartbeats 4000000 in
theorem T_X10_held_0 (d : Nat) {N : Nat} {g0 : List en_E} (hI0 : HI g0) (a1 : Int32) (a2 : Int32) (a3 : Int32) : Ev (d + 7) 122 [.ref 0, .int a1, .int a2, .int a3] (g0, N) (fun w h' => ∃ g', h' = (g', N) ∧ HI g' ∧ Fr F_X10_held_0 A_X10_held_0 g0 g' ∧ ∃ r : Int32, w = some (.int r) ∧ True) := by
  have hF0 : Fr F_X10_held_0 A_X10_held_0 g0 g0 := Fr.rf
  refine Ev.mk rfl rfl ⟨Nat.le_of_ble_eq_true rfl, Or.inr (q_rc hI0.1 kx_0 rfl)⟩ ?_
  show At _ none _ _ (0, [(0, .ref 0), (1, .int a1), (2, .int a2), (3, .int a3)], [], (_, _)) _
  refine At.enter rfl ?_
  refine r_aload_n rfl ?_
  refine q_getR (Sh.ref hI0.1 kx_0 rfl) ?_
  refine r_iload_n rfl ?_
  refine q_inlV 8 rfl [.ref 1, .int a1] [] (Nat.le_of_ble_eq_true rfl) rfl ?_
  refine Ev.mk rfl rfl ⟨Nat.le_of_ble_eq_true rfl, Or.inr (q_rc hI0.1 kx_1 rfl)⟩ ?_
  show At _ none _ _ (0, [(0, .ref 1), (1, .int a1)], [], (_, _)) _
  refine At.enter rfl ?_
  refine r_iload_n rfl ?_
  refine r_ifs 4 rfl (fun c855 => ?_) (fun c855 => ?_)
  · have c855_ : a1.toInt < 0 := en_k_lt_t c855
    refine At.enter rfl ?_
    refine r_iconst 0 rfl ?_
    refine Ar.fall 17 rfl ?_
    refine At.enter rfl ?_
    refine q_iretz (by decide) ?_
    refine At.enter rfl ?_
    refine r_ift (by decide) ?_
    refine At.enter rfl ?_
    refine r_iconst (-1) rfl ?_
    refine r_ireti ?_
    exact ⟨_, rfl, hI0, hF0, _, rfl, trivial⟩
  · have c855_ : a1.toInt ≥ 0 := en_k_lt_f c855
    refine At.enter rfl ?_
    refine r_iload_n rfl ?_
    refine r_aload_n rfl ?_
    obtain ⟨v856, hv856⟩ : ∃ v, gI g0 1 0 = v := ⟨_, rfl⟩
    have rv856 := RgF.at hI0.2.1 (p := 1) (b := 0) rfl
    rw [hv856] at rv856
    dsimp only at rv856
    refine q_getI (Sh.int hI0.1 kx_1 rfl) v856 hv856 ?_
    have bv858 := q_bnd a1
    have bv859 := q_bnd v856
    refine r_ics 12 rfl (fun c857 => ?_) (fun c857 => ?_)
    · have c857_ : a1.toInt ≥ v856.toInt := en_i_ge_t c857
      refine At.enter rfl ?_
      refine r_iconst 0 rfl ?_
      refine Ar.fall 17 rfl ?_
      refine At.enter rfl ?_
      refine q_iretz (by decide) ?_
      refine At.enter rfl ?_
      refine r_ift (by decide) ?_
      refine At.enter rfl ?_
      refine r_iconst (-1) rfl ?_
      refine r_ireti ?_
      exact ⟨_, rfl, hI0, hF0, _, rfl, trivial⟩
    · have c857_ : a1.toInt < v856.toInt := en_i_ge_f c857
      refine At.enter rfl ?_
      refine r_iconst 1 rfl ?_
      refine r_goto ?_
      refine At.enter rfl ?_
      refine q_iretz (by decide) ?_
      refine At.enter rfl ?_
      refine r_iff 11 rfl (by decide) ?_
      refine At.enter rfl ?_
      refine r_iload_n rfl ?_
      refine r_iconst 0 rfl ?_
      refine r_bipush 99 rfl ?_
      refine q_inlS 18 rfl [.int a2, .int 0, .int 99] [] (Nat.le_of_ble_eq_true rfl) rfl ?_
      refine Ev.mk rfl rfl ⟨Nat.le_of_ble_eq_true rfl, Or.inl rfl⟩ ?_
      show At _ none _ _ (0, [(0, .int a2), (1, .int 0), (2, .int 99)], [], (_, _)) _
      refine At.enter rfl ?_
      refine r_iload_n rfl ?_
      refine r_iload_n rfl ?_
      refine r_ics 5 rfl (fun c860 => ?_) (fun c860 => ?_)
      · have c860_ : a2.toInt < 0 := en_i_lt_t c860
        refine At.enter rfl ?_
        refine r_iconst 0 rfl ?_
        refine Ar.fall 15 rfl ?_
        refine At.enter rfl ?_
        refine q_iretz (by decide) ?_
        refine At.enter rfl ?_
        refine r_ift (by decide) ?_
        refine At.enter rfl ?_
        refine r_iconst (-1) rfl ?_
        refine r_ireti ?_
        exact ⟨_, rfl, hI0, hF0, _, rfl, trivial⟩
      · have c860_ : a2.toInt ≥ 0 := en_i_lt_f c860
        refine At.enter rfl ?_
        refine r_iload_n rfl ?_
        refine r_iload_n rfl ?_
        refine r_ics 10 rfl (fun c861 => ?_) (fun c861 => ?_)
        · have c861_ : a2.toInt > 99 := en_i_gt_t c861
          refine At.enter rfl ?_
          refine r_iconst 0 rfl ?_
          refine Ar.fall 15 rfl ?_
          refine At.enter rfl ?_
          refine q_iretz (by decide) ?_
          refine At.enter rfl ?_
          refine r_ift (by decide) ?_
          refine At.enter rfl ?_
          refine r_iconst (-1) rfl ?_
          refine r_ireti ?_
          exact ⟨_, rfl, hI0, hF0, _, rfl, trivial⟩
        · have c861_ : a2.toInt ≤ 99 := en_i_gt_f c861
          refine At.enter rfl ?_
          refine r_iconst 1 rfl ?_
          refine r_goto ?_
          refine At.enter rfl ?_
          refine q_iretz (by decide) ?_
          refine At.enter rfl ?_
          refine r_iff 21 rfl (by decide) ?_
          refine At.enter rfl ?_
          refine r_iload_n rfl ?_
          refine r_iconst 0 rfl ?_
          refine r_iconst 1 rfl ?_
          refine q_inlS 27 rfl [.int a3, .int 0, .int 1] [] (Nat.le_of_ble_eq_true rfl) rfl ?_
          refine Ev.mk rfl rfl ⟨Nat.le_of_ble_eq_true rfl, Or.inl rfl⟩ ?_
          show At _ none _ _ (0, [(0, .int a3), (1, .int 0), (2, .int 1)], [], (_, _)) _
          refine At.enter rfl ?_
          refine r_iload_n rfl ?_
          refine r_iload_n rfl ?_
          refine r_ics 5 rfl (fun c862 => ?_) (fun c862 => ?_)
          · have c862_ : a3.toInt < 0 := en_i_lt_t c862
            refine At.enter rfl ?_
            refine r_iconst 0 rfl ?_
            refine Ar.fall 15 rfl ?_
            refine At.enter rfl ?_
            refine q_iretz (by decide) ?_
            refine At.enter rfl ?_
            refine r_iff 30 rfl (by decide) ?_
            refine At.enter rfl ?_
            refine r_iconst (-1) rfl ?_
            refine r_ireti ?_
            exact ⟨_, rfl, hI0, hF0, _, rfl, trivial⟩
          · have c862_ : a3.toInt ≥ 0 := en_i_lt_f c862
            refine At.enter rfl ?_
            refine r_iload_n rfl ?_
            refine r_iload_n rfl ?_
            refine r_ics 10 rfl (fun c863 => ?_) (fun c863 => ?_)
            · have c863_ : a3.toInt > 1 := en_i_gt_t c863
              refine At.enter rfl ?_
              refine r_iconst 0 rfl ?_
              refine Ar.fall 15 rfl ?_
              refine At.enter rfl ?_
              refine q_iretz (by decide) ?_
              refine At.enter rfl ?_
              refine r_iff 30 rfl (by decide) ?_
              refine At.enter rfl ?_
              refine r_iconst (-1) rfl ?_
              refine r_ireti ?_
              exact ⟨_, rfl, hI0, hF0, _, rfl, trivial⟩
            · have c863_ : a3.toInt ≤ 1 := en_i_gt_f c863
              refine At.enter rfl ?_
              refine r_iconst 1 rfl ?_
              refine r_goto ?_
              refine At.enter rfl ?_
              refine q_iretz (by decide) ?_
              refine At.enter rfl ?_
              refine r_ift (by decide) ?_
              refine At.enter rfl ?_
              refine r_aload_n rfl ?_
              refine q_inlV 36 rfl [.ref 0] [] (Nat.le_of_ble_eq_true rfl) rfl ?_
              refine Ev.mk rfl rfl ⟨Nat.le_of_ble_eq_true rfl, Or.inr (q_rc hI0.1 kx_0 rfl)⟩ ?_
              show At _ none _ _ (0, [(0, .ref 0)], [], (_, _)) _
              refine At.enter rfl ?_
              refine r_aload_n rfl ?_
              obtain ⟨v864, hv864⟩ : ∃ v, gI g0 0 14 = v := ⟨_, rfl⟩
              refine q_getI (Sh.int hI0.1 kx_0 rfl) v864 hv864 ?_
              refine r_ifs 7 rfl (fun c865 => ?_) (fun c865 => ?_)
              · have c865_ : v864.toInt ≠ 0 := en_k_ne_t c865
                refine At.enter rfl ?_
                refine r_aload_n rfl ?_
                refine q_getR (Sh.ref hI0.1 kx_0 rfl) ?_
                refine q_aret ?_
                refine At.enter rfl ?_
                refine r_astore ([(4, .ref 188), (0, .ref 0), (1, .int a1), (2, .int a2), (3, .int a3)]) rfl ?_
                refine r_iconst 0 rfl ?_
                refine r_istore ([(5, .int 0), (4, .ref 188), (0, .ref 0), (1, .int a1), (2, .int a2), (3, .int a3)]) rfl ?_
                refine r_iconst 0 rfl ?_
                refine r_istore ([(6, .int 0), (5, .int 0), (4, .ref 188), (0, .ref 0), (1, .int a1), (2, .int a2), (3, .int a3)]) rfl ?_
                refine Ar.fall 44 rfl ?_
                have z_1044 : (0 : Int32).toInt = 0 := rfl
                have z_1045 : (0 : Int32).toInt = 0 := rfl
                refine w_loopI (fun n_ l_ g_ => ∃ x1028 : Int32, ∃ x1029 : Int32, n_ = 8 - x1029.toInt ∧ HI g_ ∧ Fr F_X10_held_0 A_X10_held_0 g0 g_ ∧ en_get 0 l_ = some (.ref 0) ∧ en_get 1 l_ = some (.int a1) ∧ en_get 2 l_ = some (.int a2) ∧ en_get 3 l_ = some (.int a3) ∧ en_get 4 l_ = some (.ref 188) ∧ en_get 5 l_ = some (.int x1028) ∧ en_get 6 l_ = some (.int x1029) ∧ (0 ≤ x1029.toInt ∧ x1029.toInt ≤ 8)) ?_ (8 - 0) ⟨0, 0, by first | rfl | omega, hI0, hF0, rfl, rfl, rfl, rfl, rfl, rfl, rfl, by decide⟩
                rintro n1034 l1033 g1030 ⟨x1028, x1029, hm1046, hI1031, hF1032, e1036, e1037, e1038, e1039, e1040, e1041, e1042, r1043⟩ ih1035
                refine At.enter rfl ?_
                refine r_iload e1042 ?_
                refine r_aload_n e1036 ?_
                refine q_getR (Sh.ref hI1031.1 kx_0 rfl) ?_
                obtain ⟨v1047, hv1047⟩ : ∃ v, gI g0 1 4 = v := ⟨_, rfl⟩
                have rv1047 := RgF.at hI0.2.1 (p := 1) (b := 4) rfl
                rw [hv1047] at rv1047
                dsimp only at rv1047
                refine q_getI (Sh.int hI1031.1 kx_1 rfl) v1047 ((hF1032.1 1 4 (by decide)).trans hv1047) ?_
                have bv1049 := q_bnd x1029
                have bv1050 := q_bnd v1047
                refine r_ics 56 rfl (fun c1048 => ?_) (fun c1048 => ?_)
                · have c1048_ : x1029.toInt ≥ v1047.toInt := en_i_ge_t c1048
                  refine At.enter rfl ?_
                  refine r_iload e1041 ?_
                  refine r_ireti ?_
                  exact ⟨_, rfl, hI1031, hF1032, _, rfl, trivial⟩
                · have c1048_ : x1029.toInt < v1047.toInt := en_i_ge_f c1048
                  refine At.enter rfl ?_
                  refine r_aload e1040 ?_
                  refine r_iload e1042 ?_
                  refine r_iload_n e1038 ?_
                  refine q_inlV 64 rfl [.ref 188, .int x1029, .int a2] [] (Nat.le_of_ble_eq_true rfl) rfl ?_
                  refine Ev.mk rfl rfl ⟨Nat.le_of_ble_eq_true rfl, Or.inr (q_rc hI1031.1 kx_188 rfl)⟩ ?_
                  show At _ none _ _ (0, [(0, .ref 188), (1, .int x1029), (2, .int a2)], [], (_, _)) _
                  refine At.enter rfl ?_
                  refine r_aload_n rfl ?_
                  refine q_getR (Sh.ref hI1031.1 kx_188 rfl) ?_
                  refine r_iload_n rfl ?_
                  refine r_bipush 8 rfl ?_
                  refine q_imul (a2.toInt * 8) rfl (by omega) (fun v1051 hv1051 => ?_)
                  refine r_iload_n rfl ?_
                  refine q_iadd (v1051.toInt + x1029.toInt) rfl (by omega) (fun v1052 hv1052 => ?_)
                  obtain ⟨v1053, hv1053⟩ : ∃ v, eA g1030 203 (8 * a2.toInt + x1029.toInt) = v := ⟨_, rfl⟩
                  refine q_iald (Sh.arr hI1031.1 ka_203) (8 * a2.toInt + x1029.toInt) (by omega) (by omega) v1053 hv1053 ?_
                  refine q_ireti ?_
                  refine At.enter rfl ?_
                  refine r_iload_n e1037 ?_
                  refine r_ics 68 rfl (fun c1054 => ?_) (fun c1054 => ?_)
                  · have c1054_ : v1053.toInt ≠ a1.toInt := en_i_ne_t c1054
                    refine At.enter rfl ?_
                    refine q_iinc e1042 (x1029.toInt + 1) rfl (by omega) (fun v1055 hv1055 => ?_)
                    refine r_goto ?_
                    have bv1056 := q_bnd x1028
                    exact ih1035 (8 - v1055.toInt) _ _ ⟨x1028, v1055, by first | rfl | omega, hI1031, hF1032, (w_p1 (by decide) (Or.inr rfl) e1036), (w_p1 (by decide) (Or.inr rfl) e1037), (w_p1 (by decide) (Or.inr rfl) e1038), (w_p1 (by decide) (Or.inr rfl) e1039), (w_p1 (by decide) (Or.inr rfl) e1040), (w_p1 (by decide) (Or.inr rfl) e1041), (w_e1 _ _ _), by omega⟩ ⟨by omega, by omega⟩
                  · have c1054_ : v1053.toInt = a1.toInt := en_i_ne_f c1054
                    refine At.enter rfl ?_
                    refine r_iload e1041 ?_
                    refine r_iload_n e1039 ?_
                    refine r_ifs 74 rfl (fun c1057 => ?_) (fun c1057 => ?_)
                    · have c1057_ : a3.toInt ≠ 0 := en_k_ne_t c1057
                      refine At.enter rfl ?_
                      refine r_aload_n e1036 ?_
                      refine q_getR (Sh.ref hI1031.1 kx_0 rfl) ?_
                      refine r_iload e1042 ?_
                      refine r_iconst 0 rfl ?_
                      refine r_callV 88 rfl [.ref 1, .int x1029, .int 0] [.int x1028] (Nat.le_of_ble_eq_true rfl) rfl (T_X0_about_1 _ hI1031 x1029 0) ?_
                      rintro _ _ ⟨g1058, rfl, hI1059, hF1060, v1061, rfl, hr1062⟩
                      refine At.sti ?_
                      have hF1063 := Fr.tr hF1032 hF1060 rfl rfl
                      refine At.enter rfl ?_
                      refine q_iaddO (fun v1064 _ => ?_)
                      refine r_istore _ rfl ?_
                      refine Ar.fall 91 rfl ?_
                      refine At.enter rfl ?_
                      refine q_iinc (w_p1 (by decide) (Or.inr rfl) e1042) (x1029.toInt + 1) rfl (by omega) (fun v1065 hv1065 => ?_)
                      refine r_goto ?_
                      have bv1066 := q_bnd v1064
                      exact ih1035 (8 - v1065.toInt) _ _ ⟨v1064, v1065, by first | rfl | omega, hI1059, hF1063, (w_p1 (by decide) (Or.inr rfl) (w_p1 (by decide) (Or.inr rfl) e1036)), (w_p1 (by decide) (Or.inr rfl) (w_p1 (by decide) (Or.inr rfl) e1037)), (w_p1 (by decide) (Or.inr rfl) (w_p1 (by decide) (Or.inr rfl) e1038)), (w_p1 (by decide) (Or.inr rfl) (w_p1 (by decide) (Or.inr rfl) e1039)), (w_p1 (by decide) (Or.inr rfl) (w_p1 (by decide) (Or.inr rfl) e1040)), (w_p1 (by decide) (Or.inr rfl) (w_e1 _ _ _)), (w_e1 _ _ _), by omega⟩ ⟨by omega, by omega⟩
                    · have c1057_ : a3.toInt = 0 := en_k_ne_f c1057
                      refine At.enter rfl ?_
                      refine r_iconst 1 rfl ?_
                      refine r_goto ?_
                      refine At.enter rfl ?_
                      refine q_iaddO (fun v1067 _ => ?_)
                      refine r_istore _ rfl ?_
                      refine Ar.fall 91 rfl ?_
                      refine At.enter rfl ?_
                      refine q_iinc (w_p1 (by decide) (Or.inr rfl) e1042) (x1029.toInt + 1) rfl (by omega) (fun v1068 hv1068 => ?_)
                      refine r_goto ?_
                      have bv1069 := q_bnd v1067
                      exact ih1035 (8 - v1068.toInt) _ _ ⟨v1067, v1068, by first | rfl | omega, hI1031, hF1032, (w_p1 (by decide) (Or.inr rfl) (w_p1 (by decide) (Or.inr rfl) e1036)), (w_p1 (by decide) (Or.inr rfl) (w_p1 (by decide) (Or.inr rfl) e1037)), (w_p1 (by decide) (Or.inr rfl) (w_p1 (by decide) (Or.inr rfl) e1038)), (w_p1 (by decide) (Or.inr rfl) (w_p1 (by decide) (Or.inr rfl) e1039)), (w_p1 (by decide) (Or.inr rfl) (w_p1 (by decide) (Or.inr rfl) e1040)), (w_p1 (by decide) (Or.inr rfl) (w_e1 _ _ _)), (w_e1 _ _ _), by omega⟩ ⟨by omega, by omega⟩
              · have c865_ : v864.toInt = 0 := en_k_ne_f c865
                refine At.enter rfl ?_
                refine r_aload_n rfl ?_
                refine q_getR (Sh.ref hI0.1 kx_0 rfl) ?_
                refine r_iconst 0 rfl ?_
                refine r_callV 15 rfl [.ref 188, .int 0] [] (Nat.le_of_ble_eq_true rfl) rfl (T_X1_layOut_188 _ hI0 0) ?_
                rintro _ _ ⟨g1070, rfl, hI1071, hF1072, rfl⟩
                refine At.stn ?_
                have hF1075 := Fr.tr hF0 hF1072 rfl rfl
                refine At.enter rfl ?_
                refine r_aload_n rfl ?_
                refine q_getR (Sh.ref hI1071.1 kx_0 rfl) ?_
                refine r_callV 22 rfl [.ref 188] [] (Nat.le_of_ble_eq_true rfl) rfl (T_X1_runWhole_188 _ hI1071) ?_
                rintro _ _ ⟨g1076, rfl, hI1077, hF1078, rfl⟩
                refine At.stn ?_
                have hF1081 := Fr.tr hF1075 hF1078 rfl rfl
                refine At.enter rfl ?_
                refine r_aload_n rfl ?_
                refine r_iconst 1 rfl ?_
                refine q_putI (Sh.int hI1077.1 kx_0 rfl) rfl ?_
                have hI1082 := HI.wI0 hI1077 kx_0 rfl (p := 0) (b := 14) (v := 1) rfl
                have hF1083 := Fr.wI (p := 0) (b := 14) (v := 1) hF1081 rfl
                refine Ar.fall 27 rfl ?_
                refine At.enter rfl ?_
                refine r_aload_n rfl ?_
                refine q_getR (Sh.ref hI1082.1 kx_0 rfl) ?_
                refine q_aret ?_
                refine At.enter rfl ?_
                refine r_astore ([(4, .ref 188), (0, .ref 0), (1, .int a1), (2, .int a2), (3, .int a3)]) rfl ?_
                refine r_iconst 0 rfl ?_
                refine r_istore ([(5, .int 0), (4, .ref 188), (0, .ref 0), (1, .int a1), (2, .int a2), (3, .int a3)]) rfl ?_
                refine r_iconst 0 rfl ?_
                refine r_istore ([(6, .int 0), (5, .int 0), (4, .ref 188), (0, .ref 0), (1, .int a1), (2, .int a2), (3, .int a3)]) rfl ?_
                refine Ar.fall 44 rfl ?_
                have z_1262 : (0 : Int32).toInt = 0 := rfl
                have z_1263 : (0 : Int32).toInt = 0 := rfl
                refine w_loopI (fun n_ l_ g_ => ∃ x1246 : Int32, ∃ x1247 : Int32, n_ = 8 - x1247.toInt ∧ HI g_ ∧ Fr F_X10_held_0 A_X10_held_0 g0 g_ ∧ en_get 0 l_ = some (.ref 0) ∧ en_get 1 l_ = some (.int a1) ∧ en_get 2 l_ = some (.int a2) ∧ en_get 3 l_ = some (.int a3) ∧ en_get 4 l_ = some (.ref 188) ∧ en_get 5 l_ = some (.int x1246) ∧ en_get 6 l_ = some (.int x1247) ∧ (0 ≤ x1247.toInt ∧ x1247.toInt ≤ 8)) ?_ (8 - 0) ⟨0, 0, by first | rfl | omega, hI1082, hF1083, rfl, rfl, rfl, rfl, rfl, rfl, rfl, by decide⟩
                rintro n1252 l1251 g1248 ⟨x1246, x1247, hm1264, hI1249, hF1250, e1254, e1255, e1256, e1257, e1258, e1259, e1260, r1261⟩ ih1253
                refine At.enter rfl ?_
                refine r_iload e1260 ?_
                refine r_aload_n e1254 ?_
                refine q_getR (Sh.ref hI1249.1 kx_0 rfl) ?_
                obtain ⟨v1265, hv1265⟩ : ∃ v, gI g0 1 4 = v := ⟨_, rfl⟩
                have rv1265 := RgF.at hI0.2.1 (p := 1) (b := 4) rfl
                rw [hv1265] at rv1265
                dsimp only at rv1265
                refine q_getI (Sh.int hI1249.1 kx_1 rfl) v1265 ((hF1250.1 1 4 (by decide)).trans hv1265) ?_
                have bv1267 := q_bnd x1247
                have bv1268 := q_bnd v1265
                refine r_ics 56 rfl (fun c1266 => ?_) (fun c1266 => ?_)
                · have c1266_ : x1247.toInt ≥ v1265.toInt := en_i_ge_t c1266
                  refine At.enter rfl ?_
                  refine r_iload e1259 ?_
                  refine r_ireti ?_
                  exact ⟨_, rfl, hI1249, hF1250, _, rfl, trivial⟩
                · have c1266_ : x1247.toInt < v1265.toInt := en_i_ge_f c1266
                  refine At.enter rfl ?_
                  refine r_aload e1258 ?_
                  refine r_iload e1260 ?_
                  refine r_iload_n e1256 ?_
                  refine q_inlV 64 rfl [.ref 188, .int x1247, .int a2] [] (Nat.le_of_ble_eq_true rfl) rfl ?_
                  refine Ev.mk rfl rfl ⟨Nat.le_of_ble_eq_true rfl, Or.inr (q_rc hI1249.1 kx_188 rfl)⟩ ?_
                  show At _ none _ _ (0, [(0, .ref 188), (1, .int x1247), (2, .int a2)], [], (_, _)) _
                  refine At.enter rfl ?_
                  refine r_aload_n rfl ?_
                  refine q_getR (Sh.ref hI1249.1 kx_188 rfl) ?_
                  refine r_iload_n rfl ?_
                  refine r_bipush 8 rfl ?_
                  refine q_imul (a2.toInt * 8) rfl (by omega) (fun v1269 hv1269 => ?_)
                  refine r_iload_n rfl ?_
                  refine q_iadd (v1269.toInt + x1247.toInt) rfl (by omega) (fun v1270 hv1270 => ?_)
                  obtain ⟨v1271, hv1271⟩ : ∃ v, eA g1248 203 (8 * a2.toInt + x1247.toInt) = v := ⟨_, rfl⟩
                  refine q_iald (Sh.arr hI1249.1 ka_203) (8 * a2.toInt + x1247.toInt) (by omega) (by omega) v1271 hv1271 ?_
                  refine q_ireti ?_
                  refine At.enter rfl ?_
                  refine r_iload_n e1255 ?_
                  refine r_ics 68 rfl (fun c1272 => ?_) (fun c1272 => ?_)
                  · have c1272_ : v1271.toInt ≠ a1.toInt := en_i_ne_t c1272
                    refine At.enter rfl ?_
                    refine q_iinc e1260 (x1247.toInt + 1) rfl (by omega) (fun v1273 hv1273 => ?_)
                    refine r_goto ?_
                    have bv1274 := q_bnd x1246
                    exact ih1253 (8 - v1273.toInt) _ _ ⟨x1246, v1273, by first | rfl | omega, hI1249, hF1250, (w_p1 (by decide) (Or.inr rfl) e1254), (w_p1 (by decide) (Or.inr rfl) e1255), (w_p1 (by decide) (Or.inr rfl) e1256), (w_p1 (by decide) (Or.inr rfl) e1257), (w_p1 (by decide) (Or.inr rfl) e1258), (w_p1 (by decide) (Or.inr rfl) e1259), (w_e1 _ _ _), by omega⟩ ⟨by omega, by omega⟩
                  · have c1272_ : v1271.toInt = a1.toInt := en_i_ne_f c1272
                    refine At.enter rfl ?_
                    refine r_iload e1259 ?_
                    refine r_iload_n e1257 ?_
                    refine r_ifs 74 rfl (fun c1275 => ?_) (fun c1275 => ?_)
                    · have c1275_ : a3.toInt ≠ 0 := en_k_ne_t c1275
                      refine At.enter rfl ?_
                      refine r_aload_n e1254 ?_
                      refine q_getR (Sh.ref hI1249.1 kx_0 rfl) ?_
                      refine r_iload e1260 ?_
                      refine r_iconst 0 rfl ?_
                      refine r_callV 88 rfl [.ref 1, .int x1247, .int 0] [.int x1246] (Nat.le_of_ble_eq_true rfl) rfl (T_X0_about_1 _ hI1249 x1247 0) ?_
                      rintro _ _ ⟨g1276, rfl, hI1277, hF1278, v1279, rfl, hr1280⟩
                      refine At.sti ?_
                      have hF1281 := Fr.tr hF1250 hF1278 rfl rfl
                      refine At.enter rfl ?_
                      refine q_iaddO (fun v1282 _ => ?_)
                      refine r_istore _ rfl ?_
                      refine Ar.fall 91 rfl ?_
                      refine At.enter rfl ?_
                      refine q_iinc (w_p1 (by decide) (Or.inr rfl) e1260) (x1247.toInt + 1) rfl (by omega) (fun v1283 hv1283 => ?_)
                      refine r_goto ?_
                      have bv1284 := q_bnd v1282
                      exact ih1253 (8 - v1283.toInt) _ _ ⟨v1282, v1283, by first | rfl | omega, hI1277, hF1281, (w_p1 (by decide) (Or.inr rfl) (w_p1 (by decide) (Or.inr rfl) e1254)), (w_p1 (by decide) (Or.inr rfl) (w_p1 (by decide) (Or.inr rfl) e1255)), (w_p1 (by decide) (Or.inr rfl) (w_p1 (by decide) (Or.inr rfl) e1256)), (w_p1 (by decide) (Or.inr rfl) (w_p1 (by decide) (Or.inr rfl) e1257)), (w_p1 (by decide) (Or.inr rfl) (w_p1 (by decide) (Or.inr rfl) e1258)), (w_p1 (by decide) (Or.inr rfl) (w_e1 _ _ _)), (w_e1 _ _ _), by omega⟩ ⟨by omega, by omega⟩
                    · have c1275_ : a3.toInt = 0 := en_k_ne_f c1275
                      refine At.enter rfl ?_
                      refine r_iconst 1 rfl ?_
                      refine r_goto ?_
                      refine At.enter rfl ?_
                      refine q_iaddO (fun v1285 _ => ?_)
                      refine r_istore _ rfl ?_
                      refine Ar.fall 91 rfl ?_
                      refine At.enter rfl ?_
                      refine q_iinc (w_p1 (by decide) (Or.inr rfl) e1260) (x1247.toInt + 1) rfl (by omega) (fun v1286 hv1286 => ?_)
                      refine r_goto ?_
                      have bv1287 := q_bnd v1285
                      exact ih1253 (8 - v1286.toInt) _ _ ⟨v1285, v1286, by first | rfl | omega, hI1249, hF1250, (w_p1 (by decide) (Or.inr rfl) (w_p1 (by decide) (Or.inr rfl) e1254)), (w_p1 (by decide) (Or.inr rfl) (w_p1 (by decide) (Or.inr rfl) e1255)), (w_p1 (by decide) (Or.inr rfl) (w_p1 (by decide) (Or.inr rfl) e1256)), (w_p1 (by decide) (Or.inr rfl) (w_p1 (by decide) (Or.inr rfl) e1257)), (w_p1 (by decide) (Or.inr rfl) (w_p1 (by decide) (Or.inr rfl) e1258)), (w_p1 (by decide) (Or.inr rfl) (w_e1 _ _ _)), (w_e1 _ _ _), by omega⟩ ⟨by omega, by omega⟩
