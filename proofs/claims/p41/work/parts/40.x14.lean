def F_X1_goOn_204 : List (Nat × Nat) := [(185, 3), (204, 18)]
def A_X1_goOn_204 : List Nat := [210, 211, 212, 213, 214, 215, 216]
theorem ma_X0_about_1_214 : memA A_X0_about_1 214 = false := by decide
theorem ma_X0_about_1_213 : memA A_X0_about_1 213 = false := by decide
theorem ma_X1_canHold_204_214 : memA A_X1_canHold_204 214 = false := by decide
theorem ma_X1_canHold_204_213 : memA A_X1_canHold_204 213 = false := by decide
theorem ma_X1_giveUp_204_210 : memA A_X1_giveUp_204 210 = false := by decide
theorem ma_X1_canHold_204_210 : memA A_X1_canHold_204 210 = false := by decide
theorem ma_X0_about_1_210 : memA A_X0_about_1 210 = false := by decide
theorem ma_X1_canHold_204_205 : memA A_X1_canHold_204 205 = false := by decide
theorem ma_X1_canHold_204_206 : memA A_X1_canHold_204 206 = false := by decide
theorem ma_X0_about_1_206 : memA A_X0_about_1 206 = false := by decide
theorem ma_X3_tells_185_214 : memA A_X3_tells_185 214 = false := by decide
theorem ma_X3_tells_185_213 : memA A_X3_tells_185 213 = false := by decide
theorem ma_X3_tells_185_210 : memA A_X3_tells_185 210 = false := by decide
set_option maxRecDepth 100000 in
set_option maxHeartbeats 4000000 in
theorem T_X1_goOn_204 (d : Nat) {N : Nat} {g0 : List en_E} (hI0 : HI g0) (a1 : Int32) : Ev (d + 4) 30 [.ref 204, .int a1] (g0, N) (fun w h' => ∃ g', h' = (g', N) ∧ HI g' ∧ Fr F_X1_goOn_204 A_X1_goOn_204 g0 g' ∧ w = none) := by
  have hF0 : Fr F_X1_goOn_204 A_X1_goOn_204 g0 g0 := Fr.rf
  refine Ev.mk rfl rfl ⟨Nat.le_of_ble_eq_true rfl, Or.inr (q_rc hI0.1 kx_204 rfl)⟩ ?_
  show At _ none _ _ (0, [(0, .ref 204), (1, .int a1)], [], (_, _)) _
  refine At.enter rfl ?_
  refine r_aload_n rfl ?_
  refine q_getR (Sh.ref hI0.1 kx_204 rfl) ?_
  refine q_inlV 7 rfl [.ref 1] [] (Nat.le_of_ble_eq_true rfl) rfl ?_
  refine Ev.mk rfl rfl ⟨Nat.le_of_ble_eq_true rfl, Or.inr (q_rc hI0.1 kx_1 rfl)⟩ ?_
  show At _ none _ _ (0, [(0, .ref 1)], [], (_, _)) _
  refine At.enter rfl ?_
  refine r_aload_n rfl ?_
  refine r_aload_n rfl ?_
  obtain ⟨v2707, hv2707⟩ : ∃ v, gI g0 1 9 = v := ⟨_, rfl⟩
  refine q_getI (Sh.int hI0.1 kx_1 rfl) v2707 hv2707 ?_
  refine r_callV 8 rfl [.ref 1, .int v2707] [] (Nat.le_of_ble_eq_true rfl) rfl (T_X0_lawAt_1 _ hI0 v2707) ?_
  rintro _ _ ⟨g2708, rfl, hI2709, hF2710, v2711, rfl, hr2712⟩
  refine At.str ?_
  have hF2713 := Fr.tr hF0 hF2710 rfl rfl
  refine At.enter rfl ?_
  refine q_aret ?_
  refine At.enter rfl ?_
  refine r_iconst 2 rfl ?_
  refine r_callV 11 rfl [.ref (v2711), .int 2] [] (Nat.le_of_ble_eq_true rfl) rfl (T_X4_speaksOf_law _ hI2709 (v2711) hr2712 2) ?_
  rintro _ _ ⟨g2714, rfl, hI2715, hF2716, v2717, rfl, hr2718⟩
  refine At.sti ?_
  have hF2719 := Fr.tr hF2713 hF2716 rfl rfl
  refine At.enter rfl ?_
  refine r_istore_n ([(2, .int v2717), (0, .ref 204), (1, .int a1)]) rfl ?_
  refine r_iconst 0 rfl ?_
  refine r_istore_n ([(3, .int 0), (2, .int v2717), (0, .ref 204), (1, .int a1)]) rfl ?_
  refine Ar.fall 14 rfl ?_
  have z_3894 : (0 : Int32).toInt = 0 := rfl
  refine w_loopI (fun n_ l_ g_ => ∃ x3882 : Int32, n_ = 8 - x3882.toInt ∧ HI g_ ∧ Fr F_X1_goOn_204 A_X1_goOn_204 g0 g_ ∧ en_get 0 l_ = some (.ref 204) ∧ en_get 1 l_ = some (.int a1) ∧ en_get 2 l_ = some (.int v2717) ∧ en_get 3 l_ = some (.int x3882) ∧ (0 ≤ x3882.toInt ∧ x3882.toInt ≤ 8)) ?_ (8 - 0) ⟨0, by first | rfl | omega, hI2715, hF2719, rfl, rfl, rfl, rfl, by decide⟩
  rintro n3887 l3886 g3883 ⟨x3882, hm3895, hI3884, hF3885, e3889, e3890, e3891, e3892, r3893⟩ ih3888
  refine At.enter rfl ?_
  refine r_iload_n e3892 ?_
  refine r_aload_n e3889 ?_
  obtain ⟨v3896, hv3896⟩ : ∃ v, gI g0 204 16 = v := ⟨_, rfl⟩
  have rv3896 := RgF.at hI0.2.1 (p := 204) (b := 16) rfl
  rw [hv3896] at rv3896
  dsimp only at rv3896
  refine q_getI (Sh.int hI3884.1 kx_204 rfl) v3896 ((hF3885.1 204 16 (by decide)).trans hv3896) ?_
  have bv3898 := q_bnd x3882
  have bv3899 := q_bnd v3896
  refine r_ics 22 rfl (fun c3897 => ?_) (fun c3897 => ?_)
  · have c3897_ : x3882.toInt ≥ v3896.toInt := en_i_ge_t c3897
    refine At.enter rfl ?_
    refine r_vret ?_
    exact ⟨_, rfl, hI3884, hF3885, rfl⟩
  · have c3897_ : x3882.toInt < v3896.toInt := en_i_ge_f c3897
    refine At.enter rfl ?_
    refine r_aload_n e3889 ?_
    refine q_getR (Sh.ref hI3884.1 kx_204 rfl) ?_
    refine r_iload_n e3892 ?_
    obtain ⟨v3900, hv3900⟩ : ∃ v, eA g0 218 x3882.toInt = v := ⟨_, rfl⟩
    have rv3900 := RgA.at hI0.2.2.1 (Sh.arr hI0.1 ka_218).2 (p := 218) rfl (j := x3882.toInt) (by omega)
    rw [hv3900] at rv3900
    dsimp only at rv3900
    refine q_iald (Sh.arr hI3884.1 ka_218) x3882.toInt rfl (by omega) v3900 ((eA_c (hF3885.2.1 218 (by decide))).trans hv3900) ?_
    refine r_istore _ rfl ?_
    refine r_aload_n (w_p1 (by decide) (Or.inr rfl) e3889) ?_
    refine q_getR (Sh.ref hI3884.1 kx_204 rfl) ?_
    refine r_iload (w_e1 _ _ _) ?_
    obtain ⟨v3901, hv3901⟩ : ∃ v, eA g3883 211 v3900.toInt = v := ⟨_, rfl⟩
    refine q_iald (Sh.arr hI3884.1 ka_211) v3900.toInt rfl (by omega) v3901 hv3901 ?_
    refine r_istore _ rfl ?_
    refine r_aload_n (w_p1 (by decide) (Or.inr rfl) (w_p1 (by decide) (Or.inr rfl) e3889)) ?_
    refine q_getR (Sh.ref hI3884.1 kx_204 rfl) ?_
    refine r_iload (w_e1 _ _ _) ?_
    refine q_inlV 48 rfl [.ref 1, .int v3901] [] (Nat.le_of_ble_eq_true rfl) rfl ?_
    refine Ev.mk rfl rfl ⟨Nat.le_of_ble_eq_true rfl, Or.inr (q_rc hI3884.1 kx_1 rfl)⟩ ?_
    show At _ none _ _ (0, [(0, .ref 1), (1, .int v3901)], [], (_, _)) _
    refine At.enter rfl ?_
    refine r_iload_n rfl ?_
    refine r_ifs 4 rfl (fun c3902 => ?_) (fun c3902 => ?_)
    · have c3902_ : v3901.toInt < 0 := en_k_lt_t c3902
      refine At.enter rfl ?_
      refine r_iconst 0 rfl ?_
      refine Ar.fall 17 rfl ?_
      refine At.enter rfl ?_
      refine q_iretz (by decide) ?_
      refine At.enter rfl ?_
      refine r_iff 51 rfl (by decide) ?_
      refine At.enter rfl ?_
      refine r_goto ?_
      refine At.enter rfl ?_
      refine q_iinc (w_p1 (by decide) (Or.inr rfl) (w_p1 (by decide) (Or.inr rfl) e3892)) (x3882.toInt + 1) rfl (by omega) (fun v3903 hv3903 => ?_)
      refine r_goto ?_
      exact ih3888 (8 - v3903.toInt) _ _ ⟨v3903, by first | rfl | omega, hI3884, hF3885, (w_p1 (by decide) (Or.inr rfl) (w_p1 (by decide) (Or.inr rfl) (w_p1 (by decide) (Or.inr rfl) e3889))), (w_p1 (by decide) (Or.inr rfl) (w_p1 (by decide) (Or.inr rfl) (w_p1 (by decide) (Or.inr rfl) e3890))), (w_p1 (by decide) (Or.inr rfl) (w_p1 (by decide) (Or.inr rfl) (w_p1 (by decide) (Or.inr rfl) e3891))), (w_e1 _ _ _), by omega⟩ ⟨by omega, by omega⟩
    · have c3902_ : v3901.toInt ≥ 0 := en_k_lt_f c3902
      refine At.enter rfl ?_
      refine r_iload_n rfl ?_
      refine r_aload_n rfl ?_
      obtain ⟨v3904, hv3904⟩ : ∃ v, gI g0 1 0 = v := ⟨_, rfl⟩
      have rv3904 := RgF.at hI0.2.1 (p := 1) (b := 0) rfl
      rw [hv3904] at rv3904
      dsimp only at rv3904
      refine q_getI (Sh.int hI3884.1 kx_1 rfl) v3904 ((hF3885.1 1 0 (by decide)).trans hv3904) ?_
      have bv3906 := q_bnd v3901
      have bv3907 := q_bnd v3904
      refine r_ics 12 rfl (fun c3905 => ?_) (fun c3905 => ?_)
      · have c3905_ : v3901.toInt ≥ v3904.toInt := en_i_ge_t c3905
        refine At.enter rfl ?_
        refine r_iconst 0 rfl ?_
        refine Ar.fall 17 rfl ?_
        refine At.enter rfl ?_
        refine q_iretz (by decide) ?_
        refine At.enter rfl ?_
        refine r_iff 51 rfl (by decide) ?_
        refine At.enter rfl ?_
        refine r_goto ?_
        refine At.enter rfl ?_
        refine q_iinc (w_p1 (by decide) (Or.inr rfl) (w_p1 (by decide) (Or.inr rfl) e3892)) (x3882.toInt + 1) rfl (by omega) (fun v3908 hv3908 => ?_)
        refine r_goto ?_
        exact ih3888 (8 - v3908.toInt) _ _ ⟨v3908, by first | rfl | omega, hI3884, hF3885, (w_p1 (by decide) (Or.inr rfl) (w_p1 (by decide) (Or.inr rfl) (w_p1 (by decide) (Or.inr rfl) e3889))), (w_p1 (by decide) (Or.inr rfl) (w_p1 (by decide) (Or.inr rfl) (w_p1 (by decide) (Or.inr rfl) e3890))), (w_p1 (by decide) (Or.inr rfl) (w_p1 (by decide) (Or.inr rfl) (w_p1 (by decide) (Or.inr rfl) e3891))), (w_e1 _ _ _), by omega⟩ ⟨by omega, by omega⟩
      · have c3905_ : v3901.toInt < v3904.toInt := en_i_ge_f c3905
        refine At.enter rfl ?_
        refine r_iconst 1 rfl ?_
        refine r_goto ?_
        refine At.enter rfl ?_
        refine q_iretz (by decide) ?_
        refine At.enter rfl ?_
        refine r_ift (by decide) ?_
        refine At.enter rfl ?_
        refine r_aload_n (w_p1 (by decide) (Or.inr rfl) (w_p1 (by decide) (Or.inr rfl) e3889)) ?_
        refine q_getR (Sh.ref hI3884.1 kx_204 rfl) ?_
        refine r_iload (w_e1 _ _ _) ?_
        obtain ⟨v3909, hv3909⟩ : ∃ v, eA g0 208 v3901.toInt = v := ⟨_, rfl⟩
        refine q_iald (Sh.arr hI3884.1 ka_208) v3901.toInt rfl (by omega) v3909 ((eA_c (hF3885.2.1 208 (by decide))).trans hv3909) ?_
        refine r_istore _ rfl ?_
        refine r_iload (w_e1 _ _ _) ?_
        refine r_aload_n (w_p1 (by decide) (Or.inr rfl) (w_p1 (by decide) (Or.inr rfl) (w_p1 (by decide) (Or.inr rfl) e3889))) ?_
        refine q_getR (Sh.ref hI3884.1 kx_204 rfl) ?_
        refine r_iload (w_p1 (by decide) (Or.inr rfl) (w_p1 (by decide) (Or.inr rfl) (w_e1 _ _ _))) ?_
        refine r_iconst 2 rfl ?_
        refine r_callV 75 rfl [.ref 1, .int v3900, .int 2] [.int v3909] (Nat.le_of_ble_eq_true rfl) rfl (T_X0_about_1 _ hI3884 v3900 2) ?_
        rintro _ _ ⟨g3910, rfl, hI3911, hF3912, v3913, rfl, hr3914⟩
        refine At.sti ?_
        have hF3915 := Fr.tr hF3885 hF3912 rfl rfl
        have zv3916 : (2 : Int32).toInt = 2 := rfl
        refine At.enter rfl ?_
        refine r_ics 78 rfl (fun c3917 => ?_) (fun c3917 => ?_)
        · have c3917_ : v3909.toInt ≠ v3913.toInt := en_i_ne_t c3917
          refine At.enter rfl ?_
          refine r_iconst 0 rfl ?_
          refine Ar.fall 83 rfl ?_
          refine At.enter rfl ?_
          refine r_istore _ rfl ?_
          refine r_iload (w_p1 (by decide) (Or.inr rfl) (w_e1 _ _ _)) ?_
          refine r_iconst (-1) rfl ?_
          refine r_ics 91 rfl (fun c3918 => ?_) (fun c3918 => ?_)
          · have c3918_ : v3909.toInt = (-1) := en_i_eq_t c3918
            refine At.enter rfl ?_
            refine r_iconst 0 rfl ?_
            refine Ar.fall 112 rfl ?_
            refine At.enter rfl ?_
            refine r_istore _ rfl ?_
            refine r_iload (w_e1 _ _ _) ?_
            refine r_ift (by decide) ?_
            refine At.enter rfl ?_
            refine r_iload (w_e1 _ _ _) ?_
            refine r_iff 174 rfl (by decide) ?_
            refine At.enter rfl ?_
            refine r_aload_n (w_p1 (by decide) (Or.inr rfl) (w_p1 (by decide) (Or.inr rfl) (w_p1 (by decide) (Or.inr rfl) (w_p1 (by decide) (Or.inr rfl) (w_p1 (by decide) (Or.inr rfl) e3889))))) ?_
            refine q_getR (Sh.ref hI3911.1 kx_204 rfl) ?_
            refine r_iload (w_p1 (by decide) (Or.inr rfl) (w_p1 (by decide) (Or.inr rfl) (w_p1 (by decide) (Or.inr rfl) (w_p1 (by decide) (Or.inr rfl) (w_e1 _ _ _))))) ?_
            refine r_dup2 ⟨rfl, rfl⟩ ?_
            obtain ⟨v3919, hv3919⟩ : ∃ v, eA g3883 214 v3900.toInt = v := ⟨_, rfl⟩
            refine q_iald (Sh.arr hI3911.1 ka_214) v3900.toInt rfl (by omega) v3919 ((eA_c (hF3912.2.1 214 ma_X0_about_1_214)).trans hv3919) ?_
            refine r_iconst 1 rfl ?_
            refine q_iaddO (fun v3920 _ => ?_)
            refine q_iast (Sh.arr hI3911.1 ka_214) (v3900.toInt) rfl (by omega) ?_
            have hI3921 := HI.wA0 hI3911 ka_214 (p := 214) rfl rfl (v3900.toInt) (v3920)
            have hF3922 := Fr.wA (p := 214) (j := v3900.toInt) (v := v3920) hF3915 rfl
            refine r_aload_n (w_p1 (by decide) (Or.inr rfl) (w_p1 (by decide) (Or.inr rfl) (w_p1 (by decide) (Or.inr rfl) (w_p1 (by decide) (Or.inr rfl) (w_p1 (by decide) (Or.inr rfl) e3889))))) ?_
            refine q_getR (Sh.ref hI3921.1 kx_204 rfl) ?_
            refine r_iload (w_p1 (by decide) (Or.inr rfl) (w_p1 (by decide) (Or.inr rfl) (w_p1 (by decide) (Or.inr rfl) (w_p1 (by decide) (Or.inr rfl) (w_e1 _ _ _))))) ?_
            refine r_dup2 ⟨rfl, rfl⟩ ?_
            obtain ⟨v3923, hv3923⟩ : ∃ v, eA g3883 213 v3900.toInt = v := ⟨_, rfl⟩
            refine q_iald (Sh.arr hI3921.1 ka_213) v3900.toInt rfl (by omega) v3923 ((eA_c ((gA_sA_ne (by decide)).trans (hF3912.2.1 213 ma_X0_about_1_213))).trans hv3923) ?_
            refine r_iconst 1 rfl ?_
            refine q_iaddO (fun v3924 _ => ?_)
            refine q_iast (Sh.arr hI3921.1 ka_213) (v3900.toInt) rfl (by omega) ?_
            have hI3925 := HI.wA0 hI3921 ka_213 (p := 213) rfl rfl (v3900.toInt) (v3924)
            have hF3926 := Fr.wA (p := 213) (j := v3900.toInt) (v := v3924) hF3922 rfl
            refine r_goto ?_
            refine At.enter rfl ?_
            refine q_iinc (w_p1 (by decide) (Or.inr rfl) (w_p1 (by decide) (Or.inr rfl) (w_p1 (by decide) (Or.inr rfl) (w_p1 (by decide) (Or.inr rfl) (w_p1 (by decide) (Or.inr rfl) e3892))))) (x3882.toInt + 1) rfl (by omega) (fun v3927 hv3927 => ?_)
            refine r_goto ?_
            exact ih3888 (8 - v3927.toInt) _ _ ⟨v3927, by first | rfl | omega, hI3925, hF3926, (w_p1 (by decide) (Or.inr rfl) (w_p1 (by decide) (Or.inr rfl) (w_p1 (by decide) (Or.inr rfl) (w_p1 (by decide) (Or.inr rfl) (w_p1 (by decide) (Or.inr rfl) (w_p1 (by decide) (Or.inr rfl) e3889)))))), (w_p1 (by decide) (Or.inr rfl) (w_p1 (by decide) (Or.inr rfl) (w_p1 (by decide) (Or.inr rfl) (w_p1 (by decide) (Or.inr rfl) (w_p1 (by decide) (Or.inr rfl) (w_p1 (by decide) (Or.inr rfl) e3890)))))), (w_p1 (by decide) (Or.inr rfl) (w_p1 (by decide) (Or.inr rfl) (w_p1 (by decide) (Or.inr rfl) (w_p1 (by decide) (Or.inr rfl) (w_p1 (by decide) (Or.inr rfl) (w_p1 (by decide) (Or.inr rfl) e3891)))))), (w_e1 _ _ _), by omega⟩ ⟨by omega, by omega⟩
          · have c3918_ : v3909.toInt ≠ (-1) := en_i_eq_f c3918
            refine At.enter rfl ?_
            refine r_iload (w_e1 _ _ _) ?_
            refine r_iff 96 rfl (by decide) ?_
            refine At.enter rfl ?_
            refine r_aload_n (w_p1 (by decide) (Or.inr rfl) (w_p1 (by decide) (Or.inr rfl) (w_p1 (by decide) (Or.inr rfl) (w_p1 (by decide) (Or.inr rfl) e3889)))) ?_
            refine r_iload (w_p1 (by decide) (Or.inr rfl) (w_e1 _ _ _)) ?_
            refine r_iload (w_p1 (by decide) (Or.inr rfl) (w_p1 (by decide) (Or.inr rfl) (w_p1 (by decide) (Or.inr rfl) (w_e1 _ _ _)))) ?_
            refine r_callV 104 rfl [.ref 204, .int v3909, .int v3900] [] (Nat.le_of_ble_eq_true rfl) rfl (T_X1_canHold_204 _ hI3911 v3909 v3900) ?_
            rintro _ _ ⟨g3928, rfl, hI3929, hF3930, v3931, rfl, hr3932⟩
            refine At.sti ?_
            have hF3933 := Fr.tr hF3915 hF3930 rfl rfl
            refine At.enter rfl ?_
            refine r_ifs 107 rfl (fun c3934 => ?_) (fun c3934 => ?_)
            · have c3934_ : v3931.toInt = 0 := en_k_eq_t c3934
              refine At.enter rfl ?_
              refine r_iconst 0 rfl ?_
              refine Ar.fall 112 rfl ?_
              refine At.enter rfl ?_
              refine r_istore _ rfl ?_
              refine r_iload (w_e1 _ _ _) ?_
              refine r_ift (by decide) ?_
              refine At.enter rfl ?_
              refine r_iload (w_e1 _ _ _) ?_
              refine r_iff 174 rfl (by decide) ?_
              refine At.enter rfl ?_
              refine r_aload_n (w_p1 (by decide) (Or.inr rfl) (w_p1 (by decide) (Or.inr rfl) (w_p1 (by decide) (Or.inr rfl) (w_p1 (by decide) (Or.inr rfl) (w_p1 (by decide) (Or.inr rfl) e3889))))) ?_
              refine q_getR (Sh.ref hI3929.1 kx_204 rfl) ?_
              refine r_iload (w_p1 (by decide) (Or.inr rfl) (w_p1 (by decide) (Or.inr rfl) (w_p1 (by decide) (Or.inr rfl) (w_p1 (by decide) (Or.inr rfl) (w_e1 _ _ _))))) ?_
              refine r_dup2 ⟨rfl, rfl⟩ ?_
              obtain ⟨v3935, hv3935⟩ : ∃ v, eA g3883 214 v3900.toInt = v := ⟨_, rfl⟩
              refine q_iald (Sh.arr hI3929.1 ka_214) v3900.toInt rfl (by omega) v3935 ((eA_c ((hF3930.2.1 214 ma_X1_canHold_204_214).trans (hF3912.2.1 214 ma_X0_about_1_214))).trans hv3935) ?_
              refine r_iconst 1 rfl ?_
              refine q_iaddO (fun v3936 _ => ?_)
              refine q_iast (Sh.arr hI3929.1 ka_214) (v3900.toInt) rfl (by omega) ?_
              have hI3937 := HI.wA0 hI3929 ka_214 (p := 214) rfl rfl (v3900.toInt) (v3936)
              have hF3938 := Fr.wA (p := 214) (j := v3900.toInt) (v := v3936) hF3933 rfl
              refine r_aload_n (w_p1 (by decide) (Or.inr rfl) (w_p1 (by decide) (Or.inr rfl) (w_p1 (by decide) (Or.inr rfl) (w_p1 (by decide) (Or.inr rfl) (w_p1 (by decide) (Or.inr rfl) e3889))))) ?_
              refine q_getR (Sh.ref hI3937.1 kx_204 rfl) ?_
              refine r_iload (w_p1 (by decide) (Or.inr rfl) (w_p1 (by decide) (Or.inr rfl) (w_p1 (by decide) (Or.inr rfl) (w_p1 (by decide) (Or.inr rfl) (w_e1 _ _ _))))) ?_
              refine r_dup2 ⟨rfl, rfl⟩ ?_
              obtain ⟨v3939, hv3939⟩ : ∃ v, eA g3883 213 v3900.toInt = v := ⟨_, rfl⟩
              refine q_iald (Sh.arr hI3937.1 ka_213) v3900.toInt rfl (by omega) v3939 ((eA_c ((gA_sA_ne (by decide)).trans ((hF3930.2.1 213 ma_X1_canHold_204_213).trans (hF3912.2.1 213 ma_X0_about_1_213)))).trans hv3939) ?_
              refine r_iconst 1 rfl ?_
              refine q_iaddO (fun v3940 _ => ?_)
              refine q_iast (Sh.arr hI3937.1 ka_213) (v3900.toInt) rfl (by omega) ?_
              have hI3941 := HI.wA0 hI3937 ka_213 (p := 213) rfl rfl (v3900.toInt) (v3940)
              have hF3942 := Fr.wA (p := 213) (j := v3900.toInt) (v := v3940) hF3938 rfl
              refine r_goto ?_
              refine At.enter rfl ?_
              refine q_iinc (w_p1 (by decide) (Or.inr rfl) (w_p1 (by decide) (Or.inr rfl) (w_p1 (by decide) (Or.inr rfl) (w_p1 (by decide) (Or.inr rfl) (w_p1 (by decide) (Or.inr rfl) e3892))))) (x3882.toInt + 1) rfl (by omega) (fun v3943 hv3943 => ?_)
              refine r_goto ?_
              exact ih3888 (8 - v3943.toInt) _ _ ⟨v3943, by first | rfl | omega, hI3941, hF3942, (w_p1 (by decide) (Or.inr rfl) (w_p1 (by decide) (Or.inr rfl) (w_p1 (by decide) (Or.inr rfl) (w_p1 (by decide) (Or.inr rfl) (w_p1 (by decide) (Or.inr rfl) (w_p1 (by decide) (Or.inr rfl) e3889)))))), (w_p1 (by decide) (Or.inr rfl) (w_p1 (by decide) (Or.inr rfl) (w_p1 (by decide) (Or.inr rfl) (w_p1 (by decide) (Or.inr rfl) (w_p1 (by decide) (Or.inr rfl) (w_p1 (by decide) (Or.inr rfl) e3890)))))), (w_p1 (by decide) (Or.inr rfl) (w_p1 (by decide) (Or.inr rfl) (w_p1 (by decide) (Or.inr rfl) (w_p1 (by decide) (Or.inr rfl) (w_p1 (by decide) (Or.inr rfl) (w_p1 (by decide) (Or.inr rfl) e3891)))))), (w_e1 _ _ _), by omega⟩ ⟨by omega, by omega⟩
            · have c3934_ : v3931.toInt ≠ 0 := en_k_eq_f c3934
              refine At.enter rfl ?_
              refine r_iconst 1 rfl ?_
              refine r_goto ?_
              refine At.enter rfl ?_
              refine r_istore _ rfl ?_
              refine r_iload (w_e1 _ _ _) ?_
              refine r_iff 119 rfl (by decide) ?_
              refine At.enter rfl ?_
              refine r_iload_n (w_p1 (by decide) (Or.inr rfl) (w_p1 (by decide) (Or.inr rfl) (w_p1 (by decide) (Or.inr rfl) (w_p1 (by decide) (Or.inr rfl) (w_p1 (by decide) (Or.inr rfl) e3891))))) ?_
              refine r_ifs 123 rfl (fun c3944 => ?_) (fun c3944 => ?_)
              · have c3944_ : v2717.toInt = 0 := en_k_eq_t c3944
                refine At.enter rfl ?_
                refine r_iload (w_e1 _ _ _) ?_
                refine r_ift (by decide) ?_
                refine At.enter rfl ?_
                refine r_aload_n (w_p1 (by decide) (Or.inr rfl) (w_p1 (by decide) (Or.inr rfl) (w_p1 (by decide) (Or.inr rfl) (w_p1 (by decide) (Or.inr rfl) (w_p1 (by decide) (Or.inr rfl) e3889))))) ?_
                refine r_iconst 1 rfl ?_
                refine q_putI (Sh.int hI3929.1 kx_204 rfl) rfl ?_
                have hI3945 := HI.wI0 hI3929 kx_204 rfl (p := 204) (b := 18) (v := 1) rfl
                have hF3946 := Fr.wI (p := 204) (b := 18) (v := 1) hF3933 rfl
                refine r_aload_n (w_p1 (by decide) (Or.inr rfl) (w_p1 (by decide) (Or.inr rfl) (w_p1 (by decide) (Or.inr rfl) (w_p1 (by decide) (Or.inr rfl) (w_p1 (by decide) (Or.inr rfl) e3889))))) ?_
                refine r_iload (w_p1 (by decide) (Or.inr rfl) (w_p1 (by decide) (Or.inr rfl) (w_p1 (by decide) (Or.inr rfl) (w_e1 _ _ _)))) ?_
                refine r_iload (w_p1 (by decide) (Or.inr rfl) (w_p1 (by decide) (Or.inr rfl) (w_p1 (by decide) (Or.inr rfl) (w_p1 (by decide) (Or.inr rfl) (w_e1 _ _ _))))) ?_
                refine r_callV 212 rfl [.ref 204, .int v3901, .int v3900] [] (Nat.le_of_ble_eq_true rfl) rfl (T_X1_giveUp_204 _ hI3945 v3901 v3900 (by omega)) ?_
                rintro _ _ ⟨g3947, rfl, hI3948, hF3949, rfl⟩
                refine At.stn ?_
                have hF3952 := Fr.tr hF3946 hF3949 rfl rfl
                refine At.enter rfl ?_
                refine r_aload_n (w_p1 (by decide) (Or.inr rfl) (w_p1 (by decide) (Or.inr rfl) (w_p1 (by decide) (Or.inr rfl) (w_p1 (by decide) (Or.inr rfl) (w_p1 (by decide) (Or.inr rfl) e3889))))) ?_
                refine q_getR (Sh.ref hI3948.1 kx_204 rfl) ?_
                refine r_iload (w_p1 (by decide) (Or.inr rfl) (w_p1 (by decide) (Or.inr rfl) (w_p1 (by decide) (Or.inr rfl) (w_p1 (by decide) (Or.inr rfl) (w_e1 _ _ _))))) ?_
                refine r_dup2 ⟨rfl, rfl⟩ ?_
                obtain ⟨v3953, hv3953⟩ : ∃ v, eA g3883 210 v3900.toInt = v := ⟨_, rfl⟩
                refine q_iald (Sh.arr hI3948.1 ka_210) v3900.toInt rfl (by omega) v3953 ((eA_c ((hF3949.2.1 210 ma_X1_giveUp_204_210).trans ((gA_sI).trans ((hF3930.2.1 210 ma_X1_canHold_204_210).trans (hF3912.2.1 210 ma_X0_about_1_210))))).trans hv3953) ?_
                refine r_iconst 1 rfl ?_
                refine q_isubO (fun v3954 _ => ?_)
                refine q_iast (Sh.arr hI3948.1 ka_210) (v3900.toInt) rfl (by omega) ?_
                have hI3955 := HI.wA0 hI3948 ka_210 (p := 210) rfl rfl (v3900.toInt) (v3954)
                have hF3956 := Fr.wA (p := 210) (j := v3900.toInt) (v := v3954) hF3952 rfl
                refine r_iload (w_p1 (by decide) (Or.inr rfl) (w_e1 _ _ _)) ?_
                refine r_ift (by decide) ?_
                refine At.enter rfl ?_
                refine r_aload_n (w_p1 (by decide) (Or.inr rfl) (w_p1 (by decide) (Or.inr rfl) (w_p1 (by decide) (Or.inr rfl) (w_p1 (by decide) (Or.inr rfl) (w_p1 (by decide) (Or.inr rfl) e3889))))) ?_
                refine r_iload (w_p1 (by decide) (Or.inr rfl) (w_p1 (by decide) (Or.inr rfl) (w_e1 _ _ _))) ?_
                refine r_iload (w_p1 (by decide) (Or.inr rfl) (w_p1 (by decide) (Or.inr rfl) (w_p1 (by decide) (Or.inr rfl) (w_p1 (by decide) (Or.inr rfl) (w_e1 _ _ _))))) ?_
                refine r_callV 247 rfl [.ref 204, .int v3909, .int v3900] [] (Nat.le_of_ble_eq_true rfl) rfl (T_X1_take_204 _ hI3955 v3909 v3900 (by omega)) ?_
                rintro _ _ ⟨g3957, rfl, hI3958, hF3959, rfl⟩
                refine At.stn ?_
                have hF3962 := Fr.tr hF3956 hF3959 rfl rfl
                refine At.enter rfl ?_
                refine q_iinc (w_p1 (by decide) (Or.inr rfl) (w_p1 (by decide) (Or.inr rfl) (w_p1 (by decide) (Or.inr rfl) (w_p1 (by decide) (Or.inr rfl) (w_p1 (by decide) (Or.inr rfl) e3892))))) (x3882.toInt + 1) rfl (by omega) (fun v3963 hv3963 => ?_)
                refine r_goto ?_
                exact ih3888 (8 - v3963.toInt) _ _ ⟨v3963, by first | rfl | omega, hI3958, hF3962, (w_p1 (by decide) (Or.inr rfl) (w_p1 (by decide) (Or.inr rfl) (w_p1 (by decide) (Or.inr rfl) (w_p1 (by decide) (Or.inr rfl) (w_p1 (by decide) (Or.inr rfl) (w_p1 (by decide) (Or.inr rfl) e3889)))))), (w_p1 (by decide) (Or.inr rfl) (w_p1 (by decide) (Or.inr rfl) (w_p1 (by decide) (Or.inr rfl) (w_p1 (by decide) (Or.inr rfl) (w_p1 (by decide) (Or.inr rfl) (w_p1 (by decide) (Or.inr rfl) e3890)))))), (w_p1 (by decide) (Or.inr rfl) (w_p1 (by decide) (Or.inr rfl) (w_p1 (by decide) (Or.inr rfl) (w_p1 (by decide) (Or.inr rfl) (w_p1 (by decide) (Or.inr rfl) (w_p1 (by decide) (Or.inr rfl) e3891)))))), (w_e1 _ _ _), by omega⟩ ⟨by omega, by omega⟩
              · have c3944_ : v2717.toInt ≠ 0 := en_k_eq_f c3944
                refine At.enter rfl ?_
                refine r_aload_n (w_p1 (by decide) (Or.inr rfl) (w_p1 (by decide) (Or.inr rfl) (w_p1 (by decide) (Or.inr rfl) (w_p1 (by decide) (Or.inr rfl) (w_p1 (by decide) (Or.inr rfl) e3889))))) ?_
                refine q_getR (Sh.ref hI3929.1 kx_204 rfl) ?_
                refine r_iconst 2 rfl ?_
                refine r_iload (w_p1 (by decide) (Or.inr rfl) (w_p1 (by decide) (Or.inr rfl) (w_p1 (by decide) (Or.inr rfl) (w_p1 (by decide) (Or.inr rfl) (w_e1 _ _ _))))) ?_
                refine r_iload (w_p1 (by decide) (Or.inr rfl) (w_p1 (by decide) (Or.inr rfl) (w_p1 (by decide) (Or.inr rfl) (w_e1 _ _ _)))) ?_
                refine r_iload_n (w_p1 (by decide) (Or.inr rfl) (w_p1 (by decide) (Or.inr rfl) (w_p1 (by decide) (Or.inr rfl) (w_p1 (by decide) (Or.inr rfl) (w_p1 (by decide) (Or.inr rfl) e3890))))) ?_
                refine r_aload_n (w_p1 (by decide) (Or.inr rfl) (w_p1 (by decide) (Or.inr rfl) (w_p1 (by decide) (Or.inr rfl) (w_p1 (by decide) (Or.inr rfl) (w_p1 (by decide) (Or.inr rfl) e3889))))) ?_
                refine q_getR (Sh.ref hI3929.1 kx_204 rfl) ?_
                refine r_iload (w_p1 (by decide) (Or.inr rfl) (w_p1 (by decide) (Or.inr rfl) (w_p1 (by decide) (Or.inr rfl) (w_p1 (by decide) (Or.inr rfl) (w_e1 _ _ _))))) ?_
                obtain ⟨v3964, hv3964⟩ : ∃ v, eA g3883 214 v3900.toInt = v := ⟨_, rfl⟩
                refine q_iald (Sh.arr hI3929.1 ka_214) v3900.toInt rfl (by omega) v3964 ((eA_c ((hF3930.2.1 214 ma_X1_canHold_204_214).trans (hF3912.2.1 214 ma_X0_about_1_214))).trans hv3964) ?_
                refine r_aload_n (w_p1 (by decide) (Or.inr rfl) (w_p1 (by decide) (Or.inr rfl) (w_p1 (by decide) (Or.inr rfl) (w_p1 (by decide) (Or.inr rfl) (w_p1 (by decide) (Or.inr rfl) e3889))))) ?_
                refine q_getR (Sh.ref hI3929.1 kx_204 rfl) ?_
                refine r_iload (w_p1 (by decide) (Or.inr rfl) (w_p1 (by decide) (Or.inr rfl) (w_p1 (by decide) (Or.inr rfl) (w_e1 _ _ _)))) ?_
                obtain ⟨v3965, hv3965⟩ : ∃ v, eA g0 205 v3901.toInt = v := ⟨_, rfl⟩
                refine q_iald (Sh.arr hI3929.1 ka_205) v3901.toInt rfl (by omega) v3965 ((eA_c ((hF3930.2.1 205 ma_X1_canHold_204_205).trans ((hF3912.2.1 205 ma_X0_about_1_205).trans (hF3885.2.1 205 (by decide))))).trans hv3965) ?_
                refine r_aload_n (w_p1 (by decide) (Or.inr rfl) (w_p1 (by decide) (Or.inr rfl) (w_p1 (by decide) (Or.inr rfl) (w_p1 (by decide) (Or.inr rfl) (w_p1 (by decide) (Or.inr rfl) e3889))))) ?_
                refine q_getR (Sh.ref hI3929.1 kx_204 rfl) ?_
                refine r_iload (w_p1 (by decide) (Or.inr rfl) (w_p1 (by decide) (Or.inr rfl) (w_p1 (by decide) (Or.inr rfl) (w_e1 _ _ _)))) ?_
                obtain ⟨v3966, hv3966⟩ : ∃ v, eA g0 206 v3901.toInt = v := ⟨_, rfl⟩
                refine q_iald (Sh.arr hI3929.1 ka_206) v3901.toInt rfl (by omega) v3966 ((eA_c ((hF3930.2.1 206 ma_X1_canHold_204_206).trans ((hF3912.2.1 206 ma_X0_about_1_206).trans (hF3885.2.1 206 (by decide))))).trans hv3966) ?_
                refine r_callV 157 rfl [.ref 185, .int 2, .int v3900, .int v3901, .int a1, .int v3964, .int v3965, .int v3966] [] (Nat.le_of_ble_eq_true rfl) rfl (T_X3_tells_185 _ hI3929 2 v3900 v3901 a1 v3964 v3965 v3966) ?_
                rintro _ _ ⟨g3967, rfl, hI3968, hF3969, v3970, rfl, hr3971⟩
                refine At.stl ?_
                have hF3972 := Fr.tr hF3933 hF3969 rfl rfl
                refine At.enter rfl ?_
                refine r_lconst 0 rfl ?_
                refine r_lcmp _ rfl ?_
                refine r_ifs 162 rfl (fun c3973 => ?_) (fun c3973 => ?_)
                · have c3973_ : v3970.toInt ≠ 0 := en_j_ne_t c3973
                  refine At.enter rfl ?_
                  refine r_iconst 0 rfl ?_
                  refine Ar.fall 167 rfl ?_
                  refine At.enter rfl ?_
                  refine r_istore _ rfl ?_
                  refine Ar.fall 169 rfl ?_
                  refine At.enter rfl ?_
                  refine r_iload (w_e1 _ _ _) ?_
                  refine r_iff 174 rfl (by decide) ?_
                  refine At.enter rfl ?_
                  refine r_aload_n (w_p1 (by decide) (Or.inr rfl) (w_p1 (by decide) (Or.inr rfl) (w_p1 (by decide) (Or.inr rfl) (w_p1 (by decide) (Or.inr rfl) (w_p1 (by decide) (Or.inr rfl) (w_p1 (by decide) (Or.inr rfl) e3889)))))) ?_
                  refine q_getR (Sh.ref hI3968.1 kx_204 rfl) ?_
                  refine r_iload (w_p1 (by decide) (Or.inr rfl) (w_p1 (by decide) (Or.inr rfl) (w_p1 (by decide) (Or.inr rfl) (w_p1 (by decide) (Or.inr rfl) (w_p1 (by decide) (Or.inr rfl) (w_e1 _ _ _)))))) ?_
                  refine r_dup2 ⟨rfl, rfl⟩ ?_
                  refine q_iald (Sh.arr hI3968.1 ka_214) v3900.toInt rfl (by omega) v3964 ((eA_c ((hF3969.2.1 214 ma_X3_tells_185_214).trans ((hF3930.2.1 214 ma_X1_canHold_204_214).trans (hF3912.2.1 214 ma_X0_about_1_214)))).trans hv3964) ?_
                  refine r_iconst 1 rfl ?_
                  refine q_iaddO (fun v3974 _ => ?_)
                  refine q_iast (Sh.arr hI3968.1 ka_214) (v3900.toInt) rfl (by omega) ?_
                  have hI3975 := HI.wA0 hI3968 ka_214 (p := 214) rfl rfl (v3900.toInt) (v3974)
                  have hF3976 := Fr.wA (p := 214) (j := v3900.toInt) (v := v3974) hF3972 rfl
                  refine r_aload_n (w_p1 (by decide) (Or.inr rfl) (w_p1 (by decide) (Or.inr rfl) (w_p1 (by decide) (Or.inr rfl) (w_p1 (by decide) (Or.inr rfl) (w_p1 (by decide) (Or.inr rfl) (w_p1 (by decide) (Or.inr rfl) e3889)))))) ?_
                  refine q_getR (Sh.ref hI3975.1 kx_204 rfl) ?_
                  refine r_iload (w_p1 (by decide) (Or.inr rfl) (w_p1 (by decide) (Or.inr rfl) (w_p1 (by decide) (Or.inr rfl) (w_p1 (by decide) (Or.inr rfl) (w_p1 (by decide) (Or.inr rfl) (w_e1 _ _ _)))))) ?_
                  refine r_dup2 ⟨rfl, rfl⟩ ?_
                  obtain ⟨v3977, hv3977⟩ : ∃ v, eA g3883 213 v3900.toInt = v := ⟨_, rfl⟩
                  refine q_iald (Sh.arr hI3975.1 ka_213) v3900.toInt rfl (by omega) v3977 ((eA_c ((gA_sA_ne (by decide)).trans ((hF3969.2.1 213 ma_X3_tells_185_213).trans ((hF3930.2.1 213 ma_X1_canHold_204_213).trans (hF3912.2.1 213 ma_X0_about_1_213))))).trans hv3977) ?_
                  refine r_iconst 1 rfl ?_
                  refine q_iaddO (fun v3978 _ => ?_)
                  refine q_iast (Sh.arr hI3975.1 ka_213) (v3900.toInt) rfl (by omega) ?_
                  have hI3979 := HI.wA0 hI3975 ka_213 (p := 213) rfl rfl (v3900.toInt) (v3978)
                  have hF3980 := Fr.wA (p := 213) (j := v3900.toInt) (v := v3978) hF3976 rfl
                  refine r_goto ?_
                  refine At.enter rfl ?_
                  refine q_iinc (w_p1 (by decide) (Or.inr rfl) (w_p1 (by decide) (Or.inr rfl) (w_p1 (by decide) (Or.inr rfl) (w_p1 (by decide) (Or.inr rfl) (w_p1 (by decide) (Or.inr rfl) (w_p1 (by decide) (Or.inr rfl) e3892)))))) (x3882.toInt + 1) rfl (by omega) (fun v3981 hv3981 => ?_)
                  refine r_goto ?_
                  exact ih3888 (8 - v3981.toInt) _ _ ⟨v3981, by first | rfl | omega, hI3979, hF3980, (w_p1 (by decide) (Or.inr rfl) (w_p1 (by decide) (Or.inr rfl) (w_p1 (by decide) (Or.inr rfl) (w_p1 (by decide) (Or.inr rfl) (w_p1 (by decide) (Or.inr rfl) (w_p1 (by decide) (Or.inr rfl) (w_p1 (by decide) (Or.inr rfl) e3889))))))), (w_p1 (by decide) (Or.inr rfl) (w_p1 (by decide) (Or.inr rfl) (w_p1 (by decide) (Or.inr rfl) (w_p1 (by decide) (Or.inr rfl) (w_p1 (by decide) (Or.inr rfl) (w_p1 (by decide) (Or.inr rfl) (w_p1 (by decide) (Or.inr rfl) e3890))))))), (w_p1 (by decide) (Or.inr rfl) (w_p1 (by decide) (Or.inr rfl) (w_p1 (by decide) (Or.inr rfl) (w_p1 (by decide) (Or.inr rfl) (w_p1 (by decide) (Or.inr rfl) (w_p1 (by decide) (Or.inr rfl) (w_p1 (by decide) (Or.inr rfl) e3891))))))), (w_e1 _ _ _), by omega⟩ ⟨by omega, by omega⟩
                · have c3973_ : v3970.toInt = 0 := en_j_ne_f c3973
                  refine At.enter rfl ?_
                  refine r_iconst 1 rfl ?_
                  refine r_goto ?_
                  refine At.enter rfl ?_
                  refine r_istore _ rfl ?_
                  refine Ar.fall 169 rfl ?_
                  refine At.enter rfl ?_
                  refine r_iload (w_e1 _ _ _) ?_
                  refine r_ift (by decide) ?_
                  refine At.enter rfl ?_
                  refine r_aload_n (w_p1 (by decide) (Or.inr rfl) (w_p1 (by decide) (Or.inr rfl) (w_p1 (by decide) (Or.inr rfl) (w_p1 (by decide) (Or.inr rfl) (w_p1 (by decide) (Or.inr rfl) (w_p1 (by decide) (Or.inr rfl) e3889)))))) ?_
                  refine r_iconst 1 rfl ?_
                  refine q_putI (Sh.int hI3968.1 kx_204 rfl) rfl ?_
                  have hI3982 := HI.wI0 hI3968 kx_204 rfl (p := 204) (b := 18) (v := 1) rfl
                  have hF3983 := Fr.wI (p := 204) (b := 18) (v := 1) hF3972 rfl
                  refine r_aload_n (w_p1 (by decide) (Or.inr rfl) (w_p1 (by decide) (Or.inr rfl) (w_p1 (by decide) (Or.inr rfl) (w_p1 (by decide) (Or.inr rfl) (w_p1 (by decide) (Or.inr rfl) (w_p1 (by decide) (Or.inr rfl) e3889)))))) ?_
                  refine r_iload (w_p1 (by decide) (Or.inr rfl) (w_p1 (by decide) (Or.inr rfl) (w_p1 (by decide) (Or.inr rfl) (w_p1 (by decide) (Or.inr rfl) (w_e1 _ _ _))))) ?_
                  refine r_iload (w_p1 (by decide) (Or.inr rfl) (w_p1 (by decide) (Or.inr rfl) (w_p1 (by decide) (Or.inr rfl) (w_p1 (by decide) (Or.inr rfl) (w_p1 (by decide) (Or.inr rfl) (w_e1 _ _ _)))))) ?_
                  refine r_callV 212 rfl [.ref 204, .int v3901, .int v3900] [] (Nat.le_of_ble_eq_true rfl) rfl (T_X1_giveUp_204 _ hI3982 v3901 v3900 (by omega)) ?_
                  rintro _ _ ⟨g3984, rfl, hI3985, hF3986, rfl⟩
                  refine At.stn ?_
                  have hF3989 := Fr.tr hF3983 hF3986 rfl rfl
                  refine At.enter rfl ?_
                  refine r_aload_n (w_p1 (by decide) (Or.inr rfl) (w_p1 (by decide) (Or.inr rfl) (w_p1 (by decide) (Or.inr rfl) (w_p1 (by decide) (Or.inr rfl) (w_p1 (by decide) (Or.inr rfl) (w_p1 (by decide) (Or.inr rfl) e3889)))))) ?_
                  refine q_getR (Sh.ref hI3985.1 kx_204 rfl) ?_
                  refine r_iload (w_p1 (by decide) (Or.inr rfl) (w_p1 (by decide) (Or.inr rfl) (w_p1 (by decide) (Or.inr rfl) (w_p1 (by decide) (Or.inr rfl) (w_p1 (by decide) (Or.inr rfl) (w_e1 _ _ _)))))) ?_
                  refine r_dup2 ⟨rfl, rfl⟩ ?_
                  obtain ⟨v3990, hv3990⟩ : ∃ v, eA g3883 210 v3900.toInt = v := ⟨_, rfl⟩
                  refine q_iald (Sh.arr hI3985.1 ka_210) v3900.toInt rfl (by omega) v3990 ((eA_c ((hF3986.2.1 210 ma_X1_giveUp_204_210).trans ((gA_sI).trans ((hF3969.2.1 210 ma_X3_tells_185_210).trans ((hF3930.2.1 210 ma_X1_canHold_204_210).trans (hF3912.2.1 210 ma_X0_about_1_210)))))).trans hv3990) ?_
                  refine r_iconst 1 rfl ?_
                  refine q_isubO (fun v3991 _ => ?_)
                  refine q_iast (Sh.arr hI3985.1 ka_210) (v3900.toInt) rfl (by omega) ?_
                  have hI3992 := HI.wA0 hI3985 ka_210 (p := 210) rfl rfl (v3900.toInt) (v3991)
                  have hF3993 := Fr.wA (p := 210) (j := v3900.toInt) (v := v3991) hF3989 rfl
                  refine r_iload (w_p1 (by decide) (Or.inr rfl) (w_p1 (by decide) (Or.inr rfl) (w_e1 _ _ _))) ?_
                  refine r_ift (by decide) ?_
                  refine At.enter rfl ?_
                  refine r_aload_n (w_p1 (by decide) (Or.inr rfl) (w_p1 (by decide) (Or.inr rfl) (w_p1 (by decide) (Or.inr rfl) (w_p1 (by decide) (Or.inr rfl) (w_p1 (by decide) (Or.inr rfl) (w_p1 (by decide) (Or.inr rfl) e3889)))))) ?_
                  refine r_iload (w_p1 (by decide) (Or.inr rfl) (w_p1 (by decide) (Or.inr rfl) (w_p1 (by decide) (Or.inr rfl) (w_e1 _ _ _)))) ?_
                  refine r_iload (w_p1 (by decide) (Or.inr rfl) (w_p1 (by decide) (Or.inr rfl) (w_p1 (by decide) (Or.inr rfl) (w_p1 (by decide) (Or.inr rfl) (w_p1 (by decide) (Or.inr rfl) (w_e1 _ _ _)))))) ?_
                  refine r_callV 247 rfl [.ref 204, .int v3909, .int v3900] [] (Nat.le_of_ble_eq_true rfl) rfl (T_X1_take_204 _ hI3992 v3909 v3900 (by omega)) ?_
                  rintro _ _ ⟨g3994, rfl, hI3995, hF3996, rfl⟩
                  refine At.stn ?_
                  have hF3999 := Fr.tr hF3993 hF3996 rfl rfl
                  refine At.enter rfl ?_
                  refine q_iinc (w_p1 (by decide) (Or.inr rfl) (w_p1 (by decide) (Or.inr rfl) (w_p1 (by decide) (Or.inr rfl) (w_p1 (by decide) (Or.inr rfl) (w_p1 (by decide) (Or.inr rfl) (w_p1 (by decide) (Or.inr rfl) e3892)))))) (x3882.toInt + 1) rfl (by omega) (fun v4000 hv4000 => ?_)
                  refine r_goto ?_
                  exact ih3888 (8 - v4000.toInt) _ _ ⟨v4000, by first | rfl | omega, hI3995, hF3999, (w_p1 (by decide) (Or.inr rfl) (w_p1 (by decide) (Or.inr rfl) (w_p1 (by decide) (Or.inr rfl) (w_p1 (by decide) (Or.inr rfl) (w_p1 (by decide) (Or.inr rfl) (w_p1 (by decide) (Or.inr rfl) (w_p1 (by decide) (Or.inr rfl) e3889))))))), (w_p1 (by decide) (Or.inr rfl) (w_p1 (by decide) (Or.inr rfl) (w_p1 (by decide) (Or.inr rfl) (w_p1 (by decide) (Or.inr rfl) (w_p1 (by decide) (Or.inr rfl) (w_p1 (by decide) (Or.inr rfl) (w_p1 (by decide) (Or.inr rfl) e3890))))))), (w_p1 (by decide) (Or.inr rfl) (w_p1 (by decide) (Or.inr rfl) (w_p1 (by decide) (Or.inr rfl) (w_p1 (by decide) (Or.inr rfl) (w_p1 (by decide) (Or.inr rfl) (w_p1 (by decide) (Or.inr rfl) (w_p1 (by decide) (Or.inr rfl) e3891))))))), (w_e1 _ _ _), by omega⟩ ⟨by omega, by omega⟩
        · have c3917_ : v3909.toInt = v3913.toInt := en_i_ne_f c3917
          refine At.enter rfl ?_
          refine r_iconst 1 rfl ?_
          refine r_goto ?_
          refine At.enter rfl ?_
          refine r_istore _ rfl ?_
          refine r_iload (w_p1 (by decide) (Or.inr rfl) (w_e1 _ _ _)) ?_
          refine r_iconst (-1) rfl ?_
          refine r_ics 91 rfl (fun c4001 => ?_) (fun c4001 => ?_)
          · have c4001_ : v3909.toInt = (-1) := en_i_eq_t c4001
            refine At.enter rfl ?_
            refine r_iconst 0 rfl ?_
            refine Ar.fall 112 rfl ?_
            refine At.enter rfl ?_
            refine r_istore _ rfl ?_
            refine r_iload (w_e1 _ _ _) ?_
            refine r_ift (by decide) ?_
            refine At.enter rfl ?_
            refine r_iload (w_e1 _ _ _) ?_
            refine r_iff 174 rfl (by decide) ?_
            refine At.enter rfl ?_
            refine r_aload_n (w_p1 (by decide) (Or.inr rfl) (w_p1 (by decide) (Or.inr rfl) (w_p1 (by decide) (Or.inr rfl) (w_p1 (by decide) (Or.inr rfl) (w_p1 (by decide) (Or.inr rfl) e3889))))) ?_
            refine q_getR (Sh.ref hI3911.1 kx_204 rfl) ?_
            refine r_iload (w_p1 (by decide) (Or.inr rfl) (w_p1 (by decide) (Or.inr rfl) (w_p1 (by decide) (Or.inr rfl) (w_p1 (by decide) (Or.inr rfl) (w_e1 _ _ _))))) ?_
            refine r_dup2 ⟨rfl, rfl⟩ ?_
            obtain ⟨v4002, hv4002⟩ : ∃ v, eA g3883 214 v3900.toInt = v := ⟨_, rfl⟩
            refine q_iald (Sh.arr hI3911.1 ka_214) v3900.toInt rfl (by omega) v4002 ((eA_c (hF3912.2.1 214 ma_X0_about_1_214)).trans hv4002) ?_
            refine r_iconst 1 rfl ?_
            refine q_iaddO (fun v4003 _ => ?_)
            refine q_iast (Sh.arr hI3911.1 ka_214) (v3900.toInt) rfl (by omega) ?_
            have hI4004 := HI.wA0 hI3911 ka_214 (p := 214) rfl rfl (v3900.toInt) (v4003)
            have hF4005 := Fr.wA (p := 214) (j := v3900.toInt) (v := v4003) hF3915 rfl
            refine r_aload_n (w_p1 (by decide) (Or.inr rfl) (w_p1 (by decide) (Or.inr rfl) (w_p1 (by decide) (Or.inr rfl) (w_p1 (by decide) (Or.inr rfl) (w_p1 (by decide) (Or.inr rfl) e3889))))) ?_
            refine q_getR (Sh.ref hI4004.1 kx_204 rfl) ?_
            refine r_iload (w_p1 (by decide) (Or.inr rfl) (w_p1 (by decide) (Or.inr rfl) (w_p1 (by decide) (Or.inr rfl) (w_p1 (by decide) (Or.inr rfl) (w_e1 _ _ _))))) ?_
            refine r_dup2 ⟨rfl, rfl⟩ ?_
            obtain ⟨v4006, hv4006⟩ : ∃ v, eA g3883 213 v3900.toInt = v := ⟨_, rfl⟩
            refine q_iald (Sh.arr hI4004.1 ka_213) v3900.toInt rfl (by omega) v4006 ((eA_c ((gA_sA_ne (by decide)).trans (hF3912.2.1 213 ma_X0_about_1_213))).trans hv4006) ?_
            refine r_iconst 1 rfl ?_
            refine q_iaddO (fun v4007 _ => ?_)
            refine q_iast (Sh.arr hI4004.1 ka_213) (v3900.toInt) rfl (by omega) ?_
            have hI4008 := HI.wA0 hI4004 ka_213 (p := 213) rfl rfl (v3900.toInt) (v4007)
            have hF4009 := Fr.wA (p := 213) (j := v3900.toInt) (v := v4007) hF4005 rfl
            refine r_goto ?_
            refine At.enter rfl ?_
            refine q_iinc (w_p1 (by decide) (Or.inr rfl) (w_p1 (by decide) (Or.inr rfl) (w_p1 (by decide) (Or.inr rfl) (w_p1 (by decide) (Or.inr rfl) (w_p1 (by decide) (Or.inr rfl) e3892))))) (x3882.toInt + 1) rfl (by omega) (fun v4010 hv4010 => ?_)
            refine r_goto ?_
            exact ih3888 (8 - v4010.toInt) _ _ ⟨v4010, by first | rfl | omega, hI4008, hF4009, (w_p1 (by decide) (Or.inr rfl) (w_p1 (by decide) (Or.inr rfl) (w_p1 (by decide) (Or.inr rfl) (w_p1 (by decide) (Or.inr rfl) (w_p1 (by decide) (Or.inr rfl) (w_p1 (by decide) (Or.inr rfl) e3889)))))), (w_p1 (by decide) (Or.inr rfl) (w_p1 (by decide) (Or.inr rfl) (w_p1 (by decide) (Or.inr rfl) (w_p1 (by decide) (Or.inr rfl) (w_p1 (by decide) (Or.inr rfl) (w_p1 (by decide) (Or.inr rfl) e3890)))))), (w_p1 (by decide) (Or.inr rfl) (w_p1 (by decide) (Or.inr rfl) (w_p1 (by decide) (Or.inr rfl) (w_p1 (by decide) (Or.inr rfl) (w_p1 (by decide) (Or.inr rfl) (w_p1 (by decide) (Or.inr rfl) e3891)))))), (w_e1 _ _ _), by omega⟩ ⟨by omega, by omega⟩
          · have c4001_ : v3909.toInt ≠ (-1) := en_i_eq_f c4001
            refine At.enter rfl ?_
            refine r_iload (w_e1 _ _ _) ?_
            refine r_ift (by decide) ?_
            refine At.enter rfl ?_
            refine r_iconst 1 rfl ?_
            refine r_goto ?_
            refine At.enter rfl ?_
            refine r_istore _ rfl ?_
            refine r_iload (w_e1 _ _ _) ?_
            refine r_iff 119 rfl (by decide) ?_
            refine At.enter rfl ?_
            refine r_iload_n (w_p1 (by decide) (Or.inr rfl) (w_p1 (by decide) (Or.inr rfl) (w_p1 (by decide) (Or.inr rfl) (w_p1 (by decide) (Or.inr rfl) (w_p1 (by decide) (Or.inr rfl) e3891))))) ?_
            refine r_ifs 123 rfl (fun c4011 => ?_) (fun c4011 => ?_)
            · have c4011_ : v2717.toInt = 0 := en_k_eq_t c4011
              refine At.enter rfl ?_
              refine r_iload (w_e1 _ _ _) ?_
              refine r_ift (by decide) ?_
              refine At.enter rfl ?_
              refine r_aload_n (w_p1 (by decide) (Or.inr rfl) (w_p1 (by decide) (Or.inr rfl) (w_p1 (by decide) (Or.inr rfl) (w_p1 (by decide) (Or.inr rfl) (w_p1 (by decide) (Or.inr rfl) e3889))))) ?_
              refine r_iconst 1 rfl ?_
              refine q_putI (Sh.int hI3911.1 kx_204 rfl) rfl ?_
              have hI4012 := HI.wI0 hI3911 kx_204 rfl (p := 204) (b := 18) (v := 1) rfl
              have hF4013 := Fr.wI (p := 204) (b := 18) (v := 1) hF3915 rfl
              refine r_aload_n (w_p1 (by decide) (Or.inr rfl) (w_p1 (by decide) (Or.inr rfl) (w_p1 (by decide) (Or.inr rfl) (w_p1 (by decide) (Or.inr rfl) (w_p1 (by decide) (Or.inr rfl) e3889))))) ?_
              refine r_iload (w_p1 (by decide) (Or.inr rfl) (w_p1 (by decide) (Or.inr rfl) (w_p1 (by decide) (Or.inr rfl) (w_e1 _ _ _)))) ?_
              refine r_iload (w_p1 (by decide) (Or.inr rfl) (w_p1 (by decide) (Or.inr rfl) (w_p1 (by decide) (Or.inr rfl) (w_p1 (by decide) (Or.inr rfl) (w_e1 _ _ _))))) ?_
              refine r_callV 212 rfl [.ref 204, .int v3901, .int v3900] [] (Nat.le_of_ble_eq_true rfl) rfl (T_X1_giveUp_204 _ hI4012 v3901 v3900 (by omega)) ?_
              rintro _ _ ⟨g4014, rfl, hI4015, hF4016, rfl⟩
              refine At.stn ?_
              have hF4019 := Fr.tr hF4013 hF4016 rfl rfl
              refine At.enter rfl ?_
              refine r_aload_n (w_p1 (by decide) (Or.inr rfl) (w_p1 (by decide) (Or.inr rfl) (w_p1 (by decide) (Or.inr rfl) (w_p1 (by decide) (Or.inr rfl) (w_p1 (by decide) (Or.inr rfl) e3889))))) ?_
              refine q_getR (Sh.ref hI4015.1 kx_204 rfl) ?_
              refine r_iload (w_p1 (by decide) (Or.inr rfl) (w_p1 (by decide) (Or.inr rfl) (w_p1 (by decide) (Or.inr rfl) (w_p1 (by decide) (Or.inr rfl) (w_e1 _ _ _))))) ?_
              refine r_dup2 ⟨rfl, rfl⟩ ?_
              obtain ⟨v4020, hv4020⟩ : ∃ v, eA g3883 210 v3900.toInt = v := ⟨_, rfl⟩
              refine q_iald (Sh.arr hI4015.1 ka_210) v3900.toInt rfl (by omega) v4020 ((eA_c ((hF4016.2.1 210 ma_X1_giveUp_204_210).trans ((gA_sI).trans (hF3912.2.1 210 ma_X0_about_1_210)))).trans hv4020) ?_
              refine r_iconst 1 rfl ?_
              refine q_isubO (fun v4021 _ => ?_)
              refine q_iast (Sh.arr hI4015.1 ka_210) (v3900.toInt) rfl (by omega) ?_
              have hI4022 := HI.wA0 hI4015 ka_210 (p := 210) rfl rfl (v3900.toInt) (v4021)
              have hF4023 := Fr.wA (p := 210) (j := v3900.toInt) (v := v4021) hF4019 rfl
              refine r_iload (w_p1 (by decide) (Or.inr rfl) (w_e1 _ _ _)) ?_
              refine r_iff 228 rfl (by decide) ?_
              refine At.enter rfl ?_
              refine r_aload_n (w_p1 (by decide) (Or.inr rfl) (w_p1 (by decide) (Or.inr rfl) (w_p1 (by decide) (Or.inr rfl) (w_p1 (by decide) (Or.inr rfl) (w_p1 (by decide) (Or.inr rfl) e3889))))) ?_
              refine q_getR (Sh.ref hI4022.1 kx_204 rfl) ?_
              refine r_iload (w_p1 (by decide) (Or.inr rfl) (w_p1 (by decide) (Or.inr rfl) (w_p1 (by decide) (Or.inr rfl) (w_p1 (by decide) (Or.inr rfl) (w_e1 _ _ _))))) ?_
              refine r_iload_n (w_p1 (by decide) (Or.inr rfl) (w_p1 (by decide) (Or.inr rfl) (w_p1 (by decide) (Or.inr rfl) (w_p1 (by decide) (Or.inr rfl) (w_p1 (by decide) (Or.inr rfl) e3890))))) ?_
              refine q_iast (Sh.arr hI4022.1 ka_212) (v3900.toInt) rfl (by omega) ?_
              have hI4024 := HI.wA0 hI4022 ka_212 (p := 212) rfl rfl (v3900.toInt) (a1)
              have hF4025 := Fr.wA (p := 212) (j := v3900.toInt) (v := a1) hF4023 rfl
              refine r_goto ?_
              refine At.enter rfl ?_
              refine q_iinc (w_p1 (by decide) (Or.inr rfl) (w_p1 (by decide) (Or.inr rfl) (w_p1 (by decide) (Or.inr rfl) (w_p1 (by decide) (Or.inr rfl) (w_p1 (by decide) (Or.inr rfl) e3892))))) (x3882.toInt + 1) rfl (by omega) (fun v4026 hv4026 => ?_)
              refine r_goto ?_
              exact ih3888 (8 - v4026.toInt) _ _ ⟨v4026, by first | rfl | omega, hI4024, hF4025, (w_p1 (by decide) (Or.inr rfl) (w_p1 (by decide) (Or.inr rfl) (w_p1 (by decide) (Or.inr rfl) (w_p1 (by decide) (Or.inr rfl) (w_p1 (by decide) (Or.inr rfl) (w_p1 (by decide) (Or.inr rfl) e3889)))))), (w_p1 (by decide) (Or.inr rfl) (w_p1 (by decide) (Or.inr rfl) (w_p1 (by decide) (Or.inr rfl) (w_p1 (by decide) (Or.inr rfl) (w_p1 (by decide) (Or.inr rfl) (w_p1 (by decide) (Or.inr rfl) e3890)))))), (w_p1 (by decide) (Or.inr rfl) (w_p1 (by decide) (Or.inr rfl) (w_p1 (by decide) (Or.inr rfl) (w_p1 (by decide) (Or.inr rfl) (w_p1 (by decide) (Or.inr rfl) (w_p1 (by decide) (Or.inr rfl) e3891)))))), (w_e1 _ _ _), by omega⟩ ⟨by omega, by omega⟩
            · have c4011_ : v2717.toInt ≠ 0 := en_k_eq_f c4011
              refine At.enter rfl ?_
              refine r_aload_n (w_p1 (by decide) (Or.inr rfl) (w_p1 (by decide) (Or.inr rfl) (w_p1 (by decide) (Or.inr rfl) (w_p1 (by decide) (Or.inr rfl) (w_p1 (by decide) (Or.inr rfl) e3889))))) ?_
              refine q_getR (Sh.ref hI3911.1 kx_204 rfl) ?_
              refine r_iconst 2 rfl ?_
              refine r_iload (w_p1 (by decide) (Or.inr rfl) (w_p1 (by decide) (Or.inr rfl) (w_p1 (by decide) (Or.inr rfl) (w_p1 (by decide) (Or.inr rfl) (w_e1 _ _ _))))) ?_
              refine r_iload (w_p1 (by decide) (Or.inr rfl) (w_p1 (by decide) (Or.inr rfl) (w_p1 (by decide) (Or.inr rfl) (w_e1 _ _ _)))) ?_
              refine r_iload_n (w_p1 (by decide) (Or.inr rfl) (w_p1 (by decide) (Or.inr rfl) (w_p1 (by decide) (Or.inr rfl) (w_p1 (by decide) (Or.inr rfl) (w_p1 (by decide) (Or.inr rfl) e3890))))) ?_
              refine r_aload_n (w_p1 (by decide) (Or.inr rfl) (w_p1 (by decide) (Or.inr rfl) (w_p1 (by decide) (Or.inr rfl) (w_p1 (by decide) (Or.inr rfl) (w_p1 (by decide) (Or.inr rfl) e3889))))) ?_
              refine q_getR (Sh.ref hI3911.1 kx_204 rfl) ?_
              refine r_iload (w_p1 (by decide) (Or.inr rfl) (w_p1 (by decide) (Or.inr rfl) (w_p1 (by decide) (Or.inr rfl) (w_p1 (by decide) (Or.inr rfl) (w_e1 _ _ _))))) ?_
              obtain ⟨v4027, hv4027⟩ : ∃ v, eA g3883 214 v3900.toInt = v := ⟨_, rfl⟩
              refine q_iald (Sh.arr hI3911.1 ka_214) v3900.toInt rfl (by omega) v4027 ((eA_c (hF3912.2.1 214 ma_X0_about_1_214)).trans hv4027) ?_
              refine r_aload_n (w_p1 (by decide) (Or.inr rfl) (w_p1 (by decide) (Or.inr rfl) (w_p1 (by decide) (Or.inr rfl) (w_p1 (by decide) (Or.inr rfl) (w_p1 (by decide) (Or.inr rfl) e3889))))) ?_
              refine q_getR (Sh.ref hI3911.1 kx_204 rfl) ?_
              refine r_iload (w_p1 (by decide) (Or.inr rfl) (w_p1 (by decide) (Or.inr rfl) (w_p1 (by decide) (Or.inr rfl) (w_e1 _ _ _)))) ?_
              obtain ⟨v4028, hv4028⟩ : ∃ v, eA g0 205 v3901.toInt = v := ⟨_, rfl⟩
              refine q_iald (Sh.arr hI3911.1 ka_205) v3901.toInt rfl (by omega) v4028 ((eA_c ((hF3912.2.1 205 ma_X0_about_1_205).trans (hF3885.2.1 205 (by decide)))).trans hv4028) ?_
              refine r_aload_n (w_p1 (by decide) (Or.inr rfl) (w_p1 (by decide) (Or.inr rfl) (w_p1 (by decide) (Or.inr rfl) (w_p1 (by decide) (Or.inr rfl) (w_p1 (by decide) (Or.inr rfl) e3889))))) ?_
              refine q_getR (Sh.ref hI3911.1 kx_204 rfl) ?_
              refine r_iload (w_p1 (by decide) (Or.inr rfl) (w_p1 (by decide) (Or.inr rfl) (w_p1 (by decide) (Or.inr rfl) (w_e1 _ _ _)))) ?_
              obtain ⟨v4029, hv4029⟩ : ∃ v, eA g0 206 v3901.toInt = v := ⟨_, rfl⟩
              refine q_iald (Sh.arr hI3911.1 ka_206) v3901.toInt rfl (by omega) v4029 ((eA_c ((hF3912.2.1 206 ma_X0_about_1_206).trans (hF3885.2.1 206 (by decide)))).trans hv4029) ?_
              refine r_callV 157 rfl [.ref 185, .int 2, .int v3900, .int v3901, .int a1, .int v4027, .int v4028, .int v4029] [] (Nat.le_of_ble_eq_true rfl) rfl (T_X3_tells_185 _ hI3911 2 v3900 v3901 a1 v4027 v4028 v4029) ?_
              rintro _ _ ⟨g4030, rfl, hI4031, hF4032, v4033, rfl, hr4034⟩
              refine At.stl ?_
              have hF4035 := Fr.tr hF3915 hF4032 rfl rfl
              refine At.enter rfl ?_
              refine r_lconst 0 rfl ?_
              refine r_lcmp _ rfl ?_
              refine r_ifs 162 rfl (fun c4036 => ?_) (fun c4036 => ?_)
              · have c4036_ : v4033.toInt ≠ 0 := en_j_ne_t c4036
                refine At.enter rfl ?_
                refine r_iconst 0 rfl ?_
                refine Ar.fall 167 rfl ?_
                refine At.enter rfl ?_
                refine r_istore _ rfl ?_
                refine Ar.fall 169 rfl ?_
                refine At.enter rfl ?_
                refine r_iload (w_e1 _ _ _) ?_
                refine r_iff 174 rfl (by decide) ?_
                refine At.enter rfl ?_
                refine r_aload_n (w_p1 (by decide) (Or.inr rfl) (w_p1 (by decide) (Or.inr rfl) (w_p1 (by decide) (Or.inr rfl) (w_p1 (by decide) (Or.inr rfl) (w_p1 (by decide) (Or.inr rfl) (w_p1 (by decide) (Or.inr rfl) e3889)))))) ?_
                refine q_getR (Sh.ref hI4031.1 kx_204 rfl) ?_
                refine r_iload (w_p1 (by decide) (Or.inr rfl) (w_p1 (by decide) (Or.inr rfl) (w_p1 (by decide) (Or.inr rfl) (w_p1 (by decide) (Or.inr rfl) (w_p1 (by decide) (Or.inr rfl) (w_e1 _ _ _)))))) ?_
                refine r_dup2 ⟨rfl, rfl⟩ ?_
                refine q_iald (Sh.arr hI4031.1 ka_214) v3900.toInt rfl (by omega) v4027 ((eA_c ((hF4032.2.1 214 ma_X3_tells_185_214).trans (hF3912.2.1 214 ma_X0_about_1_214))).trans hv4027) ?_
                refine r_iconst 1 rfl ?_
                refine q_iaddO (fun v4037 _ => ?_)
                refine q_iast (Sh.arr hI4031.1 ka_214) (v3900.toInt) rfl (by omega) ?_
                have hI4038 := HI.wA0 hI4031 ka_214 (p := 214) rfl rfl (v3900.toInt) (v4037)
                have hF4039 := Fr.wA (p := 214) (j := v3900.toInt) (v := v4037) hF4035 rfl
                refine r_aload_n (w_p1 (by decide) (Or.inr rfl) (w_p1 (by decide) (Or.inr rfl) (w_p1 (by decide) (Or.inr rfl) (w_p1 (by decide) (Or.inr rfl) (w_p1 (by decide) (Or.inr rfl) (w_p1 (by decide) (Or.inr rfl) e3889)))))) ?_
                refine q_getR (Sh.ref hI4038.1 kx_204 rfl) ?_
                refine r_iload (w_p1 (by decide) (Or.inr rfl) (w_p1 (by decide) (Or.inr rfl) (w_p1 (by decide) (Or.inr rfl) (w_p1 (by decide) (Or.inr rfl) (w_p1 (by decide) (Or.inr rfl) (w_e1 _ _ _)))))) ?_
                refine r_dup2 ⟨rfl, rfl⟩ ?_
                obtain ⟨v4040, hv4040⟩ : ∃ v, eA g3883 213 v3900.toInt = v := ⟨_, rfl⟩
                refine q_iald (Sh.arr hI4038.1 ka_213) v3900.toInt rfl (by omega) v4040 ((eA_c ((gA_sA_ne (by decide)).trans ((hF4032.2.1 213 ma_X3_tells_185_213).trans (hF3912.2.1 213 ma_X0_about_1_213)))).trans hv4040) ?_
                refine r_iconst 1 rfl ?_
                refine q_iaddO (fun v4041 _ => ?_)
                refine q_iast (Sh.arr hI4038.1 ka_213) (v3900.toInt) rfl (by omega) ?_
                have hI4042 := HI.wA0 hI4038 ka_213 (p := 213) rfl rfl (v3900.toInt) (v4041)
                have hF4043 := Fr.wA (p := 213) (j := v3900.toInt) (v := v4041) hF4039 rfl
                refine r_goto ?_
                refine At.enter rfl ?_
                refine q_iinc (w_p1 (by decide) (Or.inr rfl) (w_p1 (by decide) (Or.inr rfl) (w_p1 (by decide) (Or.inr rfl) (w_p1 (by decide) (Or.inr rfl) (w_p1 (by decide) (Or.inr rfl) (w_p1 (by decide) (Or.inr rfl) e3892)))))) (x3882.toInt + 1) rfl (by omega) (fun v4044 hv4044 => ?_)
                refine r_goto ?_
                exact ih3888 (8 - v4044.toInt) _ _ ⟨v4044, by first | rfl | omega, hI4042, hF4043, (w_p1 (by decide) (Or.inr rfl) (w_p1 (by decide) (Or.inr rfl) (w_p1 (by decide) (Or.inr rfl) (w_p1 (by decide) (Or.inr rfl) (w_p1 (by decide) (Or.inr rfl) (w_p1 (by decide) (Or.inr rfl) (w_p1 (by decide) (Or.inr rfl) e3889))))))), (w_p1 (by decide) (Or.inr rfl) (w_p1 (by decide) (Or.inr rfl) (w_p1 (by decide) (Or.inr rfl) (w_p1 (by decide) (Or.inr rfl) (w_p1 (by decide) (Or.inr rfl) (w_p1 (by decide) (Or.inr rfl) (w_p1 (by decide) (Or.inr rfl) e3890))))))), (w_p1 (by decide) (Or.inr rfl) (w_p1 (by decide) (Or.inr rfl) (w_p1 (by decide) (Or.inr rfl) (w_p1 (by decide) (Or.inr rfl) (w_p1 (by decide) (Or.inr rfl) (w_p1 (by decide) (Or.inr rfl) (w_p1 (by decide) (Or.inr rfl) e3891))))))), (w_e1 _ _ _), by omega⟩ ⟨by omega, by omega⟩
              · have c4036_ : v4033.toInt = 0 := en_j_ne_f c4036
                refine At.enter rfl ?_
                refine r_iconst 1 rfl ?_
                refine r_goto ?_
                refine At.enter rfl ?_
                refine r_istore _ rfl ?_
                refine Ar.fall 169 rfl ?_
                refine At.enter rfl ?_
                refine r_iload (w_e1 _ _ _) ?_
                refine r_ift (by decide) ?_
                refine At.enter rfl ?_
                refine r_aload_n (w_p1 (by decide) (Or.inr rfl) (w_p1 (by decide) (Or.inr rfl) (w_p1 (by decide) (Or.inr rfl) (w_p1 (by decide) (Or.inr rfl) (w_p1 (by decide) (Or.inr rfl) (w_p1 (by decide) (Or.inr rfl) e3889)))))) ?_
                refine r_iconst 1 rfl ?_
                refine q_putI (Sh.int hI4031.1 kx_204 rfl) rfl ?_
                have hI4045 := HI.wI0 hI4031 kx_204 rfl (p := 204) (b := 18) (v := 1) rfl
                have hF4046 := Fr.wI (p := 204) (b := 18) (v := 1) hF4035 rfl
                refine r_aload_n (w_p1 (by decide) (Or.inr rfl) (w_p1 (by decide) (Or.inr rfl) (w_p1 (by decide) (Or.inr rfl) (w_p1 (by decide) (Or.inr rfl) (w_p1 (by decide) (Or.inr rfl) (w_p1 (by decide) (Or.inr rfl) e3889)))))) ?_
                refine r_iload (w_p1 (by decide) (Or.inr rfl) (w_p1 (by decide) (Or.inr rfl) (w_p1 (by decide) (Or.inr rfl) (w_p1 (by decide) (Or.inr rfl) (w_e1 _ _ _))))) ?_
                refine r_iload (w_p1 (by decide) (Or.inr rfl) (w_p1 (by decide) (Or.inr rfl) (w_p1 (by decide) (Or.inr rfl) (w_p1 (by decide) (Or.inr rfl) (w_p1 (by decide) (Or.inr rfl) (w_e1 _ _ _)))))) ?_
                refine r_callV 212 rfl [.ref 204, .int v3901, .int v3900] [] (Nat.le_of_ble_eq_true rfl) rfl (T_X1_giveUp_204 _ hI4045 v3901 v3900 (by omega)) ?_
                rintro _ _ ⟨g4047, rfl, hI4048, hF4049, rfl⟩
                refine At.stn ?_
                have hF4052 := Fr.tr hF4046 hF4049 rfl rfl
                refine At.enter rfl ?_
                refine r_aload_n (w_p1 (by decide) (Or.inr rfl) (w_p1 (by decide) (Or.inr rfl) (w_p1 (by decide) (Or.inr rfl) (w_p1 (by decide) (Or.inr rfl) (w_p1 (by decide) (Or.inr rfl) (w_p1 (by decide) (Or.inr rfl) e3889)))))) ?_
                refine q_getR (Sh.ref hI4048.1 kx_204 rfl) ?_
                refine r_iload (w_p1 (by decide) (Or.inr rfl) (w_p1 (by decide) (Or.inr rfl) (w_p1 (by decide) (Or.inr rfl) (w_p1 (by decide) (Or.inr rfl) (w_p1 (by decide) (Or.inr rfl) (w_e1 _ _ _)))))) ?_
                refine r_dup2 ⟨rfl, rfl⟩ ?_
                obtain ⟨v4053, hv4053⟩ : ∃ v, eA g3883 210 v3900.toInt = v := ⟨_, rfl⟩
                refine q_iald (Sh.arr hI4048.1 ka_210) v3900.toInt rfl (by omega) v4053 ((eA_c ((hF4049.2.1 210 ma_X1_giveUp_204_210).trans ((gA_sI).trans ((hF4032.2.1 210 ma_X3_tells_185_210).trans (hF3912.2.1 210 ma_X0_about_1_210))))).trans hv4053) ?_
                refine r_iconst 1 rfl ?_
                refine q_isubO (fun v4054 _ => ?_)
                refine q_iast (Sh.arr hI4048.1 ka_210) (v3900.toInt) rfl (by omega) ?_
                have hI4055 := HI.wA0 hI4048 ka_210 (p := 210) rfl rfl (v3900.toInt) (v4054)
                have hF4056 := Fr.wA (p := 210) (j := v3900.toInt) (v := v4054) hF4052 rfl
                refine r_iload (w_p1 (by decide) (Or.inr rfl) (w_p1 (by decide) (Or.inr rfl) (w_e1 _ _ _))) ?_
                refine r_iff 228 rfl (by decide) ?_
                refine At.enter rfl ?_
                refine r_aload_n (w_p1 (by decide) (Or.inr rfl) (w_p1 (by decide) (Or.inr rfl) (w_p1 (by decide) (Or.inr rfl) (w_p1 (by decide) (Or.inr rfl) (w_p1 (by decide) (Or.inr rfl) (w_p1 (by decide) (Or.inr rfl) e3889)))))) ?_
                refine q_getR (Sh.ref hI4055.1 kx_204 rfl) ?_
                refine r_iload (w_p1 (by decide) (Or.inr rfl) (w_p1 (by decide) (Or.inr rfl) (w_p1 (by decide) (Or.inr rfl) (w_p1 (by decide) (Or.inr rfl) (w_p1 (by decide) (Or.inr rfl) (w_e1 _ _ _)))))) ?_
                refine r_iload_n (w_p1 (by decide) (Or.inr rfl) (w_p1 (by decide) (Or.inr rfl) (w_p1 (by decide) (Or.inr rfl) (w_p1 (by decide) (Or.inr rfl) (w_p1 (by decide) (Or.inr rfl) (w_p1 (by decide) (Or.inr rfl) e3890)))))) ?_
                refine q_iast (Sh.arr hI4055.1 ka_212) (v3900.toInt) rfl (by omega) ?_
                have hI4057 := HI.wA0 hI4055 ka_212 (p := 212) rfl rfl (v3900.toInt) (a1)
                have hF4058 := Fr.wA (p := 212) (j := v3900.toInt) (v := a1) hF4056 rfl
                refine r_goto ?_
                refine At.enter rfl ?_
                refine q_iinc (w_p1 (by decide) (Or.inr rfl) (w_p1 (by decide) (Or.inr rfl) (w_p1 (by decide) (Or.inr rfl) (w_p1 (by decide) (Or.inr rfl) (w_p1 (by decide) (Or.inr rfl) (w_p1 (by decide) (Or.inr rfl) e3892)))))) (x3882.toInt + 1) rfl (by omega) (fun v4059 hv4059 => ?_)
                refine r_goto ?_
                exact ih3888 (8 - v4059.toInt) _ _ ⟨v4059, by first | rfl | omega, hI4057, hF4058, (w_p1 (by decide) (Or.inr rfl) (w_p1 (by decide) (Or.inr rfl) (w_p1 (by decide) (Or.inr rfl) (w_p1 (by decide) (Or.inr rfl) (w_p1 (by decide) (Or.inr rfl) (w_p1 (by decide) (Or.inr rfl) (w_p1 (by decide) (Or.inr rfl) e3889))))))), (w_p1 (by decide) (Or.inr rfl) (w_p1 (by decide) (Or.inr rfl) (w_p1 (by decide) (Or.inr rfl) (w_p1 (by decide) (Or.inr rfl) (w_p1 (by decide) (Or.inr rfl) (w_p1 (by decide) (Or.inr rfl) (w_p1 (by decide) (Or.inr rfl) e3890))))))), (w_p1 (by decide) (Or.inr rfl) (w_p1 (by decide) (Or.inr rfl) (w_p1 (by decide) (Or.inr rfl) (w_p1 (by decide) (Or.inr rfl) (w_p1 (by decide) (Or.inr rfl) (w_p1 (by decide) (Or.inr rfl) (w_p1 (by decide) (Or.inr rfl) e3891))))))), (w_e1 _ _ _), by omega⟩ ⟨by omega, by omega⟩
