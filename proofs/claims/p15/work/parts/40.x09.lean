def F_X1_goOn_188 : List (Nat × Nat) := [(185, 3), (188, 18)]
def A_X1_goOn_188 : List Nat := [194, 195, 196, 197, 198, 199, 200]
theorem ma_X0_about_1_198 : memA A_X0_about_1 198 = false := by decide
theorem ma_X0_about_1_197 : memA A_X0_about_1 197 = false := by decide
theorem ma_X1_canHold_188_198 : memA A_X1_canHold_188 198 = false := by decide
theorem ma_X1_canHold_188_197 : memA A_X1_canHold_188 197 = false := by decide
theorem ma_X1_giveUp_188_194 : memA A_X1_giveUp_188 194 = false := by decide
theorem ma_X1_canHold_188_194 : memA A_X1_canHold_188 194 = false := by decide
theorem ma_X0_about_1_194 : memA A_X0_about_1 194 = false := by decide
theorem ma_X1_canHold_188_189 : memA A_X1_canHold_188 189 = false := by decide
theorem ma_X1_canHold_188_190 : memA A_X1_canHold_188 190 = false := by decide
theorem ma_X0_about_1_190 : memA A_X0_about_1 190 = false := by decide
theorem ma_X3_tells_185_198 : memA A_X3_tells_185 198 = false := by decide
theorem ma_X3_tells_185_197 : memA A_X3_tells_185 197 = false := by decide
theorem ma_X3_tells_185_194 : memA A_X3_tells_185 194 = false := by decide
set_option maxRecDepth 100000 in
set_option maxHeartbeats 4000000 in
theorem T_X1_goOn_188 (d : Nat) {N : Nat} {g0 : List en_E} (hI0 : HI g0) (a1 : Int32) : Ev (d + 4) 30 [.ref 188, .int a1] (g0, N) (fun w h' => ∃ g', h' = (g', N) ∧ HI g' ∧ Fr F_X1_goOn_188 A_X1_goOn_188 g0 g' ∧ w = none) := by
  have hF0 : Fr F_X1_goOn_188 A_X1_goOn_188 g0 g0 := Fr.rf
  refine Ev.mk rfl rfl ⟨Nat.le_of_ble_eq_true rfl, Or.inr (q_rc hI0.1 kx_188 rfl)⟩ ?_
  show At _ none _ _ (0, [(0, .ref 188), (1, .int a1)], [], (_, _)) _
  refine At.enter rfl ?_
  refine r_aload_n rfl ?_
  refine q_getR (Sh.ref hI0.1 kx_188 rfl) ?_
  refine q_inlV 7 rfl [.ref 1] [] (Nat.le_of_ble_eq_true rfl) rfl ?_
  refine Ev.mk rfl rfl ⟨Nat.le_of_ble_eq_true rfl, Or.inr (q_rc hI0.1 kx_1 rfl)⟩ ?_
  show At _ none _ _ (0, [(0, .ref 1)], [], (_, _)) _
  refine At.enter rfl ?_
  refine r_aload_n rfl ?_
  refine r_aload_n rfl ?_
  obtain ⟨v2691, hv2691⟩ : ∃ v, gI g0 1 9 = v := ⟨_, rfl⟩
  refine q_getI (Sh.int hI0.1 kx_1 rfl) v2691 hv2691 ?_
  refine r_callV 8 rfl [.ref 1, .int v2691] [] (Nat.le_of_ble_eq_true rfl) rfl (T_X0_lawAt_1 _ hI0 v2691) ?_
  rintro _ _ ⟨g2692, rfl, hI2693, hF2694, v2695, rfl, hr2696⟩
  refine At.str ?_
  have hF2697 := Fr.tr hF0 hF2694 rfl rfl
  refine At.enter rfl ?_
  refine q_aret ?_
  refine At.enter rfl ?_
  refine r_iconst 2 rfl ?_
  refine r_callV 11 rfl [.ref (v2695), .int 2] [] (Nat.le_of_ble_eq_true rfl) rfl (T_X4_speaksOf_law _ hI2693 (v2695) hr2696 2) ?_
  rintro _ _ ⟨g2698, rfl, hI2699, hF2700, v2701, rfl, hr2702⟩
  refine At.sti ?_
  have hF2703 := Fr.tr hF2697 hF2700 rfl rfl
  refine At.enter rfl ?_
  refine r_istore_n ([(2, .int v2701), (0, .ref 188), (1, .int a1)]) rfl ?_
  refine r_iconst 0 rfl ?_
  refine r_istore_n ([(3, .int 0), (2, .int v2701), (0, .ref 188), (1, .int a1)]) rfl ?_
  refine Ar.fall 14 rfl ?_
  have z_3871 : (0 : Int32).toInt = 0 := rfl
  refine w_loopI (fun n_ l_ g_ => ∃ x3859 : Int32, n_ = 8 - x3859.toInt ∧ HI g_ ∧ Fr F_X1_goOn_188 A_X1_goOn_188 g0 g_ ∧ en_get 0 l_ = some (.ref 188) ∧ en_get 1 l_ = some (.int a1) ∧ en_get 2 l_ = some (.int v2701) ∧ en_get 3 l_ = some (.int x3859) ∧ (0 ≤ x3859.toInt ∧ x3859.toInt ≤ 8)) ?_ (8 - 0) ⟨0, by first | rfl | omega, hI2699, hF2703, rfl, rfl, rfl, rfl, by decide⟩
  rintro n3864 l3863 g3860 ⟨x3859, hm3872, hI3861, hF3862, e3866, e3867, e3868, e3869, r3870⟩ ih3865
  refine At.enter rfl ?_
  refine r_iload_n e3869 ?_
  refine r_aload_n e3866 ?_
  obtain ⟨v3873, hv3873⟩ : ∃ v, gI g0 188 16 = v := ⟨_, rfl⟩
  have rv3873 := RgF.at hI0.2.1 (p := 188) (b := 16) rfl
  rw [hv3873] at rv3873
  dsimp only at rv3873
  refine q_getI (Sh.int hI3861.1 kx_188 rfl) v3873 ((hF3862.1 188 16 (by decide)).trans hv3873) ?_
  have bv3875 := q_bnd x3859
  have bv3876 := q_bnd v3873
  refine r_ics 22 rfl (fun c3874 => ?_) (fun c3874 => ?_)
  · have c3874_ : x3859.toInt ≥ v3873.toInt := en_i_ge_t c3874
    refine At.enter rfl ?_
    refine r_vret ?_
    exact ⟨_, rfl, hI3861, hF3862, rfl⟩
  · have c3874_ : x3859.toInt < v3873.toInt := en_i_ge_f c3874
    refine At.enter rfl ?_
    refine r_aload_n e3866 ?_
    refine q_getR (Sh.ref hI3861.1 kx_188 rfl) ?_
    refine r_iload_n e3869 ?_
    obtain ⟨v3877, hv3877⟩ : ∃ v, eA g0 202 x3859.toInt = v := ⟨_, rfl⟩
    have rv3877 := RgA.at hI0.2.2.1 (Sh.arr hI0.1 ka_202).2 (p := 202) rfl (j := x3859.toInt) (by omega)
    rw [hv3877] at rv3877
    dsimp only at rv3877
    refine q_iald (Sh.arr hI3861.1 ka_202) x3859.toInt rfl (by omega) v3877 ((eA_c (hF3862.2.1 202 (by decide))).trans hv3877) ?_
    refine r_istore _ rfl ?_
    refine r_aload_n (w_p1 (by decide) (Or.inr rfl) e3866) ?_
    refine q_getR (Sh.ref hI3861.1 kx_188 rfl) ?_
    refine r_iload (w_e1 _ _ _) ?_
    obtain ⟨v3878, hv3878⟩ : ∃ v, eA g3860 195 v3877.toInt = v := ⟨_, rfl⟩
    refine q_iald (Sh.arr hI3861.1 ka_195) v3877.toInt rfl (by omega) v3878 hv3878 ?_
    refine r_istore _ rfl ?_
    refine r_aload_n (w_p1 (by decide) (Or.inr rfl) (w_p1 (by decide) (Or.inr rfl) e3866)) ?_
    refine q_getR (Sh.ref hI3861.1 kx_188 rfl) ?_
    refine r_iload (w_e1 _ _ _) ?_
    refine q_inlV 48 rfl [.ref 1, .int v3878] [] (Nat.le_of_ble_eq_true rfl) rfl ?_
    refine Ev.mk rfl rfl ⟨Nat.le_of_ble_eq_true rfl, Or.inr (q_rc hI3861.1 kx_1 rfl)⟩ ?_
    show At _ none _ _ (0, [(0, .ref 1), (1, .int v3878)], [], (_, _)) _
    refine At.enter rfl ?_
    refine r_iload_n rfl ?_
    refine r_ifs 4 rfl (fun c3879 => ?_) (fun c3879 => ?_)
    · have c3879_ : v3878.toInt < 0 := en_k_lt_t c3879
      refine At.enter rfl ?_
      refine r_iconst 0 rfl ?_
      refine Ar.fall 17 rfl ?_
      refine At.enter rfl ?_
      refine q_iretz (by decide) ?_
      refine At.enter rfl ?_
      refine r_iff 51 rfl (by decide) ?_
      refine At.enter rfl ?_
      refine r_goto ?_
      refine At.enter rfl ?_
      refine q_iinc (w_p1 (by decide) (Or.inr rfl) (w_p1 (by decide) (Or.inr rfl) e3869)) (x3859.toInt + 1) rfl (by omega) (fun v3880 hv3880 => ?_)
      refine r_goto ?_
      exact ih3865 (8 - v3880.toInt) _ _ ⟨v3880, by first | rfl | omega, hI3861, hF3862, (w_p1 (by decide) (Or.inr rfl) (w_p1 (by decide) (Or.inr rfl) (w_p1 (by decide) (Or.inr rfl) e3866))), (w_p1 (by decide) (Or.inr rfl) (w_p1 (by decide) (Or.inr rfl) (w_p1 (by decide) (Or.inr rfl) e3867))), (w_p1 (by decide) (Or.inr rfl) (w_p1 (by decide) (Or.inr rfl) (w_p1 (by decide) (Or.inr rfl) e3868))), (w_e1 _ _ _), by omega⟩ ⟨by omega, by omega⟩
    · have c3879_ : v3878.toInt ≥ 0 := en_k_lt_f c3879
      refine At.enter rfl ?_
      refine r_iload_n rfl ?_
      refine r_aload_n rfl ?_
      obtain ⟨v3881, hv3881⟩ : ∃ v, gI g0 1 0 = v := ⟨_, rfl⟩
      have rv3881 := RgF.at hI0.2.1 (p := 1) (b := 0) rfl
      rw [hv3881] at rv3881
      dsimp only at rv3881
      refine q_getI (Sh.int hI3861.1 kx_1 rfl) v3881 ((hF3862.1 1 0 (by decide)).trans hv3881) ?_
      have bv3883 := q_bnd v3878
      have bv3884 := q_bnd v3881
      refine r_ics 12 rfl (fun c3882 => ?_) (fun c3882 => ?_)
      · have c3882_ : v3878.toInt ≥ v3881.toInt := en_i_ge_t c3882
        refine At.enter rfl ?_
        refine r_iconst 0 rfl ?_
        refine Ar.fall 17 rfl ?_
        refine At.enter rfl ?_
        refine q_iretz (by decide) ?_
        refine At.enter rfl ?_
        refine r_iff 51 rfl (by decide) ?_
        refine At.enter rfl ?_
        refine r_goto ?_
        refine At.enter rfl ?_
        refine q_iinc (w_p1 (by decide) (Or.inr rfl) (w_p1 (by decide) (Or.inr rfl) e3869)) (x3859.toInt + 1) rfl (by omega) (fun v3885 hv3885 => ?_)
        refine r_goto ?_
        exact ih3865 (8 - v3885.toInt) _ _ ⟨v3885, by first | rfl | omega, hI3861, hF3862, (w_p1 (by decide) (Or.inr rfl) (w_p1 (by decide) (Or.inr rfl) (w_p1 (by decide) (Or.inr rfl) e3866))), (w_p1 (by decide) (Or.inr rfl) (w_p1 (by decide) (Or.inr rfl) (w_p1 (by decide) (Or.inr rfl) e3867))), (w_p1 (by decide) (Or.inr rfl) (w_p1 (by decide) (Or.inr rfl) (w_p1 (by decide) (Or.inr rfl) e3868))), (w_e1 _ _ _), by omega⟩ ⟨by omega, by omega⟩
      · have c3882_ : v3878.toInt < v3881.toInt := en_i_ge_f c3882
        refine At.enter rfl ?_
        refine r_iconst 1 rfl ?_
        refine r_goto ?_
        refine At.enter rfl ?_
        refine q_iretz (by decide) ?_
        refine At.enter rfl ?_
        refine r_ift (by decide) ?_
        refine At.enter rfl ?_
        refine r_aload_n (w_p1 (by decide) (Or.inr rfl) (w_p1 (by decide) (Or.inr rfl) e3866)) ?_
        refine q_getR (Sh.ref hI3861.1 kx_188 rfl) ?_
        refine r_iload (w_e1 _ _ _) ?_
        obtain ⟨v3886, hv3886⟩ : ∃ v, eA g0 192 v3878.toInt = v := ⟨_, rfl⟩
        refine q_iald (Sh.arr hI3861.1 ka_192) v3878.toInt rfl (by omega) v3886 ((eA_c (hF3862.2.1 192 (by decide))).trans hv3886) ?_
        refine r_istore _ rfl ?_
        refine r_iload (w_e1 _ _ _) ?_
        refine r_aload_n (w_p1 (by decide) (Or.inr rfl) (w_p1 (by decide) (Or.inr rfl) (w_p1 (by decide) (Or.inr rfl) e3866))) ?_
        refine q_getR (Sh.ref hI3861.1 kx_188 rfl) ?_
        refine r_iload (w_p1 (by decide) (Or.inr rfl) (w_p1 (by decide) (Or.inr rfl) (w_e1 _ _ _))) ?_
        refine r_iconst 2 rfl ?_
        refine r_callV 75 rfl [.ref 1, .int v3877, .int 2] [.int v3886] (Nat.le_of_ble_eq_true rfl) rfl (T_X0_about_1 _ hI3861 v3877 2) ?_
        rintro _ _ ⟨g3887, rfl, hI3888, hF3889, v3890, rfl, hr3891⟩
        refine At.sti ?_
        have hF3892 := Fr.tr hF3862 hF3889 rfl rfl
        refine At.enter rfl ?_
        refine r_ics 78 rfl (fun c3893 => ?_) (fun c3893 => ?_)
        · have c3893_ : v3886.toInt ≠ v3890.toInt := en_i_ne_t c3893
          refine At.enter rfl ?_
          refine r_iconst 0 rfl ?_
          refine Ar.fall 83 rfl ?_
          refine At.enter rfl ?_
          refine r_istore _ rfl ?_
          refine r_iload (w_p1 (by decide) (Or.inr rfl) (w_e1 _ _ _)) ?_
          refine r_iconst (-1) rfl ?_
          refine r_ics 91 rfl (fun c3894 => ?_) (fun c3894 => ?_)
          · have c3894_ : v3886.toInt = (-1) := en_i_eq_t c3894
            refine At.enter rfl ?_
            refine r_iconst 0 rfl ?_
            refine Ar.fall 112 rfl ?_
            refine At.enter rfl ?_
            refine r_istore _ rfl ?_
            refine r_iload (w_e1 _ _ _) ?_
            refine r_ift (by decide) ?_
            refine At.enter rfl ?_
            refine r_iload (w_e1 _ _ _) ?_
            refine r_iff 174 rfl (by decide) ?_
            refine At.enter rfl ?_
            refine r_aload_n (w_p1 (by decide) (Or.inr rfl) (w_p1 (by decide) (Or.inr rfl) (w_p1 (by decide) (Or.inr rfl) (w_p1 (by decide) (Or.inr rfl) (w_p1 (by decide) (Or.inr rfl) e3866))))) ?_
            refine q_getR (Sh.ref hI3888.1 kx_188 rfl) ?_
            refine r_iload (w_p1 (by decide) (Or.inr rfl) (w_p1 (by decide) (Or.inr rfl) (w_p1 (by decide) (Or.inr rfl) (w_p1 (by decide) (Or.inr rfl) (w_e1 _ _ _))))) ?_
            refine r_dup2 ⟨rfl, rfl⟩ ?_
            obtain ⟨v3895, hv3895⟩ : ∃ v, eA g3860 198 v3877.toInt = v := ⟨_, rfl⟩
            refine q_iald (Sh.arr hI3888.1 ka_198) v3877.toInt rfl (by omega) v3895 ((eA_c (hF3889.2.1 198 ma_X0_about_1_198)).trans hv3895) ?_
            refine r_iconst 1 rfl ?_
            refine q_iaddO (fun v3896 _ => ?_)
            refine q_iast (Sh.arr hI3888.1 ka_198) (v3877.toInt) rfl (by omega) ?_
            have hI3897 := HI.wA0 hI3888 ka_198 (p := 198) rfl rfl (v3877.toInt) (v3896)
            have hF3898 := Fr.wA (p := 198) (j := v3877.toInt) (v := v3896) hF3892 rfl
            refine r_aload_n (w_p1 (by decide) (Or.inr rfl) (w_p1 (by decide) (Or.inr rfl) (w_p1 (by decide) (Or.inr rfl) (w_p1 (by decide) (Or.inr rfl) (w_p1 (by decide) (Or.inr rfl) e3866))))) ?_
            refine q_getR (Sh.ref hI3897.1 kx_188 rfl) ?_
            refine r_iload (w_p1 (by decide) (Or.inr rfl) (w_p1 (by decide) (Or.inr rfl) (w_p1 (by decide) (Or.inr rfl) (w_p1 (by decide) (Or.inr rfl) (w_e1 _ _ _))))) ?_
            refine r_dup2 ⟨rfl, rfl⟩ ?_
            obtain ⟨v3899, hv3899⟩ : ∃ v, eA g3860 197 v3877.toInt = v := ⟨_, rfl⟩
            refine q_iald (Sh.arr hI3897.1 ka_197) v3877.toInt rfl (by omega) v3899 ((eA_c ((gA_sA_ne (by decide)).trans (hF3889.2.1 197 ma_X0_about_1_197))).trans hv3899) ?_
            refine r_iconst 1 rfl ?_
            refine q_iaddO (fun v3900 _ => ?_)
            refine q_iast (Sh.arr hI3897.1 ka_197) (v3877.toInt) rfl (by omega) ?_
            have hI3901 := HI.wA0 hI3897 ka_197 (p := 197) rfl rfl (v3877.toInt) (v3900)
            have hF3902 := Fr.wA (p := 197) (j := v3877.toInt) (v := v3900) hF3898 rfl
            refine r_goto ?_
            refine At.enter rfl ?_
            refine q_iinc (w_p1 (by decide) (Or.inr rfl) (w_p1 (by decide) (Or.inr rfl) (w_p1 (by decide) (Or.inr rfl) (w_p1 (by decide) (Or.inr rfl) (w_p1 (by decide) (Or.inr rfl) e3869))))) (x3859.toInt + 1) rfl (by omega) (fun v3903 hv3903 => ?_)
            refine r_goto ?_
            exact ih3865 (8 - v3903.toInt) _ _ ⟨v3903, by first | rfl | omega, hI3901, hF3902, (w_p1 (by decide) (Or.inr rfl) (w_p1 (by decide) (Or.inr rfl) (w_p1 (by decide) (Or.inr rfl) (w_p1 (by decide) (Or.inr rfl) (w_p1 (by decide) (Or.inr rfl) (w_p1 (by decide) (Or.inr rfl) e3866)))))), (w_p1 (by decide) (Or.inr rfl) (w_p1 (by decide) (Or.inr rfl) (w_p1 (by decide) (Or.inr rfl) (w_p1 (by decide) (Or.inr rfl) (w_p1 (by decide) (Or.inr rfl) (w_p1 (by decide) (Or.inr rfl) e3867)))))), (w_p1 (by decide) (Or.inr rfl) (w_p1 (by decide) (Or.inr rfl) (w_p1 (by decide) (Or.inr rfl) (w_p1 (by decide) (Or.inr rfl) (w_p1 (by decide) (Or.inr rfl) (w_p1 (by decide) (Or.inr rfl) e3868)))))), (w_e1 _ _ _), by omega⟩ ⟨by omega, by omega⟩
          · have c3894_ : v3886.toInt ≠ (-1) := en_i_eq_f c3894
            refine At.enter rfl ?_
            refine r_iload (w_e1 _ _ _) ?_
            refine r_iff 96 rfl (by decide) ?_
            refine At.enter rfl ?_
            refine r_aload_n (w_p1 (by decide) (Or.inr rfl) (w_p1 (by decide) (Or.inr rfl) (w_p1 (by decide) (Or.inr rfl) (w_p1 (by decide) (Or.inr rfl) e3866)))) ?_
            refine r_iload (w_p1 (by decide) (Or.inr rfl) (w_e1 _ _ _)) ?_
            refine r_iload (w_p1 (by decide) (Or.inr rfl) (w_p1 (by decide) (Or.inr rfl) (w_p1 (by decide) (Or.inr rfl) (w_e1 _ _ _)))) ?_
            refine r_callV 104 rfl [.ref 188, .int v3886, .int v3877] [] (Nat.le_of_ble_eq_true rfl) rfl (T_X1_canHold_188 _ hI3888 v3886 v3877) ?_
            rintro _ _ ⟨g3904, rfl, hI3905, hF3906, v3907, rfl, hr3908⟩
            refine At.sti ?_
            have hF3909 := Fr.tr hF3892 hF3906 rfl rfl
            refine At.enter rfl ?_
            refine r_ifs 107 rfl (fun c3910 => ?_) (fun c3910 => ?_)
            · have c3910_ : v3907.toInt = 0 := en_k_eq_t c3910
              refine At.enter rfl ?_
              refine r_iconst 0 rfl ?_
              refine Ar.fall 112 rfl ?_
              refine At.enter rfl ?_
              refine r_istore _ rfl ?_
              refine r_iload (w_e1 _ _ _) ?_
              refine r_ift (by decide) ?_
              refine At.enter rfl ?_
              refine r_iload (w_e1 _ _ _) ?_
              refine r_iff 174 rfl (by decide) ?_
              refine At.enter rfl ?_
              refine r_aload_n (w_p1 (by decide) (Or.inr rfl) (w_p1 (by decide) (Or.inr rfl) (w_p1 (by decide) (Or.inr rfl) (w_p1 (by decide) (Or.inr rfl) (w_p1 (by decide) (Or.inr rfl) e3866))))) ?_
              refine q_getR (Sh.ref hI3905.1 kx_188 rfl) ?_
              refine r_iload (w_p1 (by decide) (Or.inr rfl) (w_p1 (by decide) (Or.inr rfl) (w_p1 (by decide) (Or.inr rfl) (w_p1 (by decide) (Or.inr rfl) (w_e1 _ _ _))))) ?_
              refine r_dup2 ⟨rfl, rfl⟩ ?_
              obtain ⟨v3911, hv3911⟩ : ∃ v, eA g3860 198 v3877.toInt = v := ⟨_, rfl⟩
              refine q_iald (Sh.arr hI3905.1 ka_198) v3877.toInt rfl (by omega) v3911 ((eA_c ((hF3906.2.1 198 ma_X1_canHold_188_198).trans (hF3889.2.1 198 ma_X0_about_1_198))).trans hv3911) ?_
              refine r_iconst 1 rfl ?_
              refine q_iaddO (fun v3912 _ => ?_)
              refine q_iast (Sh.arr hI3905.1 ka_198) (v3877.toInt) rfl (by omega) ?_
              have hI3913 := HI.wA0 hI3905 ka_198 (p := 198) rfl rfl (v3877.toInt) (v3912)
              have hF3914 := Fr.wA (p := 198) (j := v3877.toInt) (v := v3912) hF3909 rfl
              refine r_aload_n (w_p1 (by decide) (Or.inr rfl) (w_p1 (by decide) (Or.inr rfl) (w_p1 (by decide) (Or.inr rfl) (w_p1 (by decide) (Or.inr rfl) (w_p1 (by decide) (Or.inr rfl) e3866))))) ?_
              refine q_getR (Sh.ref hI3913.1 kx_188 rfl) ?_
              refine r_iload (w_p1 (by decide) (Or.inr rfl) (w_p1 (by decide) (Or.inr rfl) (w_p1 (by decide) (Or.inr rfl) (w_p1 (by decide) (Or.inr rfl) (w_e1 _ _ _))))) ?_
              refine r_dup2 ⟨rfl, rfl⟩ ?_
              obtain ⟨v3915, hv3915⟩ : ∃ v, eA g3860 197 v3877.toInt = v := ⟨_, rfl⟩
              refine q_iald (Sh.arr hI3913.1 ka_197) v3877.toInt rfl (by omega) v3915 ((eA_c ((gA_sA_ne (by decide)).trans ((hF3906.2.1 197 ma_X1_canHold_188_197).trans (hF3889.2.1 197 ma_X0_about_1_197)))).trans hv3915) ?_
              refine r_iconst 1 rfl ?_
              refine q_iaddO (fun v3916 _ => ?_)
              refine q_iast (Sh.arr hI3913.1 ka_197) (v3877.toInt) rfl (by omega) ?_
              have hI3917 := HI.wA0 hI3913 ka_197 (p := 197) rfl rfl (v3877.toInt) (v3916)
              have hF3918 := Fr.wA (p := 197) (j := v3877.toInt) (v := v3916) hF3914 rfl
              refine r_goto ?_
              refine At.enter rfl ?_
              refine q_iinc (w_p1 (by decide) (Or.inr rfl) (w_p1 (by decide) (Or.inr rfl) (w_p1 (by decide) (Or.inr rfl) (w_p1 (by decide) (Or.inr rfl) (w_p1 (by decide) (Or.inr rfl) e3869))))) (x3859.toInt + 1) rfl (by omega) (fun v3919 hv3919 => ?_)
              refine r_goto ?_
              exact ih3865 (8 - v3919.toInt) _ _ ⟨v3919, by first | rfl | omega, hI3917, hF3918, (w_p1 (by decide) (Or.inr rfl) (w_p1 (by decide) (Or.inr rfl) (w_p1 (by decide) (Or.inr rfl) (w_p1 (by decide) (Or.inr rfl) (w_p1 (by decide) (Or.inr rfl) (w_p1 (by decide) (Or.inr rfl) e3866)))))), (w_p1 (by decide) (Or.inr rfl) (w_p1 (by decide) (Or.inr rfl) (w_p1 (by decide) (Or.inr rfl) (w_p1 (by decide) (Or.inr rfl) (w_p1 (by decide) (Or.inr rfl) (w_p1 (by decide) (Or.inr rfl) e3867)))))), (w_p1 (by decide) (Or.inr rfl) (w_p1 (by decide) (Or.inr rfl) (w_p1 (by decide) (Or.inr rfl) (w_p1 (by decide) (Or.inr rfl) (w_p1 (by decide) (Or.inr rfl) (w_p1 (by decide) (Or.inr rfl) e3868)))))), (w_e1 _ _ _), by omega⟩ ⟨by omega, by omega⟩
            · have c3910_ : v3907.toInt ≠ 0 := en_k_eq_f c3910
              refine At.enter rfl ?_
              refine r_iconst 1 rfl ?_
              refine r_goto ?_
              refine At.enter rfl ?_
              refine r_istore _ rfl ?_
              refine r_iload (w_e1 _ _ _) ?_
              refine r_iff 119 rfl (by decide) ?_
              refine At.enter rfl ?_
              refine r_iload_n (w_p1 (by decide) (Or.inr rfl) (w_p1 (by decide) (Or.inr rfl) (w_p1 (by decide) (Or.inr rfl) (w_p1 (by decide) (Or.inr rfl) (w_p1 (by decide) (Or.inr rfl) e3868))))) ?_
              refine r_ifs 123 rfl (fun c3920 => ?_) (fun c3920 => ?_)
              · have c3920_ : v2701.toInt = 0 := en_k_eq_t c3920
                refine At.enter rfl ?_
                refine r_iload (w_e1 _ _ _) ?_
                refine r_ift (by decide) ?_
                refine At.enter rfl ?_
                refine r_aload_n (w_p1 (by decide) (Or.inr rfl) (w_p1 (by decide) (Or.inr rfl) (w_p1 (by decide) (Or.inr rfl) (w_p1 (by decide) (Or.inr rfl) (w_p1 (by decide) (Or.inr rfl) e3866))))) ?_
                refine r_iconst 1 rfl ?_
                refine q_putI (Sh.int hI3905.1 kx_188 rfl) rfl ?_
                have hI3921 := HI.wI0 hI3905 kx_188 rfl (p := 188) (b := 18) (v := 1) rfl
                have hF3922 := Fr.wI (p := 188) (b := 18) (v := 1) hF3909 rfl
                refine r_aload_n (w_p1 (by decide) (Or.inr rfl) (w_p1 (by decide) (Or.inr rfl) (w_p1 (by decide) (Or.inr rfl) (w_p1 (by decide) (Or.inr rfl) (w_p1 (by decide) (Or.inr rfl) e3866))))) ?_
                refine r_iload (w_p1 (by decide) (Or.inr rfl) (w_p1 (by decide) (Or.inr rfl) (w_p1 (by decide) (Or.inr rfl) (w_e1 _ _ _)))) ?_
                refine r_iload (w_p1 (by decide) (Or.inr rfl) (w_p1 (by decide) (Or.inr rfl) (w_p1 (by decide) (Or.inr rfl) (w_p1 (by decide) (Or.inr rfl) (w_e1 _ _ _))))) ?_
                refine r_callV 212 rfl [.ref 188, .int v3878, .int v3877] [] (Nat.le_of_ble_eq_true rfl) rfl (T_X1_giveUp_188 _ hI3921 v3878 v3877 (by omega)) ?_
                rintro _ _ ⟨g3923, rfl, hI3924, hF3925, rfl⟩
                refine At.stn ?_
                have hF3928 := Fr.tr hF3922 hF3925 rfl rfl
                refine At.enter rfl ?_
                refine r_aload_n (w_p1 (by decide) (Or.inr rfl) (w_p1 (by decide) (Or.inr rfl) (w_p1 (by decide) (Or.inr rfl) (w_p1 (by decide) (Or.inr rfl) (w_p1 (by decide) (Or.inr rfl) e3866))))) ?_
                refine q_getR (Sh.ref hI3924.1 kx_188 rfl) ?_
                refine r_iload (w_p1 (by decide) (Or.inr rfl) (w_p1 (by decide) (Or.inr rfl) (w_p1 (by decide) (Or.inr rfl) (w_p1 (by decide) (Or.inr rfl) (w_e1 _ _ _))))) ?_
                refine r_dup2 ⟨rfl, rfl⟩ ?_
                obtain ⟨v3929, hv3929⟩ : ∃ v, eA g3860 194 v3877.toInt = v := ⟨_, rfl⟩
                refine q_iald (Sh.arr hI3924.1 ka_194) v3877.toInt rfl (by omega) v3929 ((eA_c ((hF3925.2.1 194 ma_X1_giveUp_188_194).trans ((gA_sI).trans ((hF3906.2.1 194 ma_X1_canHold_188_194).trans (hF3889.2.1 194 ma_X0_about_1_194))))).trans hv3929) ?_
                refine r_iconst 1 rfl ?_
                refine q_isubO (fun v3930 _ => ?_)
                refine q_iast (Sh.arr hI3924.1 ka_194) (v3877.toInt) rfl (by omega) ?_
                have hI3931 := HI.wA0 hI3924 ka_194 (p := 194) rfl rfl (v3877.toInt) (v3930)
                have hF3932 := Fr.wA (p := 194) (j := v3877.toInt) (v := v3930) hF3928 rfl
                refine r_iload (w_p1 (by decide) (Or.inr rfl) (w_e1 _ _ _)) ?_
                refine r_ift (by decide) ?_
                refine At.enter rfl ?_
                refine r_aload_n (w_p1 (by decide) (Or.inr rfl) (w_p1 (by decide) (Or.inr rfl) (w_p1 (by decide) (Or.inr rfl) (w_p1 (by decide) (Or.inr rfl) (w_p1 (by decide) (Or.inr rfl) e3866))))) ?_
                refine r_iload (w_p1 (by decide) (Or.inr rfl) (w_p1 (by decide) (Or.inr rfl) (w_e1 _ _ _))) ?_
                refine r_iload (w_p1 (by decide) (Or.inr rfl) (w_p1 (by decide) (Or.inr rfl) (w_p1 (by decide) (Or.inr rfl) (w_p1 (by decide) (Or.inr rfl) (w_e1 _ _ _))))) ?_
                refine r_callV 247 rfl [.ref 188, .int v3886, .int v3877] [] (Nat.le_of_ble_eq_true rfl) rfl (T_X1_take_188 _ hI3931 v3886 v3877 (by omega)) ?_
                rintro _ _ ⟨g3933, rfl, hI3934, hF3935, rfl⟩
                refine At.stn ?_
                have hF3938 := Fr.tr hF3932 hF3935 rfl rfl
                refine At.enter rfl ?_
                refine q_iinc (w_p1 (by decide) (Or.inr rfl) (w_p1 (by decide) (Or.inr rfl) (w_p1 (by decide) (Or.inr rfl) (w_p1 (by decide) (Or.inr rfl) (w_p1 (by decide) (Or.inr rfl) e3869))))) (x3859.toInt + 1) rfl (by omega) (fun v3939 hv3939 => ?_)
                refine r_goto ?_
                exact ih3865 (8 - v3939.toInt) _ _ ⟨v3939, by first | rfl | omega, hI3934, hF3938, (w_p1 (by decide) (Or.inr rfl) (w_p1 (by decide) (Or.inr rfl) (w_p1 (by decide) (Or.inr rfl) (w_p1 (by decide) (Or.inr rfl) (w_p1 (by decide) (Or.inr rfl) (w_p1 (by decide) (Or.inr rfl) e3866)))))), (w_p1 (by decide) (Or.inr rfl) (w_p1 (by decide) (Or.inr rfl) (w_p1 (by decide) (Or.inr rfl) (w_p1 (by decide) (Or.inr rfl) (w_p1 (by decide) (Or.inr rfl) (w_p1 (by decide) (Or.inr rfl) e3867)))))), (w_p1 (by decide) (Or.inr rfl) (w_p1 (by decide) (Or.inr rfl) (w_p1 (by decide) (Or.inr rfl) (w_p1 (by decide) (Or.inr rfl) (w_p1 (by decide) (Or.inr rfl) (w_p1 (by decide) (Or.inr rfl) e3868)))))), (w_e1 _ _ _), by omega⟩ ⟨by omega, by omega⟩
              · have c3920_ : v2701.toInt ≠ 0 := en_k_eq_f c3920
                refine At.enter rfl ?_
                refine r_aload_n (w_p1 (by decide) (Or.inr rfl) (w_p1 (by decide) (Or.inr rfl) (w_p1 (by decide) (Or.inr rfl) (w_p1 (by decide) (Or.inr rfl) (w_p1 (by decide) (Or.inr rfl) e3866))))) ?_
                refine q_getR (Sh.ref hI3905.1 kx_188 rfl) ?_
                refine r_iconst 2 rfl ?_
                refine r_iload (w_p1 (by decide) (Or.inr rfl) (w_p1 (by decide) (Or.inr rfl) (w_p1 (by decide) (Or.inr rfl) (w_p1 (by decide) (Or.inr rfl) (w_e1 _ _ _))))) ?_
                refine r_iload (w_p1 (by decide) (Or.inr rfl) (w_p1 (by decide) (Or.inr rfl) (w_p1 (by decide) (Or.inr rfl) (w_e1 _ _ _)))) ?_
                refine r_iload_n (w_p1 (by decide) (Or.inr rfl) (w_p1 (by decide) (Or.inr rfl) (w_p1 (by decide) (Or.inr rfl) (w_p1 (by decide) (Or.inr rfl) (w_p1 (by decide) (Or.inr rfl) e3867))))) ?_
                refine r_aload_n (w_p1 (by decide) (Or.inr rfl) (w_p1 (by decide) (Or.inr rfl) (w_p1 (by decide) (Or.inr rfl) (w_p1 (by decide) (Or.inr rfl) (w_p1 (by decide) (Or.inr rfl) e3866))))) ?_
                refine q_getR (Sh.ref hI3905.1 kx_188 rfl) ?_
                refine r_iload (w_p1 (by decide) (Or.inr rfl) (w_p1 (by decide) (Or.inr rfl) (w_p1 (by decide) (Or.inr rfl) (w_p1 (by decide) (Or.inr rfl) (w_e1 _ _ _))))) ?_
                obtain ⟨v3940, hv3940⟩ : ∃ v, eA g3860 198 v3877.toInt = v := ⟨_, rfl⟩
                refine q_iald (Sh.arr hI3905.1 ka_198) v3877.toInt rfl (by omega) v3940 ((eA_c ((hF3906.2.1 198 ma_X1_canHold_188_198).trans (hF3889.2.1 198 ma_X0_about_1_198))).trans hv3940) ?_
                refine r_aload_n (w_p1 (by decide) (Or.inr rfl) (w_p1 (by decide) (Or.inr rfl) (w_p1 (by decide) (Or.inr rfl) (w_p1 (by decide) (Or.inr rfl) (w_p1 (by decide) (Or.inr rfl) e3866))))) ?_
                refine q_getR (Sh.ref hI3905.1 kx_188 rfl) ?_
                refine r_iload (w_p1 (by decide) (Or.inr rfl) (w_p1 (by decide) (Or.inr rfl) (w_p1 (by decide) (Or.inr rfl) (w_e1 _ _ _)))) ?_
                obtain ⟨v3941, hv3941⟩ : ∃ v, eA g0 189 v3878.toInt = v := ⟨_, rfl⟩
                refine q_iald (Sh.arr hI3905.1 ka_189) v3878.toInt rfl (by omega) v3941 ((eA_c ((hF3906.2.1 189 ma_X1_canHold_188_189).trans ((hF3889.2.1 189 ma_X0_about_1_189).trans (hF3862.2.1 189 (by decide))))).trans hv3941) ?_
                refine r_aload_n (w_p1 (by decide) (Or.inr rfl) (w_p1 (by decide) (Or.inr rfl) (w_p1 (by decide) (Or.inr rfl) (w_p1 (by decide) (Or.inr rfl) (w_p1 (by decide) (Or.inr rfl) e3866))))) ?_
                refine q_getR (Sh.ref hI3905.1 kx_188 rfl) ?_
                refine r_iload (w_p1 (by decide) (Or.inr rfl) (w_p1 (by decide) (Or.inr rfl) (w_p1 (by decide) (Or.inr rfl) (w_e1 _ _ _)))) ?_
                obtain ⟨v3942, hv3942⟩ : ∃ v, eA g0 190 v3878.toInt = v := ⟨_, rfl⟩
                refine q_iald (Sh.arr hI3905.1 ka_190) v3878.toInt rfl (by omega) v3942 ((eA_c ((hF3906.2.1 190 ma_X1_canHold_188_190).trans ((hF3889.2.1 190 ma_X0_about_1_190).trans (hF3862.2.1 190 (by decide))))).trans hv3942) ?_
                refine r_callV 157 rfl [.ref 185, .int 2, .int v3877, .int v3878, .int a1, .int v3940, .int v3941, .int v3942] [] (Nat.le_of_ble_eq_true rfl) rfl (T_X3_tells_185 _ hI3905 2 v3877 v3878 a1 v3940 v3941 v3942) ?_
                rintro _ _ ⟨g3943, rfl, hI3944, hF3945, v3946, rfl, hr3947⟩
                refine At.stl ?_
                have hF3948 := Fr.tr hF3909 hF3945 rfl rfl
                refine At.enter rfl ?_
                refine r_lconst 0 rfl ?_
                refine r_lcmp _ rfl ?_
                refine r_ifs 162 rfl (fun c3949 => ?_) (fun c3949 => ?_)
                · have c3949_ : v3946.toInt ≠ 0 := en_j_ne_t c3949
                  refine At.enter rfl ?_
                  refine r_iconst 0 rfl ?_
                  refine Ar.fall 167 rfl ?_
                  refine At.enter rfl ?_
                  refine r_istore _ rfl ?_
                  refine Ar.fall 169 rfl ?_
                  refine At.enter rfl ?_
                  refine r_iload (w_e1 _ _ _) ?_
                  refine r_iff 174 rfl (by decide) ?_
                  refine At.enter rfl ?_
                  refine r_aload_n (w_p1 (by decide) (Or.inr rfl) (w_p1 (by decide) (Or.inr rfl) (w_p1 (by decide) (Or.inr rfl) (w_p1 (by decide) (Or.inr rfl) (w_p1 (by decide) (Or.inr rfl) (w_p1 (by decide) (Or.inr rfl) e3866)))))) ?_
                  refine q_getR (Sh.ref hI3944.1 kx_188 rfl) ?_
                  refine r_iload (w_p1 (by decide) (Or.inr rfl) (w_p1 (by decide) (Or.inr rfl) (w_p1 (by decide) (Or.inr rfl) (w_p1 (by decide) (Or.inr rfl) (w_p1 (by decide) (Or.inr rfl) (w_e1 _ _ _)))))) ?_
                  refine r_dup2 ⟨rfl, rfl⟩ ?_
                  refine q_iald (Sh.arr hI3944.1 ka_198) v3877.toInt rfl (by omega) v3940 ((eA_c ((hF3945.2.1 198 ma_X3_tells_185_198).trans ((hF3906.2.1 198 ma_X1_canHold_188_198).trans (hF3889.2.1 198 ma_X0_about_1_198)))).trans hv3940) ?_
                  refine r_iconst 1 rfl ?_
                  refine q_iaddO (fun v3950 _ => ?_)
                  refine q_iast (Sh.arr hI3944.1 ka_198) (v3877.toInt) rfl (by omega) ?_
                  have hI3951 := HI.wA0 hI3944 ka_198 (p := 198) rfl rfl (v3877.toInt) (v3950)
                  have hF3952 := Fr.wA (p := 198) (j := v3877.toInt) (v := v3950) hF3948 rfl
                  refine r_aload_n (w_p1 (by decide) (Or.inr rfl) (w_p1 (by decide) (Or.inr rfl) (w_p1 (by decide) (Or.inr rfl) (w_p1 (by decide) (Or.inr rfl) (w_p1 (by decide) (Or.inr rfl) (w_p1 (by decide) (Or.inr rfl) e3866)))))) ?_
                  refine q_getR (Sh.ref hI3951.1 kx_188 rfl) ?_
                  refine r_iload (w_p1 (by decide) (Or.inr rfl) (w_p1 (by decide) (Or.inr rfl) (w_p1 (by decide) (Or.inr rfl) (w_p1 (by decide) (Or.inr rfl) (w_p1 (by decide) (Or.inr rfl) (w_e1 _ _ _)))))) ?_
                  refine r_dup2 ⟨rfl, rfl⟩ ?_
                  obtain ⟨v3953, hv3953⟩ : ∃ v, eA g3860 197 v3877.toInt = v := ⟨_, rfl⟩
                  refine q_iald (Sh.arr hI3951.1 ka_197) v3877.toInt rfl (by omega) v3953 ((eA_c ((gA_sA_ne (by decide)).trans ((hF3945.2.1 197 ma_X3_tells_185_197).trans ((hF3906.2.1 197 ma_X1_canHold_188_197).trans (hF3889.2.1 197 ma_X0_about_1_197))))).trans hv3953) ?_
                  refine r_iconst 1 rfl ?_
                  refine q_iaddO (fun v3954 _ => ?_)
                  refine q_iast (Sh.arr hI3951.1 ka_197) (v3877.toInt) rfl (by omega) ?_
                  have hI3955 := HI.wA0 hI3951 ka_197 (p := 197) rfl rfl (v3877.toInt) (v3954)
                  have hF3956 := Fr.wA (p := 197) (j := v3877.toInt) (v := v3954) hF3952 rfl
                  refine r_goto ?_
                  refine At.enter rfl ?_
                  refine q_iinc (w_p1 (by decide) (Or.inr rfl) (w_p1 (by decide) (Or.inr rfl) (w_p1 (by decide) (Or.inr rfl) (w_p1 (by decide) (Or.inr rfl) (w_p1 (by decide) (Or.inr rfl) (w_p1 (by decide) (Or.inr rfl) e3869)))))) (x3859.toInt + 1) rfl (by omega) (fun v3957 hv3957 => ?_)
                  refine r_goto ?_
                  exact ih3865 (8 - v3957.toInt) _ _ ⟨v3957, by first | rfl | omega, hI3955, hF3956, (w_p1 (by decide) (Or.inr rfl) (w_p1 (by decide) (Or.inr rfl) (w_p1 (by decide) (Or.inr rfl) (w_p1 (by decide) (Or.inr rfl) (w_p1 (by decide) (Or.inr rfl) (w_p1 (by decide) (Or.inr rfl) (w_p1 (by decide) (Or.inr rfl) e3866))))))), (w_p1 (by decide) (Or.inr rfl) (w_p1 (by decide) (Or.inr rfl) (w_p1 (by decide) (Or.inr rfl) (w_p1 (by decide) (Or.inr rfl) (w_p1 (by decide) (Or.inr rfl) (w_p1 (by decide) (Or.inr rfl) (w_p1 (by decide) (Or.inr rfl) e3867))))))), (w_p1 (by decide) (Or.inr rfl) (w_p1 (by decide) (Or.inr rfl) (w_p1 (by decide) (Or.inr rfl) (w_p1 (by decide) (Or.inr rfl) (w_p1 (by decide) (Or.inr rfl) (w_p1 (by decide) (Or.inr rfl) (w_p1 (by decide) (Or.inr rfl) e3868))))))), (w_e1 _ _ _), by omega⟩ ⟨by omega, by omega⟩
                · have c3949_ : v3946.toInt = 0 := en_j_ne_f c3949
                  refine At.enter rfl ?_
                  refine r_iconst 1 rfl ?_
                  refine r_goto ?_
                  refine At.enter rfl ?_
                  refine r_istore _ rfl ?_
                  refine Ar.fall 169 rfl ?_
                  refine At.enter rfl ?_
                  refine r_iload (w_e1 _ _ _) ?_
                  refine r_ift (by decide) ?_
                  refine At.enter rfl ?_
                  refine r_aload_n (w_p1 (by decide) (Or.inr rfl) (w_p1 (by decide) (Or.inr rfl) (w_p1 (by decide) (Or.inr rfl) (w_p1 (by decide) (Or.inr rfl) (w_p1 (by decide) (Or.inr rfl) (w_p1 (by decide) (Or.inr rfl) e3866)))))) ?_
                  refine r_iconst 1 rfl ?_
                  refine q_putI (Sh.int hI3944.1 kx_188 rfl) rfl ?_
                  have hI3958 := HI.wI0 hI3944 kx_188 rfl (p := 188) (b := 18) (v := 1) rfl
                  have hF3959 := Fr.wI (p := 188) (b := 18) (v := 1) hF3948 rfl
                  refine r_aload_n (w_p1 (by decide) (Or.inr rfl) (w_p1 (by decide) (Or.inr rfl) (w_p1 (by decide) (Or.inr rfl) (w_p1 (by decide) (Or.inr rfl) (w_p1 (by decide) (Or.inr rfl) (w_p1 (by decide) (Or.inr rfl) e3866)))))) ?_
                  refine r_iload (w_p1 (by decide) (Or.inr rfl) (w_p1 (by decide) (Or.inr rfl) (w_p1 (by decide) (Or.inr rfl) (w_p1 (by decide) (Or.inr rfl) (w_e1 _ _ _))))) ?_
                  refine r_iload (w_p1 (by decide) (Or.inr rfl) (w_p1 (by decide) (Or.inr rfl) (w_p1 (by decide) (Or.inr rfl) (w_p1 (by decide) (Or.inr rfl) (w_p1 (by decide) (Or.inr rfl) (w_e1 _ _ _)))))) ?_
                  refine r_callV 212 rfl [.ref 188, .int v3878, .int v3877] [] (Nat.le_of_ble_eq_true rfl) rfl (T_X1_giveUp_188 _ hI3958 v3878 v3877 (by omega)) ?_
                  rintro _ _ ⟨g3960, rfl, hI3961, hF3962, rfl⟩
                  refine At.stn ?_
                  have hF3965 := Fr.tr hF3959 hF3962 rfl rfl
                  refine At.enter rfl ?_
                  refine r_aload_n (w_p1 (by decide) (Or.inr rfl) (w_p1 (by decide) (Or.inr rfl) (w_p1 (by decide) (Or.inr rfl) (w_p1 (by decide) (Or.inr rfl) (w_p1 (by decide) (Or.inr rfl) (w_p1 (by decide) (Or.inr rfl) e3866)))))) ?_
                  refine q_getR (Sh.ref hI3961.1 kx_188 rfl) ?_
                  refine r_iload (w_p1 (by decide) (Or.inr rfl) (w_p1 (by decide) (Or.inr rfl) (w_p1 (by decide) (Or.inr rfl) (w_p1 (by decide) (Or.inr rfl) (w_p1 (by decide) (Or.inr rfl) (w_e1 _ _ _)))))) ?_
                  refine r_dup2 ⟨rfl, rfl⟩ ?_
                  obtain ⟨v3966, hv3966⟩ : ∃ v, eA g3860 194 v3877.toInt = v := ⟨_, rfl⟩
                  refine q_iald (Sh.arr hI3961.1 ka_194) v3877.toInt rfl (by omega) v3966 ((eA_c ((hF3962.2.1 194 ma_X1_giveUp_188_194).trans ((gA_sI).trans ((hF3945.2.1 194 ma_X3_tells_185_194).trans ((hF3906.2.1 194 ma_X1_canHold_188_194).trans (hF3889.2.1 194 ma_X0_about_1_194)))))).trans hv3966) ?_
                  refine r_iconst 1 rfl ?_
                  refine q_isubO (fun v3967 _ => ?_)
                  refine q_iast (Sh.arr hI3961.1 ka_194) (v3877.toInt) rfl (by omega) ?_
                  have hI3968 := HI.wA0 hI3961 ka_194 (p := 194) rfl rfl (v3877.toInt) (v3967)
                  have hF3969 := Fr.wA (p := 194) (j := v3877.toInt) (v := v3967) hF3965 rfl
                  refine r_iload (w_p1 (by decide) (Or.inr rfl) (w_p1 (by decide) (Or.inr rfl) (w_e1 _ _ _))) ?_
                  refine r_ift (by decide) ?_
                  refine At.enter rfl ?_
                  refine r_aload_n (w_p1 (by decide) (Or.inr rfl) (w_p1 (by decide) (Or.inr rfl) (w_p1 (by decide) (Or.inr rfl) (w_p1 (by decide) (Or.inr rfl) (w_p1 (by decide) (Or.inr rfl) (w_p1 (by decide) (Or.inr rfl) e3866)))))) ?_
                  refine r_iload (w_p1 (by decide) (Or.inr rfl) (w_p1 (by decide) (Or.inr rfl) (w_p1 (by decide) (Or.inr rfl) (w_e1 _ _ _)))) ?_
                  refine r_iload (w_p1 (by decide) (Or.inr rfl) (w_p1 (by decide) (Or.inr rfl) (w_p1 (by decide) (Or.inr rfl) (w_p1 (by decide) (Or.inr rfl) (w_p1 (by decide) (Or.inr rfl) (w_e1 _ _ _)))))) ?_
                  refine r_callV 247 rfl [.ref 188, .int v3886, .int v3877] [] (Nat.le_of_ble_eq_true rfl) rfl (T_X1_take_188 _ hI3968 v3886 v3877 (by omega)) ?_
                  rintro _ _ ⟨g3970, rfl, hI3971, hF3972, rfl⟩
                  refine At.stn ?_
                  have hF3975 := Fr.tr hF3969 hF3972 rfl rfl
                  refine At.enter rfl ?_
                  refine q_iinc (w_p1 (by decide) (Or.inr rfl) (w_p1 (by decide) (Or.inr rfl) (w_p1 (by decide) (Or.inr rfl) (w_p1 (by decide) (Or.inr rfl) (w_p1 (by decide) (Or.inr rfl) (w_p1 (by decide) (Or.inr rfl) e3869)))))) (x3859.toInt + 1) rfl (by omega) (fun v3976 hv3976 => ?_)
                  refine r_goto ?_
                  exact ih3865 (8 - v3976.toInt) _ _ ⟨v3976, by first | rfl | omega, hI3971, hF3975, (w_p1 (by decide) (Or.inr rfl) (w_p1 (by decide) (Or.inr rfl) (w_p1 (by decide) (Or.inr rfl) (w_p1 (by decide) (Or.inr rfl) (w_p1 (by decide) (Or.inr rfl) (w_p1 (by decide) (Or.inr rfl) (w_p1 (by decide) (Or.inr rfl) e3866))))))), (w_p1 (by decide) (Or.inr rfl) (w_p1 (by decide) (Or.inr rfl) (w_p1 (by decide) (Or.inr rfl) (w_p1 (by decide) (Or.inr rfl) (w_p1 (by decide) (Or.inr rfl) (w_p1 (by decide) (Or.inr rfl) (w_p1 (by decide) (Or.inr rfl) e3867))))))), (w_p1 (by decide) (Or.inr rfl) (w_p1 (by decide) (Or.inr rfl) (w_p1 (by decide) (Or.inr rfl) (w_p1 (by decide) (Or.inr rfl) (w_p1 (by decide) (Or.inr rfl) (w_p1 (by decide) (Or.inr rfl) (w_p1 (by decide) (Or.inr rfl) e3868))))))), (w_e1 _ _ _), by omega⟩ ⟨by omega, by omega⟩
        · have c3893_ : v3886.toInt = v3890.toInt := en_i_ne_f c3893
          refine At.enter rfl ?_
          refine r_iconst 1 rfl ?_
          refine r_goto ?_
          refine At.enter rfl ?_
          refine r_istore _ rfl ?_
          refine r_iload (w_p1 (by decide) (Or.inr rfl) (w_e1 _ _ _)) ?_
          refine r_iconst (-1) rfl ?_
          refine r_ics 91 rfl (fun c3977 => ?_) (fun c3977 => ?_)
          · have c3977_ : v3886.toInt = (-1) := en_i_eq_t c3977
            refine At.enter rfl ?_
            refine r_iconst 0 rfl ?_
            refine Ar.fall 112 rfl ?_
            refine At.enter rfl ?_
            refine r_istore _ rfl ?_
            refine r_iload (w_e1 _ _ _) ?_
            refine r_ift (by decide) ?_
            refine At.enter rfl ?_
            refine r_iload (w_e1 _ _ _) ?_
            refine r_iff 174 rfl (by decide) ?_
            refine At.enter rfl ?_
            refine r_aload_n (w_p1 (by decide) (Or.inr rfl) (w_p1 (by decide) (Or.inr rfl) (w_p1 (by decide) (Or.inr rfl) (w_p1 (by decide) (Or.inr rfl) (w_p1 (by decide) (Or.inr rfl) e3866))))) ?_
            refine q_getR (Sh.ref hI3888.1 kx_188 rfl) ?_
            refine r_iload (w_p1 (by decide) (Or.inr rfl) (w_p1 (by decide) (Or.inr rfl) (w_p1 (by decide) (Or.inr rfl) (w_p1 (by decide) (Or.inr rfl) (w_e1 _ _ _))))) ?_
            refine r_dup2 ⟨rfl, rfl⟩ ?_
            obtain ⟨v3978, hv3978⟩ : ∃ v, eA g3860 198 v3877.toInt = v := ⟨_, rfl⟩
            refine q_iald (Sh.arr hI3888.1 ka_198) v3877.toInt rfl (by omega) v3978 ((eA_c (hF3889.2.1 198 ma_X0_about_1_198)).trans hv3978) ?_
            refine r_iconst 1 rfl ?_
            refine q_iaddO (fun v3979 _ => ?_)
            refine q_iast (Sh.arr hI3888.1 ka_198) (v3877.toInt) rfl (by omega) ?_
            have hI3980 := HI.wA0 hI3888 ka_198 (p := 198) rfl rfl (v3877.toInt) (v3979)
            have hF3981 := Fr.wA (p := 198) (j := v3877.toInt) (v := v3979) hF3892 rfl
            refine r_aload_n (w_p1 (by decide) (Or.inr rfl) (w_p1 (by decide) (Or.inr rfl) (w_p1 (by decide) (Or.inr rfl) (w_p1 (by decide) (Or.inr rfl) (w_p1 (by decide) (Or.inr rfl) e3866))))) ?_
            refine q_getR (Sh.ref hI3980.1 kx_188 rfl) ?_
            refine r_iload (w_p1 (by decide) (Or.inr rfl) (w_p1 (by decide) (Or.inr rfl) (w_p1 (by decide) (Or.inr rfl) (w_p1 (by decide) (Or.inr rfl) (w_e1 _ _ _))))) ?_
            refine r_dup2 ⟨rfl, rfl⟩ ?_
            obtain ⟨v3982, hv3982⟩ : ∃ v, eA g3860 197 v3877.toInt = v := ⟨_, rfl⟩
            refine q_iald (Sh.arr hI3980.1 ka_197) v3877.toInt rfl (by omega) v3982 ((eA_c ((gA_sA_ne (by decide)).trans (hF3889.2.1 197 ma_X0_about_1_197))).trans hv3982) ?_
            refine r_iconst 1 rfl ?_
            refine q_iaddO (fun v3983 _ => ?_)
            refine q_iast (Sh.arr hI3980.1 ka_197) (v3877.toInt) rfl (by omega) ?_
            have hI3984 := HI.wA0 hI3980 ka_197 (p := 197) rfl rfl (v3877.toInt) (v3983)
            have hF3985 := Fr.wA (p := 197) (j := v3877.toInt) (v := v3983) hF3981 rfl
            refine r_goto ?_
            refine At.enter rfl ?_
            refine q_iinc (w_p1 (by decide) (Or.inr rfl) (w_p1 (by decide) (Or.inr rfl) (w_p1 (by decide) (Or.inr rfl) (w_p1 (by decide) (Or.inr rfl) (w_p1 (by decide) (Or.inr rfl) e3869))))) (x3859.toInt + 1) rfl (by omega) (fun v3986 hv3986 => ?_)
            refine r_goto ?_
            exact ih3865 (8 - v3986.toInt) _ _ ⟨v3986, by first | rfl | omega, hI3984, hF3985, (w_p1 (by decide) (Or.inr rfl) (w_p1 (by decide) (Or.inr rfl) (w_p1 (by decide) (Or.inr rfl) (w_p1 (by decide) (Or.inr rfl) (w_p1 (by decide) (Or.inr rfl) (w_p1 (by decide) (Or.inr rfl) e3866)))))), (w_p1 (by decide) (Or.inr rfl) (w_p1 (by decide) (Or.inr rfl) (w_p1 (by decide) (Or.inr rfl) (w_p1 (by decide) (Or.inr rfl) (w_p1 (by decide) (Or.inr rfl) (w_p1 (by decide) (Or.inr rfl) e3867)))))), (w_p1 (by decide) (Or.inr rfl) (w_p1 (by decide) (Or.inr rfl) (w_p1 (by decide) (Or.inr rfl) (w_p1 (by decide) (Or.inr rfl) (w_p1 (by decide) (Or.inr rfl) (w_p1 (by decide) (Or.inr rfl) e3868)))))), (w_e1 _ _ _), by omega⟩ ⟨by omega, by omega⟩
          · have c3977_ : v3886.toInt ≠ (-1) := en_i_eq_f c3977
            refine At.enter rfl ?_
            refine r_iload (w_e1 _ _ _) ?_
            refine r_ift (by decide) ?_
            refine At.enter rfl ?_
            refine r_iconst 1 rfl ?_
            refine r_goto ?_
            refine At.enter rfl ?_
            refine r_istore _ rfl ?_
            refine r_iload (w_e1 _ _ _) ?_
            refine r_iff 119 rfl (by decide) ?_
            refine At.enter rfl ?_
            refine r_iload_n (w_p1 (by decide) (Or.inr rfl) (w_p1 (by decide) (Or.inr rfl) (w_p1 (by decide) (Or.inr rfl) (w_p1 (by decide) (Or.inr rfl) (w_p1 (by decide) (Or.inr rfl) e3868))))) ?_
            refine r_ifs 123 rfl (fun c3987 => ?_) (fun c3987 => ?_)
            · have c3987_ : v2701.toInt = 0 := en_k_eq_t c3987
              refine At.enter rfl ?_
              refine r_iload (w_e1 _ _ _) ?_
              refine r_ift (by decide) ?_
              refine At.enter rfl ?_
              refine r_aload_n (w_p1 (by decide) (Or.inr rfl) (w_p1 (by decide) (Or.inr rfl) (w_p1 (by decide) (Or.inr rfl) (w_p1 (by decide) (Or.inr rfl) (w_p1 (by decide) (Or.inr rfl) e3866))))) ?_
              refine r_iconst 1 rfl ?_
              refine q_putI (Sh.int hI3888.1 kx_188 rfl) rfl ?_
              have hI3988 := HI.wI0 hI3888 kx_188 rfl (p := 188) (b := 18) (v := 1) rfl
              have hF3989 := Fr.wI (p := 188) (b := 18) (v := 1) hF3892 rfl
              refine r_aload_n (w_p1 (by decide) (Or.inr rfl) (w_p1 (by decide) (Or.inr rfl) (w_p1 (by decide) (Or.inr rfl) (w_p1 (by decide) (Or.inr rfl) (w_p1 (by decide) (Or.inr rfl) e3866))))) ?_
              refine r_iload (w_p1 (by decide) (Or.inr rfl) (w_p1 (by decide) (Or.inr rfl) (w_p1 (by decide) (Or.inr rfl) (w_e1 _ _ _)))) ?_
              refine r_iload (w_p1 (by decide) (Or.inr rfl) (w_p1 (by decide) (Or.inr rfl) (w_p1 (by decide) (Or.inr rfl) (w_p1 (by decide) (Or.inr rfl) (w_e1 _ _ _))))) ?_
              refine r_callV 212 rfl [.ref 188, .int v3878, .int v3877] [] (Nat.le_of_ble_eq_true rfl) rfl (T_X1_giveUp_188 _ hI3988 v3878 v3877 (by omega)) ?_
              rintro _ _ ⟨g3990, rfl, hI3991, hF3992, rfl⟩
              refine At.stn ?_
              have hF3995 := Fr.tr hF3989 hF3992 rfl rfl
              refine At.enter rfl ?_
              refine r_aload_n (w_p1 (by decide) (Or.inr rfl) (w_p1 (by decide) (Or.inr rfl) (w_p1 (by decide) (Or.inr rfl) (w_p1 (by decide) (Or.inr rfl) (w_p1 (by decide) (Or.inr rfl) e3866))))) ?_
              refine q_getR (Sh.ref hI3991.1 kx_188 rfl) ?_
              refine r_iload (w_p1 (by decide) (Or.inr rfl) (w_p1 (by decide) (Or.inr rfl) (w_p1 (by decide) (Or.inr rfl) (w_p1 (by decide) (Or.inr rfl) (w_e1 _ _ _))))) ?_
              refine r_dup2 ⟨rfl, rfl⟩ ?_
              obtain ⟨v3996, hv3996⟩ : ∃ v, eA g3860 194 v3877.toInt = v := ⟨_, rfl⟩
              refine q_iald (Sh.arr hI3991.1 ka_194) v3877.toInt rfl (by omega) v3996 ((eA_c ((hF3992.2.1 194 ma_X1_giveUp_188_194).trans ((gA_sI).trans (hF3889.2.1 194 ma_X0_about_1_194)))).trans hv3996) ?_
              refine r_iconst 1 rfl ?_
              refine q_isubO (fun v3997 _ => ?_)
              refine q_iast (Sh.arr hI3991.1 ka_194) (v3877.toInt) rfl (by omega) ?_
              have hI3998 := HI.wA0 hI3991 ka_194 (p := 194) rfl rfl (v3877.toInt) (v3997)
              have hF3999 := Fr.wA (p := 194) (j := v3877.toInt) (v := v3997) hF3995 rfl
              refine r_iload (w_p1 (by decide) (Or.inr rfl) (w_e1 _ _ _)) ?_
              refine r_iff 228 rfl (by decide) ?_
              refine At.enter rfl ?_
              refine r_aload_n (w_p1 (by decide) (Or.inr rfl) (w_p1 (by decide) (Or.inr rfl) (w_p1 (by decide) (Or.inr rfl) (w_p1 (by decide) (Or.inr rfl) (w_p1 (by decide) (Or.inr rfl) e3866))))) ?_
              refine q_getR (Sh.ref hI3998.1 kx_188 rfl) ?_
              refine r_iload (w_p1 (by decide) (Or.inr rfl) (w_p1 (by decide) (Or.inr rfl) (w_p1 (by decide) (Or.inr rfl) (w_p1 (by decide) (Or.inr rfl) (w_e1 _ _ _))))) ?_
              refine r_iload_n (w_p1 (by decide) (Or.inr rfl) (w_p1 (by decide) (Or.inr rfl) (w_p1 (by decide) (Or.inr rfl) (w_p1 (by decide) (Or.inr rfl) (w_p1 (by decide) (Or.inr rfl) e3867))))) ?_
              refine q_iast (Sh.arr hI3998.1 ka_196) (v3877.toInt) rfl (by omega) ?_
              have hI4000 := HI.wA0 hI3998 ka_196 (p := 196) rfl rfl (v3877.toInt) (a1)
              have hF4001 := Fr.wA (p := 196) (j := v3877.toInt) (v := a1) hF3999 rfl
              refine r_goto ?_
              refine At.enter rfl ?_
              refine q_iinc (w_p1 (by decide) (Or.inr rfl) (w_p1 (by decide) (Or.inr rfl) (w_p1 (by decide) (Or.inr rfl) (w_p1 (by decide) (Or.inr rfl) (w_p1 (by decide) (Or.inr rfl) e3869))))) (x3859.toInt + 1) rfl (by omega) (fun v4002 hv4002 => ?_)
              refine r_goto ?_
              exact ih3865 (8 - v4002.toInt) _ _ ⟨v4002, by first | rfl | omega, hI4000, hF4001, (w_p1 (by decide) (Or.inr rfl) (w_p1 (by decide) (Or.inr rfl) (w_p1 (by decide) (Or.inr rfl) (w_p1 (by decide) (Or.inr rfl) (w_p1 (by decide) (Or.inr rfl) (w_p1 (by decide) (Or.inr rfl) e3866)))))), (w_p1 (by decide) (Or.inr rfl) (w_p1 (by decide) (Or.inr rfl) (w_p1 (by decide) (Or.inr rfl) (w_p1 (by decide) (Or.inr rfl) (w_p1 (by decide) (Or.inr rfl) (w_p1 (by decide) (Or.inr rfl) e3867)))))), (w_p1 (by decide) (Or.inr rfl) (w_p1 (by decide) (Or.inr rfl) (w_p1 (by decide) (Or.inr rfl) (w_p1 (by decide) (Or.inr rfl) (w_p1 (by decide) (Or.inr rfl) (w_p1 (by decide) (Or.inr rfl) e3868)))))), (w_e1 _ _ _), by omega⟩ ⟨by omega, by omega⟩
            · have c3987_ : v2701.toInt ≠ 0 := en_k_eq_f c3987
              refine At.enter rfl ?_
              refine r_aload_n (w_p1 (by decide) (Or.inr rfl) (w_p1 (by decide) (Or.inr rfl) (w_p1 (by decide) (Or.inr rfl) (w_p1 (by decide) (Or.inr rfl) (w_p1 (by decide) (Or.inr rfl) e3866))))) ?_
              refine q_getR (Sh.ref hI3888.1 kx_188 rfl) ?_
              refine r_iconst 2 rfl ?_
              refine r_iload (w_p1 (by decide) (Or.inr rfl) (w_p1 (by decide) (Or.inr rfl) (w_p1 (by decide) (Or.inr rfl) (w_p1 (by decide) (Or.inr rfl) (w_e1 _ _ _))))) ?_
              refine r_iload (w_p1 (by decide) (Or.inr rfl) (w_p1 (by decide) (Or.inr rfl) (w_p1 (by decide) (Or.inr rfl) (w_e1 _ _ _)))) ?_
              refine r_iload_n (w_p1 (by decide) (Or.inr rfl) (w_p1 (by decide) (Or.inr rfl) (w_p1 (by decide) (Or.inr rfl) (w_p1 (by decide) (Or.inr rfl) (w_p1 (by decide) (Or.inr rfl) e3867))))) ?_
              refine r_aload_n (w_p1 (by decide) (Or.inr rfl) (w_p1 (by decide) (Or.inr rfl) (w_p1 (by decide) (Or.inr rfl) (w_p1 (by decide) (Or.inr rfl) (w_p1 (by decide) (Or.inr rfl) e3866))))) ?_
              refine q_getR (Sh.ref hI3888.1 kx_188 rfl) ?_
              refine r_iload (w_p1 (by decide) (Or.inr rfl) (w_p1 (by decide) (Or.inr rfl) (w_p1 (by decide) (Or.inr rfl) (w_p1 (by decide) (Or.inr rfl) (w_e1 _ _ _))))) ?_
              obtain ⟨v4003, hv4003⟩ : ∃ v, eA g3860 198 v3877.toInt = v := ⟨_, rfl⟩
              refine q_iald (Sh.arr hI3888.1 ka_198) v3877.toInt rfl (by omega) v4003 ((eA_c (hF3889.2.1 198 ma_X0_about_1_198)).trans hv4003) ?_
              refine r_aload_n (w_p1 (by decide) (Or.inr rfl) (w_p1 (by decide) (Or.inr rfl) (w_p1 (by decide) (Or.inr rfl) (w_p1 (by decide) (Or.inr rfl) (w_p1 (by decide) (Or.inr rfl) e3866))))) ?_
              refine q_getR (Sh.ref hI3888.1 kx_188 rfl) ?_
              refine r_iload (w_p1 (by decide) (Or.inr rfl) (w_p1 (by decide) (Or.inr rfl) (w_p1 (by decide) (Or.inr rfl) (w_e1 _ _ _)))) ?_
              obtain ⟨v4004, hv4004⟩ : ∃ v, eA g0 189 v3878.toInt = v := ⟨_, rfl⟩
              refine q_iald (Sh.arr hI3888.1 ka_189) v3878.toInt rfl (by omega) v4004 ((eA_c ((hF3889.2.1 189 ma_X0_about_1_189).trans (hF3862.2.1 189 (by decide)))).trans hv4004) ?_
              refine r_aload_n (w_p1 (by decide) (Or.inr rfl) (w_p1 (by decide) (Or.inr rfl) (w_p1 (by decide) (Or.inr rfl) (w_p1 (by decide) (Or.inr rfl) (w_p1 (by decide) (Or.inr rfl) e3866))))) ?_
              refine q_getR (Sh.ref hI3888.1 kx_188 rfl) ?_
              refine r_iload (w_p1 (by decide) (Or.inr rfl) (w_p1 (by decide) (Or.inr rfl) (w_p1 (by decide) (Or.inr rfl) (w_e1 _ _ _)))) ?_
              obtain ⟨v4005, hv4005⟩ : ∃ v, eA g0 190 v3878.toInt = v := ⟨_, rfl⟩
              refine q_iald (Sh.arr hI3888.1 ka_190) v3878.toInt rfl (by omega) v4005 ((eA_c ((hF3889.2.1 190 ma_X0_about_1_190).trans (hF3862.2.1 190 (by decide)))).trans hv4005) ?_
              refine r_callV 157 rfl [.ref 185, .int 2, .int v3877, .int v3878, .int a1, .int v4003, .int v4004, .int v4005] [] (Nat.le_of_ble_eq_true rfl) rfl (T_X3_tells_185 _ hI3888 2 v3877 v3878 a1 v4003 v4004 v4005) ?_
              rintro _ _ ⟨g4006, rfl, hI4007, hF4008, v4009, rfl, hr4010⟩
              refine At.stl ?_
              have hF4011 := Fr.tr hF3892 hF4008 rfl rfl
              refine At.enter rfl ?_
              refine r_lconst 0 rfl ?_
              refine r_lcmp _ rfl ?_
              refine r_ifs 162 rfl (fun c4012 => ?_) (fun c4012 => ?_)
              · have c4012_ : v4009.toInt ≠ 0 := en_j_ne_t c4012
                refine At.enter rfl ?_
                refine r_iconst 0 rfl ?_
                refine Ar.fall 167 rfl ?_
                refine At.enter rfl ?_
                refine r_istore _ rfl ?_
                refine Ar.fall 169 rfl ?_
                refine At.enter rfl ?_
                refine r_iload (w_e1 _ _ _) ?_
                refine r_iff 174 rfl (by decide) ?_
                refine At.enter rfl ?_
                refine r_aload_n (w_p1 (by decide) (Or.inr rfl) (w_p1 (by decide) (Or.inr rfl) (w_p1 (by decide) (Or.inr rfl) (w_p1 (by decide) (Or.inr rfl) (w_p1 (by decide) (Or.inr rfl) (w_p1 (by decide) (Or.inr rfl) e3866)))))) ?_
                refine q_getR (Sh.ref hI4007.1 kx_188 rfl) ?_
                refine r_iload (w_p1 (by decide) (Or.inr rfl) (w_p1 (by decide) (Or.inr rfl) (w_p1 (by decide) (Or.inr rfl) (w_p1 (by decide) (Or.inr rfl) (w_p1 (by decide) (Or.inr rfl) (w_e1 _ _ _)))))) ?_
                refine r_dup2 ⟨rfl, rfl⟩ ?_
                refine q_iald (Sh.arr hI4007.1 ka_198) v3877.toInt rfl (by omega) v4003 ((eA_c ((hF4008.2.1 198 ma_X3_tells_185_198).trans (hF3889.2.1 198 ma_X0_about_1_198))).trans hv4003) ?_
                refine r_iconst 1 rfl ?_
                refine q_iaddO (fun v4013 _ => ?_)
                refine q_iast (Sh.arr hI4007.1 ka_198) (v3877.toInt) rfl (by omega) ?_
                have hI4014 := HI.wA0 hI4007 ka_198 (p := 198) rfl rfl (v3877.toInt) (v4013)
                have hF4015 := Fr.wA (p := 198) (j := v3877.toInt) (v := v4013) hF4011 rfl
                refine r_aload_n (w_p1 (by decide) (Or.inr rfl) (w_p1 (by decide) (Or.inr rfl) (w_p1 (by decide) (Or.inr rfl) (w_p1 (by decide) (Or.inr rfl) (w_p1 (by decide) (Or.inr rfl) (w_p1 (by decide) (Or.inr rfl) e3866)))))) ?_
                refine q_getR (Sh.ref hI4014.1 kx_188 rfl) ?_
                refine r_iload (w_p1 (by decide) (Or.inr rfl) (w_p1 (by decide) (Or.inr rfl) (w_p1 (by decide) (Or.inr rfl) (w_p1 (by decide) (Or.inr rfl) (w_p1 (by decide) (Or.inr rfl) (w_e1 _ _ _)))))) ?_
                refine r_dup2 ⟨rfl, rfl⟩ ?_
                obtain ⟨v4016, hv4016⟩ : ∃ v, eA g3860 197 v3877.toInt = v := ⟨_, rfl⟩
                refine q_iald (Sh.arr hI4014.1 ka_197) v3877.toInt rfl (by omega) v4016 ((eA_c ((gA_sA_ne (by decide)).trans ((hF4008.2.1 197 ma_X3_tells_185_197).trans (hF3889.2.1 197 ma_X0_about_1_197)))).trans hv4016) ?_
                refine r_iconst 1 rfl ?_
                refine q_iaddO (fun v4017 _ => ?_)
                refine q_iast (Sh.arr hI4014.1 ka_197) (v3877.toInt) rfl (by omega) ?_
                have hI4018 := HI.wA0 hI4014 ka_197 (p := 197) rfl rfl (v3877.toInt) (v4017)
                have hF4019 := Fr.wA (p := 197) (j := v3877.toInt) (v := v4017) hF4015 rfl
                refine r_goto ?_
                refine At.enter rfl ?_
                refine q_iinc (w_p1 (by decide) (Or.inr rfl) (w_p1 (by decide) (Or.inr rfl) (w_p1 (by decide) (Or.inr rfl) (w_p1 (by decide) (Or.inr rfl) (w_p1 (by decide) (Or.inr rfl) (w_p1 (by decide) (Or.inr rfl) e3869)))))) (x3859.toInt + 1) rfl (by omega) (fun v4020 hv4020 => ?_)
                refine r_goto ?_
                exact ih3865 (8 - v4020.toInt) _ _ ⟨v4020, by first | rfl | omega, hI4018, hF4019, (w_p1 (by decide) (Or.inr rfl) (w_p1 (by decide) (Or.inr rfl) (w_p1 (by decide) (Or.inr rfl) (w_p1 (by decide) (Or.inr rfl) (w_p1 (by decide) (Or.inr rfl) (w_p1 (by decide) (Or.inr rfl) (w_p1 (by decide) (Or.inr rfl) e3866))))))), (w_p1 (by decide) (Or.inr rfl) (w_p1 (by decide) (Or.inr rfl) (w_p1 (by decide) (Or.inr rfl) (w_p1 (by decide) (Or.inr rfl) (w_p1 (by decide) (Or.inr rfl) (w_p1 (by decide) (Or.inr rfl) (w_p1 (by decide) (Or.inr rfl) e3867))))))), (w_p1 (by decide) (Or.inr rfl) (w_p1 (by decide) (Or.inr rfl) (w_p1 (by decide) (Or.inr rfl) (w_p1 (by decide) (Or.inr rfl) (w_p1 (by decide) (Or.inr rfl) (w_p1 (by decide) (Or.inr rfl) (w_p1 (by decide) (Or.inr rfl) e3868))))))), (w_e1 _ _ _), by omega⟩ ⟨by omega, by omega⟩
              · have c4012_ : v4009.toInt = 0 := en_j_ne_f c4012
                refine At.enter rfl ?_
                refine r_iconst 1 rfl ?_
                refine r_goto ?_
                refine At.enter rfl ?_
                refine r_istore _ rfl ?_
                refine Ar.fall 169 rfl ?_
                refine At.enter rfl ?_
                refine r_iload (w_e1 _ _ _) ?_
                refine r_ift (by decide) ?_
                refine At.enter rfl ?_
                refine r_aload_n (w_p1 (by decide) (Or.inr rfl) (w_p1 (by decide) (Or.inr rfl) (w_p1 (by decide) (Or.inr rfl) (w_p1 (by decide) (Or.inr rfl) (w_p1 (by decide) (Or.inr rfl) (w_p1 (by decide) (Or.inr rfl) e3866)))))) ?_
                refine r_iconst 1 rfl ?_
                refine q_putI (Sh.int hI4007.1 kx_188 rfl) rfl ?_
                have hI4021 := HI.wI0 hI4007 kx_188 rfl (p := 188) (b := 18) (v := 1) rfl
                have hF4022 := Fr.wI (p := 188) (b := 18) (v := 1) hF4011 rfl
                refine r_aload_n (w_p1 (by decide) (Or.inr rfl) (w_p1 (by decide) (Or.inr rfl) (w_p1 (by decide) (Or.inr rfl) (w_p1 (by decide) (Or.inr rfl) (w_p1 (by decide) (Or.inr rfl) (w_p1 (by decide) (Or.inr rfl) e3866)))))) ?_
                refine r_iload (w_p1 (by decide) (Or.inr rfl) (w_p1 (by decide) (Or.inr rfl) (w_p1 (by decide) (Or.inr rfl) (w_p1 (by decide) (Or.inr rfl) (w_e1 _ _ _))))) ?_
                refine r_iload (w_p1 (by decide) (Or.inr rfl) (w_p1 (by decide) (Or.inr rfl) (w_p1 (by decide) (Or.inr rfl) (w_p1 (by decide) (Or.inr rfl) (w_p1 (by decide) (Or.inr rfl) (w_e1 _ _ _)))))) ?_
                refine r_callV 212 rfl [.ref 188, .int v3878, .int v3877] [] (Nat.le_of_ble_eq_true rfl) rfl (T_X1_giveUp_188 _ hI4021 v3878 v3877 (by omega)) ?_
                rintro _ _ ⟨g4023, rfl, hI4024, hF4025, rfl⟩
                refine At.stn ?_
                have hF4028 := Fr.tr hF4022 hF4025 rfl rfl
                refine At.enter rfl ?_
                refine r_aload_n (w_p1 (by decide) (Or.inr rfl) (w_p1 (by decide) (Or.inr rfl) (w_p1 (by decide) (Or.inr rfl) (w_p1 (by decide) (Or.inr rfl) (w_p1 (by decide) (Or.inr rfl) (w_p1 (by decide) (Or.inr rfl) e3866)))))) ?_
                refine q_getR (Sh.ref hI4024.1 kx_188 rfl) ?_
                refine r_iload (w_p1 (by decide) (Or.inr rfl) (w_p1 (by decide) (Or.inr rfl) (w_p1 (by decide) (Or.inr rfl) (w_p1 (by decide) (Or.inr rfl) (w_p1 (by decide) (Or.inr rfl) (w_e1 _ _ _)))))) ?_
                refine r_dup2 ⟨rfl, rfl⟩ ?_
                obtain ⟨v4029, hv4029⟩ : ∃ v, eA g3860 194 v3877.toInt = v := ⟨_, rfl⟩
                refine q_iald (Sh.arr hI4024.1 ka_194) v3877.toInt rfl (by omega) v4029 ((eA_c ((hF4025.2.1 194 ma_X1_giveUp_188_194).trans ((gA_sI).trans ((hF4008.2.1 194 ma_X3_tells_185_194).trans (hF3889.2.1 194 ma_X0_about_1_194))))).trans hv4029) ?_
                refine r_iconst 1 rfl ?_
                refine q_isubO (fun v4030 _ => ?_)
                refine q_iast (Sh.arr hI4024.1 ka_194) (v3877.toInt) rfl (by omega) ?_
                have hI4031 := HI.wA0 hI4024 ka_194 (p := 194) rfl rfl (v3877.toInt) (v4030)
                have hF4032 := Fr.wA (p := 194) (j := v3877.toInt) (v := v4030) hF4028 rfl
                refine r_iload (w_p1 (by decide) (Or.inr rfl) (w_p1 (by decide) (Or.inr rfl) (w_e1 _ _ _))) ?_
                refine r_iff 228 rfl (by decide) ?_
                refine At.enter rfl ?_
                refine r_aload_n (w_p1 (by decide) (Or.inr rfl) (w_p1 (by decide) (Or.inr rfl) (w_p1 (by decide) (Or.inr rfl) (w_p1 (by decide) (Or.inr rfl) (w_p1 (by decide) (Or.inr rfl) (w_p1 (by decide) (Or.inr rfl) e3866)))))) ?_
                refine q_getR (Sh.ref hI4031.1 kx_188 rfl) ?_
                refine r_iload (w_p1 (by decide) (Or.inr rfl) (w_p1 (by decide) (Or.inr rfl) (w_p1 (by decide) (Or.inr rfl) (w_p1 (by decide) (Or.inr rfl) (w_p1 (by decide) (Or.inr rfl) (w_e1 _ _ _)))))) ?_
                refine r_iload_n (w_p1 (by decide) (Or.inr rfl) (w_p1 (by decide) (Or.inr rfl) (w_p1 (by decide) (Or.inr rfl) (w_p1 (by decide) (Or.inr rfl) (w_p1 (by decide) (Or.inr rfl) (w_p1 (by decide) (Or.inr rfl) e3867)))))) ?_
                refine q_iast (Sh.arr hI4031.1 ka_196) (v3877.toInt) rfl (by omega) ?_
                have hI4033 := HI.wA0 hI4031 ka_196 (p := 196) rfl rfl (v3877.toInt) (a1)
                have hF4034 := Fr.wA (p := 196) (j := v3877.toInt) (v := a1) hF4032 rfl
                refine r_goto ?_
                refine At.enter rfl ?_
                refine q_iinc (w_p1 (by decide) (Or.inr rfl) (w_p1 (by decide) (Or.inr rfl) (w_p1 (by decide) (Or.inr rfl) (w_p1 (by decide) (Or.inr rfl) (w_p1 (by decide) (Or.inr rfl) (w_p1 (by decide) (Or.inr rfl) e3869)))))) (x3859.toInt + 1) rfl (by omega) (fun v4035 hv4035 => ?_)
                refine r_goto ?_
                exact ih3865 (8 - v4035.toInt) _ _ ⟨v4035, by first | rfl | omega, hI4033, hF4034, (w_p1 (by decide) (Or.inr rfl) (w_p1 (by decide) (Or.inr rfl) (w_p1 (by decide) (Or.inr rfl) (w_p1 (by decide) (Or.inr rfl) (w_p1 (by decide) (Or.inr rfl) (w_p1 (by decide) (Or.inr rfl) (w_p1 (by decide) (Or.inr rfl) e3866))))))), (w_p1 (by decide) (Or.inr rfl) (w_p1 (by decide) (Or.inr rfl) (w_p1 (by decide) (Or.inr rfl) (w_p1 (by decide) (Or.inr rfl) (w_p1 (by decide) (Or.inr rfl) (w_p1 (by decide) (Or.inr rfl) (w_p1 (by decide) (Or.inr rfl) e3867))))))), (w_p1 (by decide) (Or.inr rfl) (w_p1 (by decide) (Or.inr rfl) (w_p1 (by decide) (Or.inr rfl) (w_p1 (by decide) (Or.inr rfl) (w_p1 (by decide) (Or.inr rfl) (w_p1 (by decide) (Or.inr rfl) (w_p1 (by decide) (Or.inr rfl) e3868))))))), (w_e1 _ _ _), by omega⟩ ⟨by omega, by omega⟩
