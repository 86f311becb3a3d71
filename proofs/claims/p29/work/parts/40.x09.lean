def F_X1_goOn_188 : List (Nat × Nat) := [(185, 3), (188, 18)]
def A_X1_goOn_188 : List Nat := [194, 195, 196, 197, 198, 199, 200]
theorem ma_X0_about_1_198 : memA A_X0_about_1 198 = false := by decide
theorem ma_X0_about_1_197 : memA A_X0_about_1 197 = false := by decide
theorem ma_X1_canHold_188_198 : memA A_X1_canHold_188 198 = false := by decide
theorem ma_X1_canHold_188_197 : memA A_X1_canHold_188 197 = false := by decide
theorem ma_X1_giveUp_188_194 : memA A_X1_giveUp_188 194 = false := by decide
theorem ma_X1_canHold_188_194 : memA A_X1_canHold_188 194 = false := by decide
theorem ma_X0_about_1_194 : memA A_X0_about_1 194 = false := by decide
theorem ma_X1_canHold_188_189 : memA A_X1_canHold_188 189 = false := by decide
theorem ma_X1_canHold_188_190 : memA A_X1_canHold_188 190 = false := by decide
theorem ma_X0_about_1_190 : memA A_X0_about_1 190 = false := by decide
theorem ma_X3_tells_185_198 : memA A_X3_tells_185 198 = false := by decide
theorem ma_X3_tells_185_197 : memA A_X3_tells_185 197 = false := by decide
theorem ma_X3_tells_185_194 : memA A_X3_tells_185 194 = false := by decide
set_option maxRecDepth 100000 in
set_option maxHeartbeats 4000000 in
theorem T_X1_goOn_188 (d : Nat) {N : Nat} {g0 : List en_E} (hI0 : HI g0) (a1 : Int32) : Ev (d + 4) 30 [.ref 188, .int a1] (g0, N) (fun w h' => ∃ g', h' = (g', N) ∧ HI g' ∧ Fr F_X1_goOn_188 A_X1_goOn_188 g0 g' ∧ w = none) := by
  have hF0 : Fr F_X1_goOn_188 A_X1_goOn_188 g0 g0 := Fr.rf
  refine Ev.mk rfl rfl ⟨Nat.le_of_ble_eq_true rfl, Or.inr (q_rc hI0.1 kx_188 rfl)⟩ ?_
  show At _ none _ _ (0, [(0, .ref 188), (1, .int a1)], [], (_, _)) _
  refine At.enter rfl ?_
  refine r_aload_n rfl ?_
  refine q_getR (Sh.ref hI0.1 kx_188 rfl) ?_
  refine q_inlV 7 rfl [.ref 1] [] (Nat.le_of_ble_eq_true rfl) rfl ?_
  refine Ev.mk rfl rfl ⟨Nat.le_of_ble_eq_true rfl, Or.inr (q_rc hI0.1 kx_1 rfl)⟩ ?_
  show At _ none _ _ (0, [(0, .ref 1)], [], (_, _)) _
  refine At.enter rfl ?_
  refine r_aload_n rfl ?_
  refine r_aload_n rfl ?_
  obtain ⟨v2777, hv2777⟩ : ∃ v, gI g0 1 9 = v := ⟨_, rfl⟩
  refine q_getI (Sh.int hI0.1 kx_1 rfl) v2777 hv2777 ?_
  refine r_callV 8 rfl [.ref 1, .int v2777] [] (Nat.le_of_ble_eq_true rfl) rfl (T_X0_lawAt_1 _ hI0 v2777) ?_
  rintro _ _ ⟨g2778, rfl, hI2779, hF2780, v2781, rfl, hr2782⟩
  refine At.str ?_
  have ks2785 := hr2782.2.2
  have hr2784 : _ ∧ _ := ⟨hr2782.1, hr2782.2.1⟩
  have hr2784_ := hr2784.1
  have hF2783 := Fr.tr hF0 hF2780 rfl rfl
  refine At.enter rfl ?_
  refine q_aret ?_
  refine At.enter rfl ?_
  refine r_iconst 2 rfl ?_
  refine r_callV 11 rfl [.ref (v2781), .int 2] [] (Nat.le_of_ble_eq_true rfl) rfl (T_X4_speaksOf_law _ hI2779 (v2781) hr2784_ 2) ?_
  rintro _ _ ⟨g2786, rfl, hI2787, hF2788, v2789, rfl, hr2790⟩
  refine At.sti ?_
  have hF2791 := Fr.tr hF2783 hF2788 rfl rfl
  have zv2792 : (2 : Int32).toInt = 2 := rfl
  refine At.enter rfl ?_
  refine r_istore_n ([(2, .int v2789), (0, .ref 188), (1, .int a1)]) rfl ?_
  refine r_iconst 0 rfl ?_
  refine r_istore_n ([(3, .int 0), (2, .int v2789), (0, .ref 188), (1, .int a1)]) rfl ?_
  refine Ar.fall 14 rfl ?_
  have z_3995 : (0 : Int32).toInt = 0 := rfl
  refine w_loopI (fun n_ l_ g_ => ∃ x3983 : Int32, n_ = 8 - x3983.toInt ∧ HI g_ ∧ Fr F_X1_goOn_188 A_X1_goOn_188 g0 g_ ∧ en_get 0 l_ = some (.ref 188) ∧ en_get 1 l_ = some (.int a1) ∧ en_get 2 l_ = some (.int v2789) ∧ en_get 3 l_ = some (.int x3983) ∧ (0 ≤ x3983.toInt ∧ x3983.toInt ≤ 8)) ?_ (8 - 0) ⟨0, by first | rfl | omega, hI2787, hF2791, rfl, rfl, rfl, rfl, by decide⟩
  rintro n3988 l3987 g3984 ⟨x3983, hm3996, hI3985, hF3986, e3990, e3991, e3992, e3993, r3994⟩ ih3989
  refine At.enter rfl ?_
  refine r_iload_n e3993 ?_
  refine r_aload_n e3990 ?_
  obtain ⟨v3997, hv3997⟩ : ∃ v, gI g0 188 16 = v := ⟨_, rfl⟩
  have rv3997 := RgF.at hI0.2.1 (p := 188) (b := 16) rfl
  rw [hv3997] at rv3997
  dsimp only at rv3997
  refine q_getI (Sh.int hI3985.1 kx_188 rfl) v3997 ((hF3986.1 188 16 (by decide)).trans hv3997) ?_
  have bv3999 := q_bnd x3983
  have bv4000 := q_bnd v3997
  refine r_ics 22 rfl (fun c3998 => ?_) (fun c3998 => ?_)
  · have c3998_ : x3983.toInt ≥ v3997.toInt := en_i_ge_t c3998
    refine At.enter rfl ?_
    refine r_vret ?_
    exact ⟨_, rfl, hI3985, hF3986, rfl⟩
  · have c3998_ : x3983.toInt < v3997.toInt := en_i_ge_f c3998
    refine At.enter rfl ?_
    refine r_aload_n e3990 ?_
    refine q_getR (Sh.ref hI3985.1 kx_188 rfl) ?_
    refine r_iload_n e3993 ?_
    obtain ⟨v4001, hv4001⟩ : ∃ v, eA g0 202 x3983.toInt = v := ⟨_, rfl⟩
    have rv4001 := RgA.at hI0.2.2.1 (Sh.arr hI0.1 ka_202).2 (p := 202) rfl (j := x3983.toInt) (by omega)
    rw [hv4001] at rv4001
    dsimp only at rv4001
    refine q_iald (Sh.arr hI3985.1 ka_202) x3983.toInt rfl (by omega) v4001 ((eA_c (hF3986.2.1 202 (by decide))).trans hv4001) ?_
    refine r_istore _ rfl ?_
    refine r_aload_n (w_p1 (by decide) (Or.inr rfl) e3990) ?_
    refine q_getR (Sh.ref hI3985.1 kx_188 rfl) ?_
    refine r_iload (w_e1 _ _ _) ?_
    obtain ⟨v4002, hv4002⟩ : ∃ v, eA g3984 195 v4001.toInt = v := ⟨_, rfl⟩
    refine q_iald (Sh.arr hI3985.1 ka_195) v4001.toInt rfl (by omega) v4002 hv4002 ?_
    refine r_istore _ rfl ?_
    refine r_aload_n (w_p1 (by decide) (Or.inr rfl) (w_p1 (by decide) (Or.inr rfl) e3990)) ?_
    refine q_getR (Sh.ref hI3985.1 kx_188 rfl) ?_
    refine r_iload (w_e1 _ _ _) ?_
    refine q_inlV 48 rfl [.ref 1, .int v4002] [] (Nat.le_of_ble_eq_true rfl) rfl ?_
    refine Ev.mk rfl rfl ⟨Nat.le_of_ble_eq_true rfl, Or.inr (q_rc hI3985.1 kx_1 rfl)⟩ ?_
    show At _ none _ _ (0, [(0, .ref 1), (1, .int v4002)], [], (_, _)) _
    refine At.enter rfl ?_
    refine r_iload_n rfl ?_
    refine r_ifs 4 rfl (fun c4003 => ?_) (fun c4003 => ?_)
    · have c4003_ : v4002.toInt < 0 := en_k_lt_t c4003
      refine At.enter rfl ?_
      refine r_iconst 0 rfl ?_
      refine Ar.fall 17 rfl ?_
      refine At.enter rfl ?_
      refine q_iretz (by decide) ?_
      refine At.enter rfl ?_
      refine r_iff 51 rfl (by decide) ?_
      refine At.enter rfl ?_
      refine r_goto ?_
      refine At.enter rfl ?_
      refine q_iinc (w_p1 (by decide) (Or.inr rfl) (w_p1 (by decide) (Or.inr rfl) e3993)) (x3983.toInt + 1) rfl (by omega) (fun v4004 hv4004 => ?_)
      refine r_goto ?_
      exact ih3989 (8 - v4004.toInt) _ _ ⟨v4004, by first | rfl | omega, hI3985, hF3986, (w_p1 (by decide) (Or.inr rfl) (w_p1 (by decide) (Or.inr rfl) (w_p1 (by decide) (Or.inr rfl) e3990))), (w_p1 (by decide) (Or.inr rfl) (w_p1 (by decide) (Or.inr rfl) (w_p1 (by decide) (Or.inr rfl) e3991))), (w_p1 (by decide) (Or.inr rfl) (w_p1 (by decide) (Or.inr rfl) (w_p1 (by decide) (Or.inr rfl) e3992))), (w_e1 _ _ _), by omega⟩ ⟨by omega, by omega⟩
    · have c4003_ : v4002.toInt ≥ 0 := en_k_lt_f c4003
      refine At.enter rfl ?_
      refine r_iload_n rfl ?_
      refine r_aload_n rfl ?_
      obtain ⟨v4005, hv4005⟩ : ∃ v, gI g0 1 0 = v := ⟨_, rfl⟩
      have rv4005 := RgF.at hI0.2.1 (p := 1) (b := 0) rfl
      rw [hv4005] at rv4005
      dsimp only at rv4005
      refine q_getI (Sh.int hI3985.1 kx_1 rfl) v4005 ((hF3986.1 1 0 (by decide)).trans hv4005) ?_
      have bv4007 := q_bnd v4002
      have bv4008 := q_bnd v4005
      refine r_ics 12 rfl (fun c4006 => ?_) (fun c4006 => ?_)
      · have c4006_ : v4002.toInt ≥ v4005.toInt := en_i_ge_t c4006
        refine At.enter rfl ?_
        refine r_iconst 0 rfl ?_
        refine Ar.fall 17 rfl ?_
        refine At.enter rfl ?_
        refine q_iretz (by decide) ?_
        refine At.enter rfl ?_
        refine r_iff 51 rfl (by decide) ?_
        refine At.enter rfl ?_
        refine r_goto ?_
        refine At.enter rfl ?_
        refine q_iinc (w_p1 (by decide) (Or.inr rfl) (w_p1 (by decide) (Or.inr rfl) e3993)) (x3983.toInt + 1) rfl (by omega) (fun v4009 hv4009 => ?_)
        refine r_goto ?_
        exact ih3989 (8 - v4009.toInt) _ _ ⟨v4009, by first | rfl | omega, hI3985, hF3986, (w_p1 (by decide) (Or.inr rfl) (w_p1 (by decide) (Or.inr rfl) (w_p1 (by decide) (Or.inr rfl) e3990))), (w_p1 (by decide) (Or.inr rfl) (w_p1 (by decide) (Or.inr rfl) (w_p1 (by decide) (Or.inr rfl) e3991))), (w_p1 (by decide) (Or.inr rfl) (w_p1 (by decide) (Or.inr rfl) (w_p1 (by decide) (Or.inr rfl) e3992))), (w_e1 _ _ _), by omega⟩ ⟨by omega, by omega⟩
      · have c4006_ : v4002.toInt < v4005.toInt := en_i_ge_f c4006
        refine At.enter rfl ?_
        refine r_iconst 1 rfl ?_
        refine r_goto ?_
        refine At.enter rfl ?_
        refine q_iretz (by decide) ?_
        refine At.enter rfl ?_
        refine r_ift (by decide) ?_
        refine At.enter rfl ?_
        refine r_aload_n (w_p1 (by decide) (Or.inr rfl) (w_p1 (by decide) (Or.inr rfl) e3990)) ?_
        refine q_getR (Sh.ref hI3985.1 kx_188 rfl) ?_
        refine r_iload (w_e1 _ _ _) ?_
        obtain ⟨v4010, hv4010⟩ : ∃ v, eA g0 192 v4002.toInt = v := ⟨_, rfl⟩
        refine q_iald (Sh.arr hI3985.1 ka_192) v4002.toInt rfl (by omega) v4010 ((eA_c (hF3986.2.1 192 (by decide))).trans hv4010) ?_
        refine r_istore _ rfl ?_
        refine r_iload (w_e1 _ _ _) ?_
        refine r_aload_n (w_p1 (by decide) (Or.inr rfl) (w_p1 (by decide) (Or.inr rfl) (w_p1 (by decide) (Or.inr rfl) e3990))) ?_
        refine q_getR (Sh.ref hI3985.1 kx_188 rfl) ?_
        refine r_iload (w_p1 (by decide) (Or.inr rfl) (w_p1 (by decide) (Or.inr rfl) (w_e1 _ _ _))) ?_
        refine r_iconst 2 rfl ?_
        refine r_callV 75 rfl [.ref 1, .int v4001, .int 2] [.int v4010] (Nat.le_of_ble_eq_true rfl) rfl (T_X0_about_1 _ hI3985 v4001 2) ?_
        rintro _ _ ⟨g4011, rfl, hI4012, hF4013, v4014, rfl, hr4015⟩
        refine At.sti ?_
        have ks4018 := hr4015.2.2
        have hr4017 : _ ∧ _ := ⟨hr4015.1, hr4015.2.1⟩
        have hF4016 := Fr.tr hF3986 hF4013 rfl rfl
        have zv4019 : (2 : Int32).toInt = 2 := rfl
        refine At.enter rfl ?_
        refine r_ics 78 rfl (fun c4020 => ?_) (fun c4020 => ?_)
        · have c4020_ : v4010.toInt ≠ v4014.toInt := en_i_ne_t c4020
          refine At.enter rfl ?_
          refine r_iconst 0 rfl ?_
          refine Ar.fall 83 rfl ?_
          refine At.enter rfl ?_
          refine r_istore _ rfl ?_
          refine r_iload (w_p1 (by decide) (Or.inr rfl) (w_e1 _ _ _)) ?_
          refine r_iconst (-1) rfl ?_
          refine r_ics 91 rfl (fun c4021 => ?_) (fun c4021 => ?_)
          · have c4021_ : v4010.toInt = (-1) := en_i_eq_t c4021
            refine At.enter rfl ?_
            refine r_iconst 0 rfl ?_
            refine Ar.fall 112 rfl ?_
            refine At.enter rfl ?_
            refine r_istore _ rfl ?_
            refine r_iload (w_e1 _ _ _) ?_
            refine r_ift (by decide) ?_
            refine At.enter rfl ?_
            refine r_iload (w_e1 _ _ _) ?_
            refine r_iff 174 rfl (by decide) ?_
            refine At.enter rfl ?_
            refine r_aload_n (w_p1 (by decide) (Or.inr rfl) (w_p1 (by decide) (Or.inr rfl) (w_p1 (by decide) (Or.inr rfl) (w_p1 (by decide) (Or.inr rfl) (w_p1 (by decide) (Or.inr rfl) e3990))))) ?_
            refine q_getR (Sh.ref hI4012.1 kx_188 rfl) ?_
            refine r_iload (w_p1 (by decide) (Or.inr rfl) (w_p1 (by decide) (Or.inr rfl) (w_p1 (by decide) (Or.inr rfl) (w_p1 (by decide) (Or.inr rfl) (w_e1 _ _ _))))) ?_
            refine r_dup2 ⟨rfl, rfl⟩ ?_
            obtain ⟨v4022, hv4022⟩ : ∃ v, eA g3984 198 v4001.toInt = v := ⟨_, rfl⟩
            refine q_iald (Sh.arr hI4012.1 ka_198) v4001.toInt rfl (by omega) v4022 ((eA_c (hF4013.2.1 198 ma_X0_about_1_198)).trans hv4022) ?_
            refine r_iconst 1 rfl ?_
            refine q_iaddO (fun v4023 _ => ?_)
            refine q_iast (Sh.arr hI4012.1 ka_198) (v4001.toInt) rfl (by omega) ?_
            have hI4024 := HI.wA0 hI4012 ka_198 (p := 198) rfl rfl (v4001.toInt) (v4023)
            have hF4025 := Fr.wA (p := 198) (j := v4001.toInt) (v := v4023) hF4016 rfl
            refine r_aload_n (w_p1 (by decide) (Or.inr rfl) (w_p1 (by decide) (Or.inr rfl) (w_p1 (by decide) (Or.inr rfl) (w_p1 (by decide) (Or.inr rfl) (w_p1 (by decide) (Or.inr rfl) e3990))))) ?_
            refine q_getR (Sh.ref hI4024.1 kx_188 rfl) ?_
            refine r_iload (w_p1 (by decide) (Or.inr rfl) (w_p1 (by decide) (Or.inr rfl) (w_p1 (by decide) (Or.inr rfl) (w_p1 (by decide) (Or.inr rfl) (w_e1 _ _ _))))) ?_
            refine r_dup2 ⟨rfl, rfl⟩ ?_
            obtain ⟨v4026, hv4026⟩ : ∃ v, eA g3984 197 v4001.toInt = v := ⟨_, rfl⟩
            refine q_iald (Sh.arr hI4024.1 ka_197) v4001.toInt rfl (by omega) v4026 ((eA_c ((gA_sA_ne (by decide)).trans (hF4013.2.1 197 ma_X0_about_1_197))).trans hv4026) ?_
            refine r_iconst 1 rfl ?_
            refine q_iaddO (fun v4027 _ => ?_)
            refine q_iast (Sh.arr hI4024.1 ka_197) (v4001.toInt) rfl (by omega) ?_
            have hI4028 := HI.wA0 hI4024 ka_197 (p := 197) rfl rfl (v4001.toInt) (v4027)
            have hF4029 := Fr.wA (p := 197) (j := v4001.toInt) (v := v4027) hF4025 rfl
            refine r_goto ?_
            refine At.enter rfl ?_
            refine q_iinc (w_p1 (by decide) (Or.inr rfl) (w_p1 (by decide) (Or.inr rfl) (w_p1 (by decide) (Or.inr rfl) (w_p1 (by decide) (Or.inr rfl) (w_p1 (by decide) (Or.inr rfl) e3993))))) (x3983.toInt + 1) rfl (by omega) (fun v4030 hv4030 => ?_)
            refine r_goto ?_
            exact ih3989 (8 - v4030.toInt) _ _ ⟨v4030, by first | rfl | omega, hI4028, hF4029, (w_p1 (by decide) (Or.inr rfl) (w_p1 (by decide) (Or.inr rfl) (w_p1 (by decide) (Or.inr rfl) (w_p1 (by decide) (Or.inr rfl) (w_p1 (by decide) (Or.inr rfl) (w_p1 (by decide) (Or.inr rfl) e3990)))))), (w_p1 (by decide) (Or.inr rfl) (w_p1 (by decide) (Or.inr rfl) (w_p1 (by decide) (Or.inr rfl) (w_p1 (by decide) (Or.inr rfl) (w_p1 (by decide) (Or.inr rfl) (w_p1 (by decide) (Or.inr rfl) e3991)))))), (w_p1 (by decide) (Or.inr rfl) (w_p1 (by decide) (Or.inr rfl) (w_p1 (by decide) (Or.inr rfl) (w_p1 (by decide) (Or.inr rfl) (w_p1 (by decide) (Or.inr rfl) (w_p1 (by decide) (Or.inr rfl) e3992)))))), (w_e1 _ _ _), by omega⟩ ⟨by omega, by omega⟩
          · have c4021_ : v4010.toInt ≠ (-1) := en_i_eq_f c4021
            refine At.enter rfl ?_
            refine r_iload (w_e1 _ _ _) ?_
            refine r_iff 96 rfl (by decide) ?_
            refine At.enter rfl ?_
            refine r_aload_n (w_p1 (by decide) (Or.inr rfl) (w_p1 (by decide) (Or.inr rfl) (w_p1 (by decide) (Or.inr rfl) (w_p1 (by decide) (Or.inr rfl) e3990)))) ?_
            refine r_iload (w_p1 (by decide) (Or.inr rfl) (w_e1 _ _ _)) ?_
            refine r_iload (w_p1 (by decide) (Or.inr rfl) (w_p1 (by decide) (Or.inr rfl) (w_p1 (by decide) (Or.inr rfl) (w_e1 _ _ _)))) ?_
            refine r_callV 104 rfl [.ref 188, .int v4010, .int v4001] [] (Nat.le_of_ble_eq_true rfl) rfl (T_X1_canHold_188 _ hI4012 v4010 v4001) ?_
            rintro _ _ ⟨g4031, rfl, hI4032, hF4033, v4034, rfl, hr4035⟩
            refine At.sti ?_
            have hF4036 := Fr.tr hF4016 hF4033 rfl rfl
            refine At.enter rfl ?_
            refine r_ifs 107 rfl (fun c4037 => ?_) (fun c4037 => ?_)
            · have c4037_ : v4034.toInt = 0 := en_k_eq_t c4037
              refine At.enter rfl ?_
              refine r_iconst 0 rfl ?_
              refine Ar.fall 112 rfl ?_
              refine At.enter rfl ?_
              refine r_istore _ rfl ?_
              refine r_iload (w_e1 _ _ _) ?_
              refine r_ift (by decide) ?_
              refine At.enter rfl ?_
              refine r_iload (w_e1 _ _ _) ?_
              refine r_iff 174 rfl (by decide) ?_
              refine At.enter rfl ?_
              refine r_aload_n (w_p1 (by decide) (Or.inr rfl) (w_p1 (by decide) (Or.inr rfl) (w_p1 (by decide) (Or.inr rfl) (w_p1 (by decide) (Or.inr rfl) (w_p1 (by decide) (Or.inr rfl) e3990))))) ?_
              refine q_getR (Sh.ref hI4032.1 kx_188 rfl) ?_
              refine r_iload (w_p1 (by decide) (Or.inr rfl) (w_p1 (by decide) (Or.inr rfl) (w_p1 (by decide) (Or.inr rfl) (w_p1 (by decide) (Or.inr rfl) (w_e1 _ _ _))))) ?_
              refine r_dup2 ⟨rfl, rfl⟩ ?_
              obtain ⟨v4038, hv4038⟩ : ∃ v, eA g3984 198 v4001.toInt = v := ⟨_, rfl⟩
              refine q_iald (Sh.arr hI4032.1 ka_198) v4001.toInt rfl (by omega) v4038 ((eA_c ((hF4033.2.1 198 ma_X1_canHold_188_198).trans (hF4013.2.1 198 ma_X0_about_1_198))).trans hv4038) ?_
              refine r_iconst 1 rfl ?_
              refine q_iaddO (fun v4039 _ => ?_)
              refine q_iast (Sh.arr hI4032.1 ka_198) (v4001.toInt) rfl (by omega) ?_
              have hI4040 := HI.wA0 hI4032 ka_198 (p := 198) rfl rfl (v4001.toInt) (v4039)
              have hF4041 := Fr.wA (p := 198) (j := v4001.toInt) (v := v4039) hF4036 rfl
              refine r_aload_n (w_p1 (by decide) (Or.inr rfl) (w_p1 (by decide) (Or.inr rfl) (w_p1 (by decide) (Or.inr rfl) (w_p1 (by decide) (Or.inr rfl) (w_p1 (by decide) (Or.inr rfl) e3990))))) ?_
              refine q_getR (Sh.ref hI4040.1 kx_188 rfl) ?_
              refine r_iload (w_p1 (by decide) (Or.inr rfl) (w_p1 (by decide) (Or.inr rfl) (w_p1 (by decide) (Or.inr rfl) (w_p1 (by decide) (Or.inr rfl) (w_e1 _ _ _))))) ?_
              refine r_dup2 ⟨rfl, rfl⟩ ?_
              obtain ⟨v4042, hv4042⟩ : ∃ v, eA g3984 197 v4001.toInt = v := ⟨_, rfl⟩
              refine q_iald (Sh.arr hI4040.1 ka_197) v4001.toInt rfl (by omega) v4042 ((eA_c ((gA_sA_ne (by decide)).trans ((hF4033.2.1 197 ma_X1_canHold_188_197).trans (hF4013.2.1 197 ma_X0_about_1_197)))).trans hv4042) ?_
              refine r_iconst 1 rfl ?_
              refine q_iaddO (fun v4043 _ => ?_)
              refine q_iast (Sh.arr hI4040.1 ka_197) (v4001.toInt) rfl (by omega) ?_
              have hI4044 := HI.wA0 hI4040 ka_197 (p := 197) rfl rfl (v4001.toInt) (v4043)
              have hF4045 := Fr.wA (p := 197) (j := v4001.toInt) (v := v4043) hF4041 rfl
              refine r_goto ?_
              refine At.enter rfl ?_
              refine q_iinc (w_p1 (by decide) (Or.inr rfl) (w_p1 (by decide) (Or.inr rfl) (w_p1 (by decide) (Or.inr rfl) (w_p1 (by decide) (Or.inr rfl) (w_p1 (by decide) (Or.inr rfl) e3993))))) (x3983.toInt + 1) rfl (by omega) (fun v4046 hv4046 => ?_)
              refine r_goto ?_
              exact ih3989 (8 - v4046.toInt) _ _ ⟨v4046, by first | rfl | omega, hI4044, hF4045, (w_p1 (by decide) (Or.inr rfl) (w_p1 (by decide) (Or.inr rfl) (w_p1 (by decide) (Or.inr rfl) (w_p1 (by decide) (Or.inr rfl) (w_p1 (by decide) (Or.inr rfl) (w_p1 (by decide) (Or.inr rfl) e3990)))))), (w_p1 (by decide) (Or.inr rfl) (w_p1 (by decide) (Or.inr rfl) (w_p1 (by decide) (Or.inr rfl) (w_p1 (by decide) (Or.inr rfl) (w_p1 (by decide) (Or.inr rfl) (w_p1 (by decide) (Or.inr rfl) e3991)))))), (w_p1 (by decide) (Or.inr rfl) (w_p1 (by decide) (Or.inr rfl) (w_p1 (by decide) (Or.inr rfl) (w_p1 (by decide) (Or.inr rfl) (w_p1 (by decide) (Or.inr rfl) (w_p1 (by decide) (Or.inr rfl) e3992)))))), (w_e1 _ _ _), by omega⟩ ⟨by omega, by omega⟩
            · have c4037_ : v4034.toInt ≠ 0 := en_k_eq_f c4037
              refine At.enter rfl ?_
              refine r_iconst 1 rfl ?_
              refine r_goto ?_
              refine At.enter rfl ?_
              refine r_istore _ rfl ?_
              refine r_iload (w_e1 _ _ _) ?_
              refine r_iff 119 rfl (by decide) ?_
              refine At.enter rfl ?_
              refine r_iload_n (w_p1 (by decide) (Or.inr rfl) (w_p1 (by decide) (Or.inr rfl) (w_p1 (by decide) (Or.inr rfl) (w_p1 (by decide) (Or.inr rfl) (w_p1 (by decide) (Or.inr rfl) e3992))))) ?_
              refine r_ifs 123 rfl (fun c4047 => ?_) (fun c4047 => ?_)
              · have c4047_ : v2789.toInt = 0 := en_k_eq_t c4047
                refine At.enter rfl ?_
                refine r_iload (w_e1 _ _ _) ?_
                refine r_ift (by decide) ?_
                refine At.enter rfl ?_
                refine r_aload_n (w_p1 (by decide) (Or.inr rfl) (w_p1 (by decide) (Or.inr rfl) (w_p1 (by decide) (Or.inr rfl) (w_p1 (by decide) (Or.inr rfl) (w_p1 (by decide) (Or.inr rfl) e3990))))) ?_
                refine r_iconst 1 rfl ?_
                refine q_putI (Sh.int hI4032.1 kx_188 rfl) rfl ?_
                have hI4048 := HI.wI0 hI4032 kx_188 rfl (p := 188) (b := 18) (v := 1) rfl
                have hF4049 := Fr.wI (p := 188) (b := 18) (v := 1) hF4036 rfl
                refine r_aload_n (w_p1 (by decide) (Or.inr rfl) (w_p1 (by decide) (Or.inr rfl) (w_p1 (by decide) (Or.inr rfl) (w_p1 (by decide) (Or.inr rfl) (w_p1 (by decide) (Or.inr rfl) e3990))))) ?_
                refine r_iload (w_p1 (by decide) (Or.inr rfl) (w_p1 (by decide) (Or.inr rfl) (w_p1 (by decide) (Or.inr rfl) (w_e1 _ _ _)))) ?_
                refine r_iload (w_p1 (by decide) (Or.inr rfl) (w_p1 (by decide) (Or.inr rfl) (w_p1 (by decide) (Or.inr rfl) (w_p1 (by decide) (Or.inr rfl) (w_e1 _ _ _))))) ?_
                refine r_callV 212 rfl [.ref 188, .int v4002, .int v4001] [] (Nat.le_of_ble_eq_true rfl) rfl (T_X1_giveUp_188 _ hI4048 v4002 v4001 (by omega)) ?_
                rintro _ _ ⟨g4050, rfl, hI4051, hF4052, rfl⟩
                refine At.stn ?_
                have hF4055 := Fr.tr hF4049 hF4052 rfl rfl
                refine At.enter rfl ?_
                refine r_aload_n (w_p1 (by decide) (Or.inr rfl) (w_p1 (by decide) (Or.inr rfl) (w_p1 (by decide) (Or.inr rfl) (w_p1 (by decide) (Or.inr rfl) (w_p1 (by decide) (Or.inr rfl) e3990))))) ?_
                refine q_getR (Sh.ref hI4051.1 kx_188 rfl) ?_
                refine r_iload (w_p1 (by decide) (Or.inr rfl) (w_p1 (by decide) (Or.inr rfl) (w_p1 (by decide) (Or.inr rfl) (w_p1 (by decide) (Or.inr rfl) (w_e1 _ _ _))))) ?_
                refine r_dup2 ⟨rfl, rfl⟩ ?_
                obtain ⟨v4056, hv4056⟩ : ∃ v, eA g3984 194 v4001.toInt = v := ⟨_, rfl⟩
                refine q_iald (Sh.arr hI4051.1 ka_194) v4001.toInt rfl (by omega) v4056 ((eA_c ((hF4052.2.1 194 ma_X1_giveUp_188_194).trans ((gA_sI).trans ((hF4033.2.1 194 ma_X1_canHold_188_194).trans (hF4013.2.1 194 ma_X0_about_1_194))))).trans hv4056) ?_
                refine r_iconst 1 rfl ?_
                refine q_isubO (fun v4057 _ => ?_)
                refine q_iast (Sh.arr hI4051.1 ka_194) (v4001.toInt) rfl (by omega) ?_
                have hI4058 := HI.wA0 hI4051 ka_194 (p := 194) rfl rfl (v4001.toInt) (v4057)
                have hF4059 := Fr.wA (p := 194) (j := v4001.toInt) (v := v4057) hF4055 rfl
                refine r_iload (w_p1 (by decide) (Or.inr rfl) (w_e1 _ _ _)) ?_
                refine r_ift (by decide) ?_
                refine At.enter rfl ?_
                refine r_aload_n (w_p1 (by decide) (Or.inr rfl) (w_p1 (by decide) (Or.inr rfl) (w_p1 (by decide) (Or.inr rfl) (w_p1 (by decide) (Or.inr rfl) (w_p1 (by decide) (Or.inr rfl) e3990))))) ?_
                refine r_iload (w_p1 (by decide) (Or.inr rfl) (w_p1 (by decide) (Or.inr rfl) (w_e1 _ _ _))) ?_
                refine r_iload (w_p1 (by decide) (Or.inr rfl) (w_p1 (by decide) (Or.inr rfl) (w_p1 (by decide) (Or.inr rfl) (w_p1 (by decide) (Or.inr rfl) (w_e1 _ _ _))))) ?_
                refine r_callV 247 rfl [.ref 188, .int v4010, .int v4001] [] (Nat.le_of_ble_eq_true rfl) rfl (T_X1_take_188 _ hI4058 v4010 v4001 (by omega)) ?_
                rintro _ _ ⟨g4060, rfl, hI4061, hF4062, rfl⟩
                refine At.stn ?_
                have hF4065 := Fr.tr hF4059 hF4062 rfl rfl
                refine At.enter rfl ?_
                refine q_iinc (w_p1 (by decide) (Or.inr rfl) (w_p1 (by decide) (Or.inr rfl) (w_p1 (by decide) (Or.inr rfl) (w_p1 (by decide) (Or.inr rfl) (w_p1 (by decide) (Or.inr rfl) e3993))))) (x3983.toInt + 1) rfl (by omega) (fun v4066 hv4066 => ?_)
                refine r_goto ?_
                exact ih3989 (8 - v4066.toInt) _ _ ⟨v4066, by first | rfl | omega, hI4061, hF4065, (w_p1 (by decide) (Or.inr rfl) (w_p1 (by decide) (Or.inr rfl) (w_p1 (by decide) (Or.inr rfl) (w_p1 (by decide) (Or.inr rfl) (w_p1 (by decide) (Or.inr rfl) (w_p1 (by decide) (Or.inr rfl) e3990)))))), (w_p1 (by decide) (Or.inr rfl) (w_p1 (by decide) (Or.inr rfl) (w_p1 (by decide) (Or.inr rfl) (w_p1 (by decide) (Or.inr rfl) (w_p1 (by decide) (Or.inr rfl) (w_p1 (by decide) (Or.inr rfl) e3991)))))), (w_p1 (by decide) (Or.inr rfl) (w_p1 (by decide) (Or.inr rfl) (w_p1 (by decide) (Or.inr rfl) (w_p1 (by decide) (Or.inr rfl) (w_p1 (by decide) (Or.inr rfl) (w_p1 (by decide) (Or.inr rfl) e3992)))))), (w_e1 _ _ _), by omega⟩ ⟨by omega, by omega⟩
              · have c4047_ : v2789.toInt ≠ 0 := en_k_eq_f c4047
                refine At.enter rfl ?_
                refine r_aload_n (w_p1 (by decide) (Or.inr rfl) (w_p1 (by decide) (Or.inr rfl) (w_p1 (by decide) (Or.inr rfl) (w_p1 (by decide) (Or.inr rfl) (w_p1 (by decide) (Or.inr rfl) e3990))))) ?_
                refine q_getR (Sh.ref hI4032.1 kx_188 rfl) ?_
                refine r_iconst 2 rfl ?_
                refine r_iload (w_p1 (by decide) (Or.inr rfl) (w_p1 (by decide) (Or.inr rfl) (w_p1 (by decide) (Or.inr rfl) (w_p1 (by decide) (Or.inr rfl) (w_e1 _ _ _))))) ?_
                refine r_iload (w_p1 (by decide) (Or.inr rfl) (w_p1 (by decide) (Or.inr rfl) (w_p1 (by decide) (Or.inr rfl) (w_e1 _ _ _)))) ?_
                refine r_iload_n (w_p1 (by decide) (Or.inr rfl) (w_p1 (by decide) (Or.inr rfl) (w_p1 (by decide) (Or.inr rfl) (w_p1 (by decide) (Or.inr rfl) (w_p1 (by decide) (Or.inr rfl) e3991))))) ?_
                refine r_aload_n (w_p1 (by decide) (Or.inr rfl) (w_p1 (by decide) (Or.inr rfl) (w_p1 (by decide) (Or.inr rfl) (w_p1 (by decide) (Or.inr rfl) (w_p1 (by decide) (Or.inr rfl) e3990))))) ?_
                refine q_getR (Sh.ref hI4032.1 kx_188 rfl) ?_
                refine r_iload (w_p1 (by decide) (Or.inr rfl) (w_p1 (by decide) (Or.inr rfl) (w_p1 (by decide) (Or.inr rfl) (w_p1 (by decide) (Or.inr rfl) (w_e1 _ _ _))))) ?_
                obtain ⟨v4067, hv4067⟩ : ∃ v, eA g3984 198 v4001.toInt = v := ⟨_, rfl⟩
                refine q_iald (Sh.arr hI4032.1 ka_198) v4001.toInt rfl (by omega) v4067 ((eA_c ((hF4033.2.1 198 ma_X1_canHold_188_198).trans (hF4013.2.1 198 ma_X0_about_1_198))).trans hv4067) ?_
                refine r_aload_n (w_p1 (by decide) (Or.inr rfl) (w_p1 (by decide) (Or.inr rfl) (w_p1 (by decide) (Or.inr rfl) (w_p1 (by decide) (Or.inr rfl) (w_p1 (by decide) (Or.inr rfl) e3990))))) ?_
                refine q_getR (Sh.ref hI4032.1 kx_188 rfl) ?_
                refine r_iload (w_p1 (by decide) (Or.inr rfl) (w_p1 (by decide) (Or.inr rfl) (w_p1 (by decide) (Or.inr rfl) (w_e1 _ _ _)))) ?_
                obtain ⟨v4068, hv4068⟩ : ∃ v, eA g0 189 v4002.toInt = v := ⟨_, rfl⟩
                refine q_iald (Sh.arr hI4032.1 ka_189) v4002.toInt rfl (by omega) v4068 ((eA_c ((hF4033.2.1 189 ma_X1_canHold_188_189).trans ((hF4013.2.1 189 ma_X0_about_1_189).trans (hF3986.2.1 189 (by decide))))).trans hv4068) ?_
                refine r_aload_n (w_p1 (by decide) (Or.inr rfl) (w_p1 (by decide) (Or.inr rfl) (w_p1 (by decide) (Or.inr rfl) (w_p1 (by decide) (Or.inr rfl) (w_p1 (by decide) (Or.inr rfl) e3990))))) ?_
                refine q_getR (Sh.ref hI4032.1 kx_188 rfl) ?_
                refine r_iload (w_p1 (by decide) (Or.inr rfl) (w_p1 (by decide) (Or.inr rfl) (w_p1 (by decide) (Or.inr rfl) (w_e1 _ _ _)))) ?_
                obtain ⟨v4069, hv4069⟩ : ∃ v, eA g0 190 v4002.toInt = v := ⟨_, rfl⟩
                refine q_iald (Sh.arr hI4032.1 ka_190) v4002.toInt rfl (by omega) v4069 ((eA_c ((hF4033.2.1 190 ma_X1_canHold_188_190).trans ((hF4013.2.1 190 ma_X0_about_1_190).trans (hF3986.2.1 190 (by decide))))).trans hv4069) ?_
                refine r_callV 157 rfl [.ref 185, .int 2, .int v4001, .int v4002, .int a1, .int v4067, .int v4068, .int v4069] [] (Nat.le_of_ble_eq_true rfl) rfl (T_X3_tells_185 _ hI4032 2 v4001 v4002 a1 v4067 v4068 v4069) ?_
                rintro _ _ ⟨g4070, rfl, hI4071, hF4072, v4073, rfl, hr4074⟩
                refine At.stl ?_
                have hF4075 := Fr.tr hF4036 hF4072 rfl rfl
                have zv4076 : (2 : Int32).toInt = 2 := rfl
                refine At.enter rfl ?_
                refine r_lconst 0 rfl ?_
                refine r_lcmp _ rfl ?_
                refine r_ifs 162 rfl (fun c4077 => ?_) (fun c4077 => ?_)
                · have c4077_ : v4073.toInt ≠ 0 := en_j_ne_t c4077
                  refine At.enter rfl ?_
                  refine r_iconst 0 rfl ?_
                  refine Ar.fall 167 rfl ?_
                  refine At.enter rfl ?_
                  refine r_istore _ rfl ?_
                  refine Ar.fall 169 rfl ?_
                  refine At.enter rfl ?_
                  refine r_iload (w_e1 _ _ _) ?_
                  refine r_iff 174 rfl (by decide) ?_
                  refine At.enter rfl ?_
                  refine r_aload_n (w_p1 (by decide) (Or.inr rfl) (w_p1 (by decide) (Or.inr rfl) (w_p1 (by decide) (Or.inr rfl) (w_p1 (by decide) (Or.inr rfl) (w_p1 (by decide) (Or.inr rfl) (w_p1 (by decide) (Or.inr rfl) e3990)))))) ?_
                  refine q_getR (Sh.ref hI4071.1 kx_188 rfl) ?_
                  refine r_iload (w_p1 (by decide) (Or.inr rfl) (w_p1 (by decide) (Or.inr rfl) (w_p1 (by decide) (Or.inr rfl) (w_p1 (by decide) (Or.inr rfl) (w_p1 (by decide) (Or.inr rfl) (w_e1 _ _ _)))))) ?_
                  refine r_dup2 ⟨rfl, rfl⟩ ?_
                  refine q_iald (Sh.arr hI4071.1 ka_198) v4001.toInt rfl (by omega) v4067 ((eA_c ((hF4072.2.1 198 ma_X3_tells_185_198).trans ((hF4033.2.1 198 ma_X1_canHold_188_198).trans (hF4013.2.1 198 ma_X0_about_1_198)))).trans hv4067) ?_
                  refine r_iconst 1 rfl ?_
                  refine q_iaddO (fun v4078 _ => ?_)
                  refine q_iast (Sh.arr hI4071.1 ka_198) (v4001.toInt) rfl (by omega) ?_
                  have hI4079 := HI.wA0 hI4071 ka_198 (p := 198) rfl rfl (v4001.toInt) (v4078)
                  have hF4080 := Fr.wA (p := 198) (j := v4001.toInt) (v := v4078) hF4075 rfl
                  refine r_aload_n (w_p1 (by decide) (Or.inr rfl) (w_p1 (by decide) (Or.inr rfl) (w_p1 (by decide) (Or.inr rfl) (w_p1 (by decide) (Or.inr rfl) (w_p1 (by decide) (Or.inr rfl) (w_p1 (by decide) (Or.inr rfl) e3990)))))) ?_
                  refine q_getR (Sh.ref hI4079.1 kx_188 rfl) ?_
                  refine r_iload (w_p1 (by decide) (Or.inr rfl) (w_p1 (by decide) (Or.inr rfl) (w_p1 (by decide) (Or.inr rfl) (w_p1 (by decide) (Or.inr rfl) (w_p1 (by decide) (Or.inr rfl) (w_e1 _ _ _)))))) ?_
                  refine r_dup2 ⟨rfl, rfl⟩ ?_
                  obtain ⟨v4081, hv4081⟩ : ∃ v, eA g3984 197 v4001.toInt = v := ⟨_, rfl⟩
                  refine q_iald (Sh.arr hI4079.1 ka_197) v4001.toInt rfl (by omega) v4081 ((eA_c ((gA_sA_ne (by decide)).trans ((hF4072.2.1 197 ma_X3_tells_185_197).trans ((hF4033.2.1 197 ma_X1_canHold_188_197).trans (hF4013.2.1 197 ma_X0_about_1_197))))).trans hv4081) ?_
                  refine r_iconst 1 rfl ?_
                  refine q_iaddO (fun v4082 _ => ?_)
                  refine q_iast (Sh.arr hI4079.1 ka_197) (v4001.toInt) rfl (by omega) ?_
                  have hI4083 := HI.wA0 hI4079 ka_197 (p := 197) rfl rfl (v4001.toInt) (v4082)
                  have hF4084 := Fr.wA (p := 197) (j := v4001.toInt) (v := v4082) hF4080 rfl
                  refine r_goto ?_
                  refine At.enter rfl ?_
                  refine q_iinc (w_p1 (by decide) (Or.inr rfl) (w_p1 (by decide) (Or.inr rfl) (w_p1 (by decide) (Or.inr rfl) (w_p1 (by decide) (Or.inr rfl) (w_p1 (by decide) (Or.inr rfl) (w_p1 (by decide) (Or.inr rfl) e3993)))))) (x3983.toInt + 1) rfl (by omega) (fun v4085 hv4085 => ?_)
                  refine r_goto ?_
                  exact ih3989 (8 - v4085.toInt) _ _ ⟨v4085, by first | rfl | omega, hI4083, hF4084, (w_p1 (by decide) (Or.inr rfl) (w_p1 (by decide) (Or.inr rfl) (w_p1 (by decide) (Or.inr rfl) (w_p1 (by decide) (Or.inr rfl) (w_p1 (by decide) (Or.inr rfl) (w_p1 (by decide) (Or.inr rfl) (w_p1 (by decide) (Or.inr rfl) e3990))))))), (w_p1 (by decide) (Or.inr rfl) (w_p1 (by decide) (Or.inr rfl) (w_p1 (by decide) (Or.inr rfl) (w_p1 (by decide) (Or.inr rfl) (w_p1 (by decide) (Or.inr rfl) (w_p1 (by decide) (Or.inr rfl) (w_p1 (by decide) (Or.inr rfl) e3991))))))), (w_p1 (by decide) (Or.inr rfl) (w_p1 (by decide) (Or.inr rfl) (w_p1 (by decide) (Or.inr rfl) (w_p1 (by decide) (Or.inr rfl) (w_p1 (by decide) (Or.inr rfl) (w_p1 (by decide) (Or.inr rfl) (w_p1 (by decide) (Or.inr rfl) e3992))))))), (w_e1 _ _ _), by omega⟩ ⟨by omega, by omega⟩
                · have c4077_ : v4073.toInt = 0 := en_j_ne_f c4077
                  refine At.enter rfl ?_
                  refine r_iconst 1 rfl ?_
                  refine r_goto ?_
                  refine At.enter rfl ?_
                  refine r_istore _ rfl ?_
                  refine Ar.fall 169 rfl ?_
                  refine At.enter rfl ?_
                  refine r_iload (w_e1 _ _ _) ?_
                  refine r_ift (by decide) ?_
                  refine At.enter rfl ?_
                  refine r_aload_n (w_p1 (by decide) (Or.inr rfl) (w_p1 (by decide) (Or.inr rfl) (w_p1 (by decide) (Or.inr rfl) (w_p1 (by decide) (Or.inr rfl) (w_p1 (by decide) (Or.inr rfl) (w_p1 (by decide) (Or.inr rfl) e3990)))))) ?_
                  refine r_iconst 1 rfl ?_
                  refine q_putI (Sh.int hI4071.1 kx_188 rfl) rfl ?_
                  have hI4086 := HI.wI0 hI4071 kx_188 rfl (p := 188) (b := 18) (v := 1) rfl
                  have hF4087 := Fr.wI (p := 188) (b := 18) (v := 1) hF4075 rfl
                  refine r_aload_n (w_p1 (by decide) (Or.inr rfl) (w_p1 (by decide) (Or.inr rfl) (w_p1 (by decide) (Or.inr rfl) (w_p1 (by decide) (Or.inr rfl) (w_p1 (by decide) (Or.inr rfl) (w_p1 (by decide) (Or.inr rfl) e3990)))))) ?_
                  refine r_iload (w_p1 (by decide) (Or.inr rfl) (w_p1 (by decide) (Or.inr rfl) (w_p1 (by decide) (Or.inr rfl) (w_p1 (by decide) (Or.inr rfl) (w_e1 _ _ _))))) ?_
                  refine r_iload (w_p1 (by decide) (Or.inr rfl) (w_p1 (by decide) (Or.inr rfl) (w_p1 (by decide) (Or.inr rfl) (w_p1 (by decide) (Or.inr rfl) (w_p1 (by decide) (Or.inr rfl) (w_e1 _ _ _)))))) ?_
                  refine r_callV 212 rfl [.ref 188, .int v4002, .int v4001] [] (Nat.le_of_ble_eq_true rfl) rfl (T_X1_giveUp_188 _ hI4086 v4002 v4001 (by omega)) ?_
                  rintro _ _ ⟨g4088, rfl, hI4089, hF4090, rfl⟩
                  refine At.stn ?_
                  have hF4093 := Fr.tr hF4087 hF4090 rfl rfl
                  refine At.enter rfl ?_
                  refine r_aload_n (w_p1 (by decide) (Or.inr rfl) (w_p1 (by decide) (Or.inr rfl) (w_p1 (by decide) (Or.inr rfl) (w_p1 (by decide) (Or.inr rfl) (w_p1 (by decide) (Or.inr rfl) (w_p1 (by decide) (Or.inr rfl) e3990)))))) ?_
                  refine q_getR (Sh.ref hI4089.1 kx_188 rfl) ?_
                  refine r_iload (w_p1 (by decide) (Or.inr rfl) (w_p1 (by decide) (Or.inr rfl) (w_p1 (by decide) (Or.inr rfl) (w_p1 (by decide) (Or.inr rfl) (w_p1 (by decide) (Or.inr rfl) (w_e1 _ _ _)))))) ?_
                  refine r_dup2 ⟨rfl, rfl⟩ ?_
                  obtain ⟨v4094, hv4094⟩ : ∃ v, eA g3984 194 v4001.toInt = v := ⟨_, rfl⟩
                  refine q_iald (Sh.arr hI4089.1 ka_194) v4001.toInt rfl (by omega) v4094 ((eA_c ((hF4090.2.1 194 ma_X1_giveUp_188_194).trans ((gA_sI).trans ((hF4072.2.1 194 ma_X3_tells_185_194).trans ((hF4033.2.1 194 ma_X1_canHold_188_194).trans (hF4013.2.1 194 ma_X0_about_1_194)))))).trans hv4094) ?_
                  refine r_iconst 1 rfl ?_
                  refine q_isubO (fun v4095 _ => ?_)
                  refine q_iast (Sh.arr hI4089.1 ka_194) (v4001.toInt) rfl (by omega) ?_
                  have hI4096 := HI.wA0 hI4089 ka_194 (p := 194) rfl rfl (v4001.toInt) (v4095)
                  have hF4097 := Fr.wA (p := 194) (j := v4001.toInt) (v := v4095) hF4093 rfl
                  refine r_iload (w_p1 (by decide) (Or.inr rfl) (w_p1 (by decide) (Or.inr rfl) (w_e1 _ _ _))) ?_
                  refine r_ift (by decide) ?_
                  refine At.enter rfl ?_
                  refine r_aload_n (w_p1 (by decide) (Or.inr rfl) (w_p1 (by decide) (Or.inr rfl) (w_p1 (by decide) (Or.inr rfl) (w_p1 (by decide) (Or.inr rfl) (w_p1 (by decide) (Or.inr rfl) (w_p1 (by decide) (Or.inr rfl) e3990)))))) ?_
                  refine r_iload (w_p1 (by decide) (Or.inr rfl) (w_p1 (by decide) (Or.inr rfl) (w_p1 (by decide) (Or.inr rfl) (w_e1 _ _ _)))) ?_
                  refine r_iload (w_p1 (by decide) (Or.inr rfl) (w_p1 (by decide) (Or.inr rfl) (w_p1 (by decide) (Or.inr rfl) (w_p1 (by decide) (Or.inr rfl) (w_p1 (by decide) (Or.inr rfl) (w_e1 _ _ _)))))) ?_
                  refine r_callV 247 rfl [.ref 188, .int v4010, .int v4001] [] (Nat.le_of_ble_eq_true rfl) rfl (T_X1_take_188 _ hI4096 v4010 v4001 (by omega)) ?_
                  rintro _ _ ⟨g4098, rfl, hI4099, hF4100, rfl⟩
                  refine At.stn ?_
                  have hF4103 := Fr.tr hF4097 hF4100 rfl rfl
                  refine At.enter rfl ?_
                  refine q_iinc (w_p1 (by decide) (Or.inr rfl) (w_p1 (by decide) (Or.inr rfl) (w_p1 (by decide) (Or.inr rfl) (w_p1 (by decide) (Or.inr rfl) (w_p1 (by decide) (Or.inr rfl) (w_p1 (by decide) (Or.inr rfl) e3993)))))) (x3983.toInt + 1) rfl (by omega) (fun v4104 hv4104 => ?_)
                  refine r_goto ?_
                  exact ih3989 (8 - v4104.toInt) _ _ ⟨v4104, by first | rfl | omega, hI4099, hF4103, (w_p1 (by decide) (Or.inr rfl) (w_p1 (by decide) (Or.inr rfl) (w_p1 (by decide) (Or.inr rfl) (w_p1 (by decide) (Or.inr rfl) (w_p1 (by decide) (Or.inr rfl) (w_p1 (by decide) (Or.inr rfl) (w_p1 (by decide) (Or.inr rfl) e3990))))))), (w_p1 (by decide) (Or.inr rfl) (w_p1 (by decide) (Or.inr rfl) (w_p1 (by decide) (Or.inr rfl) (w_p1 (by decide) (Or.inr rfl) (w_p1 (by decide) (Or.inr rfl) (w_p1 (by decide) (Or.inr rfl) (w_p1 (by decide) (Or.inr rfl) e3991))))))), (w_p1 (by decide) (Or.inr rfl) (w_p1 (by decide) (Or.inr rfl) (w_p1 (by decide) (Or.inr rfl) (w_p1 (by decide) (Or.inr rfl) (w_p1 (by decide) (Or.inr rfl) (w_p1 (by decide) (Or.inr rfl) (w_p1 (by decide) (Or.inr rfl) e3992))))))), (w_e1 _ _ _), by omega⟩ ⟨by omega, by omega⟩
        · have c4020_ : v4010.toInt = v4014.toInt := en_i_ne_f c4020
          refine At.enter rfl ?_
          refine r_iconst 1 rfl ?_
          refine r_goto ?_
          refine At.enter rfl ?_
          refine r_istore _ rfl ?_
          refine r_iload (w_p1 (by decide) (Or.inr rfl) (w_e1 _ _ _)) ?_
          refine r_iconst (-1) rfl ?_
          refine r_ics 91 rfl (fun c4105 => ?_) (fun c4105 => ?_)
          · have c4105_ : v4010.toInt = (-1) := en_i_eq_t c4105
            refine At.enter rfl ?_
            refine r_iconst 0 rfl ?_
            refine Ar.fall 112 rfl ?_
            refine At.enter rfl ?_
            refine r_istore _ rfl ?_
            refine r_iload (w_e1 _ _ _) ?_
            refine r_ift (by decide) ?_
            refine At.enter rfl ?_
            refine r_iload (w_e1 _ _ _) ?_
            refine r_iff 174 rfl (by decide) ?_
            refine At.enter rfl ?_
            refine r_aload_n (w_p1 (by decide) (Or.inr rfl) (w_p1 (by decide) (Or.inr rfl) (w_p1 (by decide) (Or.inr rfl) (w_p1 (by decide) (Or.inr rfl) (w_p1 (by decide) (Or.inr rfl) e3990))))) ?_
            refine q_getR (Sh.ref hI4012.1 kx_188 rfl) ?_
            refine r_iload (w_p1 (by decide) (Or.inr rfl) (w_p1 (by decide) (Or.inr rfl) (w_p1 (by decide) (Or.inr rfl) (w_p1 (by decide) (Or.inr rfl) (w_e1 _ _ _))))) ?_
            refine r_dup2 ⟨rfl, rfl⟩ ?_
            obtain ⟨v4106, hv4106⟩ : ∃ v, eA g3984 198 v4001.toInt = v := ⟨_, rfl⟩
            refine q_iald (Sh.arr hI4012.1 ka_198) v4001.toInt rfl (by omega) v4106 ((eA_c (hF4013.2.1 198 ma_X0_about_1_198)).trans hv4106) ?_
            refine r_iconst 1 rfl ?_
            refine q_iaddO (fun v4107 _ => ?_)
            refine q_iast (Sh.arr hI4012.1 ka_198) (v4001.toInt) rfl (by omega) ?_
            have hI4108 := HI.wA0 hI4012 ka_198 (p := 198) rfl rfl (v4001.toInt) (v4107)
            have hF4109 := Fr.wA (p := 198) (j := v4001.toInt) (v := v4107) hF4016 rfl
            refine r_aload_n (w_p1 (by decide) (Or.inr rfl) (w_p1 (by decide) (Or.inr rfl) (w_p1 (by decide) (Or.inr rfl) (w_p1 (by decide) (Or.inr rfl) (w_p1 (by decide) (Or.inr rfl) e3990))))) ?_
            refine q_getR (Sh.ref hI4108.1 kx_188 rfl) ?_
            refine r_iload (w_p1 (by decide) (Or.inr rfl) (w_p1 (by decide) (Or.inr rfl) (w_p1 (by decide) (Or.inr rfl) (w_p1 (by decide) (Or.inr rfl) (w_e1 _ _ _))))) ?_
            refine r_dup2 ⟨rfl, rfl⟩ ?_
            obtain ⟨v4110, hv4110⟩ : ∃ v, eA g3984 197 v4001.toInt = v := ⟨_, rfl⟩
            refine q_iald (Sh.arr hI4108.1 ka_197) v4001.toInt rfl (by omega) v4110 ((eA_c ((gA_sA_ne (by decide)).trans (hF4013.2.1 197 ma_X0_about_1_197))).trans hv4110) ?_
            refine r_iconst 1 rfl ?_
            refine q_iaddO (fun v4111 _ => ?_)
            refine q_iast (Sh.arr hI4108.1 ka_197) (v4001.toInt) rfl (by omega) ?_
            have hI4112 := HI.wA0 hI4108 ka_197 (p := 197) rfl rfl (v4001.toInt) (v4111)
            have hF4113 := Fr.wA (p := 197) (j := v4001.toInt) (v := v4111) hF4109 rfl
            refine r_goto ?_
            refine At.enter rfl ?_
            refine q_iinc (w_p1 (by decide) (Or.inr rfl) (w_p1 (by decide) (Or.inr rfl) (w_p1 (by decide) (Or.inr rfl) (w_p1 (by decide) (Or.inr rfl) (w_p1 (by decide) (Or.inr rfl) e3993))))) (x3983.toInt + 1) rfl (by omega) (fun v4114 hv4114 => ?_)
            refine r_goto ?_
            exact ih3989 (8 - v4114.toInt) _ _ ⟨v4114, by first | rfl | omega, hI4112, hF4113, (w_p1 (by decide) (Or.inr rfl) (w_p1 (by decide) (Or.inr rfl) (w_p1 (by decide) (Or.inr rfl) (w_p1 (by decide) (Or.inr rfl) (w_p1 (by decide) (Or.inr rfl) (w_p1 (by decide) (Or.inr rfl) e3990)))))), (w_p1 (by decide) (Or.inr rfl) (w_p1 (by decide) (Or.inr rfl) (w_p1 (by decide) (Or.inr rfl) (w_p1 (by decide) (Or.inr rfl) (w_p1 (by decide) (Or.inr rfl) (w_p1 (by decide) (Or.inr rfl) e3991)))))), (w_p1 (by decide) (Or.inr rfl) (w_p1 (by decide) (Or.inr rfl) (w_p1 (by decide) (Or.inr rfl) (w_p1 (by decide) (Or.inr rfl) (w_p1 (by decide) (Or.inr rfl) (w_p1 (by decide) (Or.inr rfl) e3992)))))), (w_e1 _ _ _), by omega⟩ ⟨by omega, by omega⟩
          · have c4105_ : v4010.toInt ≠ (-1) := en_i_eq_f c4105
            refine At.enter rfl ?_
            refine r_iload (w_e1 _ _ _) ?_
            refine r_ift (by decide) ?_
            refine At.enter rfl ?_
            refine r_iconst 1 rfl ?_
            refine r_goto ?_
            refine At.enter rfl ?_
            refine r_istore _ rfl ?_
            refine r_iload (w_e1 _ _ _) ?_
            refine r_iff 119 rfl (by decide) ?_
            refine At.enter rfl ?_
            refine r_iload_n (w_p1 (by decide) (Or.inr rfl) (w_p1 (by decide) (Or.inr rfl) (w_p1 (by decide) (Or.inr rfl) (w_p1 (by decide) (Or.inr rfl) (w_p1 (by decide) (Or.inr rfl) e3992))))) ?_
            refine r_ifs 123 rfl (fun c4115 => ?_) (fun c4115 => ?_)
            · have c4115_ : v2789.toInt = 0 := en_k_eq_t c4115
              refine At.enter rfl ?_
              refine r_iload (w_e1 _ _ _) ?_
              refine r_ift (by decide) ?_
              refine At.enter rfl ?_
              refine r_aload_n (w_p1 (by decide) (Or.inr rfl) (w_p1 (by decide) (Or.inr rfl) (w_p1 (by decide) (Or.inr rfl) (w_p1 (by decide) (Or.inr rfl) (w_p1 (by decide) (Or.inr rfl) e3990))))) ?_
              refine r_iconst 1 rfl ?_
              refine q_putI (Sh.int hI4012.1 kx_188 rfl) rfl ?_
              have hI4116 := HI.wI0 hI4012 kx_188 rfl (p := 188) (b := 18) (v := 1) rfl
              have hF4117 := Fr.wI (p := 188) (b := 18) (v := 1) hF4016 rfl
              refine r_aload_n (w_p1 (by decide) (Or.inr rfl) (w_p1 (by decide) (Or.inr rfl) (w_p1 (by decide) (Or.inr rfl) (w_p1 (by decide) (Or.inr rfl) (w_p1 (by decide) (Or.inr rfl) e3990))))) ?_
              refine r_iload (w_p1 (by decide) (Or.inr rfl) (w_p1 (by decide) (Or.inr rfl) (w_p1 (by decide) (Or.inr rfl) (w_e1 _ _ _)))) ?_
              refine r_iload (w_p1 (by decide) (Or.inr rfl) (w_p1 (by decide) (Or.inr rfl) (w_p1 (by decide) (Or.inr rfl) (w_p1 (by decide) (Or.inr rfl) (w_e1 _ _ _))))) ?_
              refine r_callV 212 rfl [.ref 188, .int v4002, .int v4001] [] (Nat.le_of_ble_eq_true rfl) rfl (T_X1_giveUp_188 _ hI4116 v4002 v4001 (by omega)) ?_
              rintro _ _ ⟨g4118, rfl, hI4119, hF4120, rfl⟩
              refine At.stn ?_
              have hF4123 := Fr.tr hF4117 hF4120 rfl rfl
              refine At.enter rfl ?_
              refine r_aload_n (w_p1 (by decide) (Or.inr rfl) (w_p1 (by decide) (Or.inr rfl) (w_p1 (by decide) (Or.inr rfl) (w_p1 (by decide) (Or.inr rfl) (w_p1 (by decide) (Or.inr rfl) e3990))))) ?_
              refine q_getR (Sh.ref hI4119.1 kx_188 rfl) ?_
              refine r_iload (w_p1 (by decide) (Or.inr rfl) (w_p1 (by decide) (Or.inr rfl) (w_p1 (by decide) (Or.inr rfl) (w_p1 (by decide) (Or.inr rfl) (w_e1 _ _ _))))) ?_
              refine r_dup2 ⟨rfl, rfl⟩ ?_
              obtain ⟨v4124, hv4124⟩ : ∃ v, eA g3984 194 v4001.toInt = v := ⟨_, rfl⟩
              refine q_iald (Sh.arr hI4119.1 ka_194) v4001.toInt rfl (by omega) v4124 ((eA_c ((hF4120.2.1 194 ma_X1_giveUp_188_194).trans ((gA_sI).trans (hF4013.2.1 194 ma_X0_about_1_194)))).trans hv4124) ?_
              refine r_iconst 1 rfl ?_
              refine q_isubO (fun v4125 _ => ?_)
              refine q_iast (Sh.arr hI4119.1 ka_194) (v4001.toInt) rfl (by omega) ?_
              have hI4126 := HI.wA0 hI4119 ka_194 (p := 194) rfl rfl (v4001.toInt) (v4125)
              have hF4127 := Fr.wA (p := 194) (j := v4001.toInt) (v := v4125) hF4123 rfl
              refine r_iload (w_p1 (by decide) (Or.inr rfl) (w_e1 _ _ _)) ?_
              refine r_iff 228 rfl (by decide) ?_
              refine At.enter rfl ?_
              refine r_aload_n (w_p1 (by decide) (Or.inr rfl) (w_p1 (by decide) (Or.inr rfl) (w_p1 (by decide) (Or.inr rfl) (w_p1 (by decide) (Or.inr rfl) (w_p1 (by decide) (Or.inr rfl) e3990))))) ?_
              refine q_getR (Sh.ref hI4126.1 kx_188 rfl) ?_
              refine r_iload (w_p1 (by decide) (Or.inr rfl) (w_p1 (by decide) (Or.inr rfl) (w_p1 (by decide) (Or.inr rfl) (w_p1 (by decide) (Or.inr rfl) (w_e1 _ _ _))))) ?_
              refine r_iload_n (w_p1 (by decide) (Or.inr rfl) (w_p1 (by decide) (Or.inr rfl) (w_p1 (by decide) (Or.inr rfl) (w_p1 (by decide) (Or.inr rfl) (w_p1 (by decide) (Or.inr rfl) e3991))))) ?_
              refine q_iast (Sh.arr hI4126.1 ka_196) (v4001.toInt) rfl (by omega) ?_
              have hI4128 := HI.wA0 hI4126 ka_196 (p := 196) rfl rfl (v4001.toInt) (a1)
              have hF4129 := Fr.wA (p := 196) (j := v4001.toInt) (v := a1) hF4127 rfl
              refine r_goto ?_
              refine At.enter rfl ?_
              refine q_iinc (w_p1 (by decide) (Or.inr rfl) (w_p1 (by decide) (Or.inr rfl) (w_p1 (by decide) (Or.inr rfl) (w_p1 (by decide) (Or.inr rfl) (w_p1 (by decide) (Or.inr rfl) e3993))))) (x3983.toInt + 1) rfl (by omega) (fun v4130 hv4130 => ?_)
              refine r_goto ?_
              exact ih3989 (8 - v4130.toInt) _ _ ⟨v4130, by first | rfl | omega, hI4128, hF4129, (w_p1 (by decide) (Or.inr rfl) (w_p1 (by decide) (Or.inr rfl) (w_p1 (by decide) (Or.inr rfl) (w_p1 (by decide) (Or.inr rfl) (w_p1 (by decide) (Or.inr rfl) (w_p1 (by decide) (Or.inr rfl) e3990)))))), (w_p1 (by decide) (Or.inr rfl) (w_p1 (by decide) (Or.inr rfl) (w_p1 (by decide) (Or.inr rfl) (w_p1 (by decide) (Or.inr rfl) (w_p1 (by decide) (Or.inr rfl) (w_p1 (by decide) (Or.inr rfl) e3991)))))), (w_p1 (by decide) (Or.inr rfl) (w_p1 (by decide) (Or.inr rfl) (w_p1 (by decide) (Or.inr rfl) (w_p1 (by decide) (Or.inr rfl) (w_p1 (by decide) (Or.inr rfl) (w_p1 (by decide) (Or.inr rfl) e3992)))))), (w_e1 _ _ _), by omega⟩ ⟨by omega, by omega⟩
            · have c4115_ : v2789.toInt ≠ 0 := en_k_eq_f c4115
              refine At.enter rfl ?_
              refine r_aload_n (w_p1 (by decide) (Or.inr rfl) (w_p1 (by decide) (Or.inr rfl) (w_p1 (by decide) (Or.inr rfl) (w_p1 (by decide) (Or.inr rfl) (w_p1 (by decide) (Or.inr rfl) e3990))))) ?_
              refine q_getR (Sh.ref hI4012.1 kx_188 rfl) ?_
              refine r_iconst 2 rfl ?_
              refine r_iload (w_p1 (by decide) (Or.inr rfl) (w_p1 (by decide) (Or.inr rfl) (w_p1 (by decide) (Or.inr rfl) (w_p1 (by decide) (Or.inr rfl) (w_e1 _ _ _))))) ?_
              refine r_iload (w_p1 (by decide) (Or.inr rfl) (w_p1 (by decide) (Or.inr rfl) (w_p1 (by decide) (Or.inr rfl) (w_e1 _ _ _)))) ?_
              refine r_iload_n (w_p1 (by decide) (Or.inr rfl) (w_p1 (by decide) (Or.inr rfl) (w_p1 (by decide) (Or.inr rfl) (w_p1 (by decide) (Or.inr rfl) (w_p1 (by decide) (Or.inr rfl) e3991))))) ?_
              refine r_aload_n (w_p1 (by decide) (Or.inr rfl) (w_p1 (by decide) (Or.inr rfl) (w_p1 (by decide) (Or.inr rfl) (w_p1 (by decide) (Or.inr rfl) (w_p1 (by decide) (Or.inr rfl) e3990))))) ?_
              refine q_getR (Sh.ref hI4012.1 kx_188 rfl) ?_
              refine r_iload (w_p1 (by decide) (Or.inr rfl) (w_p1 (by decide) (Or.inr rfl) (w_p1 (by decide) (Or.inr rfl) (w_p1 (by decide) (Or.inr rfl) (w_e1 _ _ _))))) ?_
              obtain ⟨v4131, hv4131⟩ : ∃ v, eA g3984 198 v4001.toInt = v := ⟨_, rfl⟩
              refine q_iald (Sh.arr hI4012.1 ka_198) v4001.toInt rfl (by omega) v4131 ((eA_c (hF4013.2.1 198 ma_X0_about_1_198)).trans hv4131) ?_
              refine r_aload_n (w_p1 (by decide) (Or.inr rfl) (w_p1 (by decide) (Or.inr rfl) (w_p1 (by decide) (Or.inr rfl) (w_p1 (by decide) (Or.inr rfl) (w_p1 (by decide) (Or.inr rfl) e3990))))) ?_
              refine q_getR (Sh.ref hI4012.1 kx_188 rfl) ?_
              refine r_iload (w_p1 (by decide) (Or.inr rfl) (w_p1 (by decide) (Or.inr rfl) (w_p1 (by decide) (Or.inr rfl) (w_e1 _ _ _)))) ?_
              obtain ⟨v4132, hv4132⟩ : ∃ v, eA g0 189 v4002.toInt = v := ⟨_, rfl⟩
              refine q_iald (Sh.arr hI4012.1 ka_189) v4002.toInt rfl (by omega) v4132 ((eA_c ((hF4013.2.1 189 ma_X0_about_1_189).trans (hF3986.2.1 189 (by decide)))).trans hv4132) ?_
              refine r_aload_n (w_p1 (by decide) (Or.inr rfl) (w_p1 (by decide) (Or.inr rfl) (w_p1 (by decide) (Or.inr rfl) (w_p1 (by decide) (Or.inr rfl) (w_p1 (by decide) (Or.inr rfl) e3990))))) ?_
              refine q_getR (Sh.ref hI4012.1 kx_188 rfl) ?_
              refine r_iload (w_p1 (by decide) (Or.inr rfl) (w_p1 (by decide) (Or.inr rfl) (w_p1 (by decide) (Or.inr rfl) (w_e1 _ _ _)))) ?_
              obtain ⟨v4133, hv4133⟩ : ∃ v, eA g0 190 v4002.toInt = v := ⟨_, rfl⟩
              refine q_iald (Sh.arr hI4012.1 ka_190) v4002.toInt rfl (by omega) v4133 ((eA_c ((hF4013.2.1 190 ma_X0_about_1_190).trans (hF3986.2.1 190 (by decide)))).trans hv4133) ?_
              refine r_callV 157 rfl [.ref 185, .int 2, .int v4001, .int v4002, .int a1, .int v4131, .int v4132, .int v4133] [] (Nat.le_of_ble_eq_true rfl) rfl (T_X3_tells_185 _ hI4012 2 v4001 v4002 a1 v4131 v4132 v4133) ?_
              rintro _ _ ⟨g4134, rfl, hI4135, hF4136, v4137, rfl, hr4138⟩
              refine At.stl ?_
              have hF4139 := Fr.tr hF4016 hF4136 rfl rfl
              have zv4140 : (2 : Int32).toInt = 2 := rfl
              refine At.enter rfl ?_
              refine r_lconst 0 rfl ?_
              refine r_lcmp _ rfl ?_
              refine r_ifs 162 rfl (fun c4141 => ?_) (fun c4141 => ?_)
              · have c4141_ : v4137.toInt ≠ 0 := en_j_ne_t c4141
                refine At.enter rfl ?_
                refine r_iconst 0 rfl ?_
                refine Ar.fall 167 rfl ?_
                refine At.enter rfl ?_
                refine r_istore _ rfl ?_
                refine Ar.fall 169 rfl ?_
                refine At.enter rfl ?_
                refine r_iload (w_e1 _ _ _) ?_
                refine r_iff 174 rfl (by decide) ?_
                refine At.enter rfl ?_
                refine r_aload_n (w_p1 (by decide) (Or.inr rfl) (w_p1 (by decide) (Or.inr rfl) (w_p1 (by decide) (Or.inr rfl) (w_p1 (by decide) (Or.inr rfl) (w_p1 (by decide) (Or.inr rfl) (w_p1 (by decide) (Or.inr rfl) e3990)))))) ?_
                refine q_getR (Sh.ref hI4135.1 kx_188 rfl) ?_
                refine r_iload (w_p1 (by decide) (Or.inr rfl) (w_p1 (by decide) (Or.inr rfl) (w_p1 (by decide) (Or.inr rfl) (w_p1 (by decide) (Or.inr rfl) (w_p1 (by decide) (Or.inr rfl) (w_e1 _ _ _)))))) ?_
                refine r_dup2 ⟨rfl, rfl⟩ ?_
                refine q_iald (Sh.arr hI4135.1 ka_198) v4001.toInt rfl (by omega) v4131 ((eA_c ((hF4136.2.1 198 ma_X3_tells_185_198).trans (hF4013.2.1 198 ma_X0_about_1_198))).trans hv4131) ?_
                refine r_iconst 1 rfl ?_
                refine q_iaddO (fun v4142 _ => ?_)
                refine q_iast (Sh.arr hI4135.1 ka_198) (v4001.toInt) rfl (by omega) ?_
                have hI4143 := HI.wA0 hI4135 ka_198 (p := 198) rfl rfl (v4001.toInt) (v4142)
                have hF4144 := Fr.wA (p := 198) (j := v4001.toInt) (v := v4142) hF4139 rfl
                refine r_aload_n (w_p1 (by decide) (Or.inr rfl) (w_p1 (by decide) (Or.inr rfl) (w_p1 (by decide) (Or.inr rfl) (w_p1 (by decide) (Or.inr rfl) (w_p1 (by decide) (Or.inr rfl) (w_p1 (by decide) (Or.inr rfl) e3990)))))) ?_
                refine q_getR (Sh.ref hI4143.1 kx_188 rfl) ?_
                refine r_iload (w_p1 (by decide) (Or.inr rfl) (w_p1 (by decide) (Or.inr rfl) (w_p1 (by decide) (Or.inr rfl) (w_p1 (by decide) (Or.inr rfl) (w_p1 (by decide) (Or.inr rfl) (w_e1 _ _ _)))))) ?_
                refine r_dup2 ⟨rfl, rfl⟩ ?_
                obtain ⟨v4145, hv4145⟩ : ∃ v, eA g3984 197 v4001.toInt = v := ⟨_, rfl⟩
                refine q_iald (Sh.arr hI4143.1 ka_197) v4001.toInt rfl (by omega) v4145 ((eA_c ((gA_sA_ne (by decide)).trans ((hF4136.2.1 197 ma_X3_tells_185_197).trans (hF4013.2.1 197 ma_X0_about_1_197)))).trans hv4145) ?_
                refine r_iconst 1 rfl ?_
                refine q_iaddO (fun v4146 _ => ?_)
                refine q_iast (Sh.arr hI4143.1 ka_197) (v4001.toInt) rfl (by omega) ?_
                have hI4147 := HI.wA0 hI4143 ka_197 (p := 197) rfl rfl (v4001.toInt) (v4146)
                have hF4148 := Fr.wA (p := 197) (j := v4001.toInt) (v := v4146) hF4144 rfl
                refine r_goto ?_
                refine At.enter rfl ?_
                refine q_iinc (w_p1 (by decide) (Or.inr rfl) (w_p1 (by decide) (Or.inr rfl) (w_p1 (by decide) (Or.inr rfl) (w_p1 (by decide) (Or.inr rfl) (w_p1 (by decide) (Or.inr rfl) (w_p1 (by decide) (Or.inr rfl) e3993)))))) (x3983.toInt + 1) rfl (by omega) (fun v4149 hv4149 => ?_)
                refine r_goto ?_
                exact ih3989 (8 - v4149.toInt) _ _ ⟨v4149, by first | rfl | omega, hI4147, hF4148, (w_p1 (by decide) (Or.inr rfl) (w_p1 (by decide) (Or.inr rfl) (w_p1 (by decide) (Or.inr rfl) (w_p1 (by decide) (Or.inr rfl) (w_p1 (by decide) (Or.inr rfl) (w_p1 (by decide) (Or.inr rfl) (w_p1 (by decide) (Or.inr rfl) e3990))))))), (w_p1 (by decide) (Or.inr rfl) (w_p1 (by decide) (Or.inr rfl) (w_p1 (by decide) (Or.inr rfl) (w_p1 (by decide) (Or.inr rfl) (w_p1 (by decide) (Or.inr rfl) (w_p1 (by decide) (Or.inr rfl) (w_p1 (by decide) (Or.inr rfl) e3991))))))), (w_p1 (by decide) (Or.inr rfl) (w_p1 (by decide) (Or.inr rfl) (w_p1 (by decide) (Or.inr rfl) (w_p1 (by decide) (Or.inr rfl) (w_p1 (by decide) (Or.inr rfl) (w_p1 (by decide) (Or.inr rfl) (w_p1 (by decide) (Or.inr rfl) e3992))))))), (w_e1 _ _ _), by omega⟩ ⟨by omega, by omega⟩
              · have c4141_ : v4137.toInt = 0 := en_j_ne_f c4141
                refine At.enter rfl ?_
                refine r_iconst 1 rfl ?_
                refine r_goto ?_
                refine At.enter rfl ?_
                refine r_istore _ rfl ?_
                refine Ar.fall 169 rfl ?_
                refine At.enter rfl ?_
                refine r_iload (w_e1 _ _ _) ?_
                refine r_ift (by decide) ?_
                refine At.enter rfl ?_
                refine r_aload_n (w_p1 (by decide) (Or.inr rfl) (w_p1 (by decide) (Or.inr rfl) (w_p1 (by decide) (Or.inr rfl) (w_p1 (by decide) (Or.inr rfl) (w_p1 (by decide) (Or.inr rfl) (w_p1 (by decide) (Or.inr rfl) e3990)))))) ?_
                refine r_iconst 1 rfl ?_
                refine q_putI (Sh.int hI4135.1 kx_188 rfl) rfl ?_
                have hI4150 := HI.wI0 hI4135 kx_188 rfl (p := 188) (b := 18) (v := 1) rfl
                have hF4151 := Fr.wI (p := 188) (b := 18) (v := 1) hF4139 rfl
                refine r_aload_n (w_p1 (by decide) (Or.inr rfl) (w_p1 (by decide) (Or.inr rfl) (w_p1 (by decide) (Or.inr rfl) (w_p1 (by decide) (Or.inr rfl) (w_p1 (by decide) (Or.inr rfl) (w_p1 (by decide) (Or.inr rfl) e3990)))))) ?_
                refine r_iload (w_p1 (by decide) (Or.inr rfl) (w_p1 (by decide) (Or.inr rfl) (w_p1 (by decide) (Or.inr rfl) (w_p1 (by decide) (Or.inr rfl) (w_e1 _ _ _))))) ?_
                refine r_iload (w_p1 (by decide) (Or.inr rfl) (w_p1 (by decide) (Or.inr rfl) (w_p1 (by decide) (Or.inr rfl) (w_p1 (by decide) (Or.inr rfl) (w_p1 (by decide) (Or.inr rfl) (w_e1 _ _ _)))))) ?_
                refine r_callV 212 rfl [.ref 188, .int v4002, .int v4001] [] (Nat.le_of_ble_eq_true rfl) rfl (T_X1_giveUp_188 _ hI4150 v4002 v4001 (by omega)) ?_
                rintro _ _ ⟨g4152, rfl, hI4153, hF4154, rfl⟩
                refine At.stn ?_
                have hF4157 := Fr.tr hF4151 hF4154 rfl rfl
                refine At.enter rfl ?_
                refine r_aload_n (w_p1 (by decide) (Or.inr rfl) (w_p1 (by decide) (Or.inr rfl) (w_p1 (by decide) (Or.inr rfl) (w_p1 (by decide) (Or.inr rfl) (w_p1 (by decide) (Or.inr rfl) (w_p1 (by decide) (Or.inr rfl) e3990)))))) ?_
                refine q_getR (Sh.ref hI4153.1 kx_188 rfl) ?_
                refine r_iload (w_p1 (by decide) (Or.inr rfl) (w_p1 (by decide) (Or.inr rfl) (w_p1 (by decide) (Or.inr rfl) (w_p1 (by decide) (Or.inr rfl) (w_p1 (by decide) (Or.inr rfl) (w_e1 _ _ _)))))) ?_
                refine r_dup2 ⟨rfl, rfl⟩ ?_
                obtain ⟨v4158, hv4158⟩ : ∃ v, eA g3984 194 v4001.toInt = v := ⟨_, rfl⟩
                refine q_iald (Sh.arr hI4153.1 ka_194) v4001.toInt rfl (by omega) v4158 ((eA_c ((hF4154.2.1 194 ma_X1_giveUp_188_194).trans ((gA_sI).trans ((hF4136.2.1 194 ma_X3_tells_185_194).trans (hF4013.2.1 194 ma_X0_about_1_194))))).trans hv4158) ?_
                refine r_iconst 1 rfl ?_
                refine q_isubO (fun v4159 _ => ?_)
                refine q_iast (Sh.arr hI4153.1 ka_194) (v4001.toInt) rfl (by omega) ?_
                have hI4160 := HI.wA0 hI4153 ka_194 (p := 194) rfl rfl (v4001.toInt) (v4159)
                have hF4161 := Fr.wA (p := 194) (j := v4001.toInt) (v := v4159) hF4157 rfl
                refine r_iload (w_p1 (by decide) (Or.inr rfl) (w_p1 (by decide) (Or.inr rfl) (w_e1 _ _ _))) ?_
                refine r_iff 228 rfl (by decide) ?_
                refine At.enter rfl ?_
                refine r_aload_n (w_p1 (by decide) (Or.inr rfl) (w_p1 (by decide) (Or.inr rfl) (w_p1 (by decide) (Or.inr rfl) (w_p1 (by decide) (Or.inr rfl) (w_p1 (by decide) (Or.inr rfl) (w_p1 (by decide) (Or.inr rfl) e3990)))))) ?_
                refine q_getR (Sh.ref hI4160.1 kx_188 rfl) ?_
                refine r_iload (w_p1 (by decide) (Or.inr rfl) (w_p1 (by decide) (Or.inr rfl) (w_p1 (by decide) (Or.inr rfl) (w_p1 (by decide) (Or.inr rfl) (w_p1 (by decide) (Or.inr rfl) (w_e1 _ _ _)))))) ?_
                refine r_iload_n (w_p1 (by decide) (Or.inr rfl) (w_p1 (by decide) (Or.inr rfl) (w_p1 (by decide) (Or.inr rfl) (w_p1 (by decide) (Or.inr rfl) (w_p1 (by decide) (Or.inr rfl) (w_p1 (by decide) (Or.inr rfl) e3991)))))) ?_
                refine q_iast (Sh.arr hI4160.1 ka_196) (v4001.toInt) rfl (by omega) ?_
                have hI4162 := HI.wA0 hI4160 ka_196 (p := 196) rfl rfl (v4001.toInt) (a1)
                have hF4163 := Fr.wA (p := 196) (j := v4001.toInt) (v := a1) hF4161 rfl
                refine r_goto ?_
                refine At.enter rfl ?_
                refine q_iinc (w_p1 (by decide) (Or.inr rfl) (w_p1 (by decide) (Or.inr rfl) (w_p1 (by decide) (Or.inr rfl) (w_p1 (by decide) (Or.inr rfl) (w_p1 (by decide) (Or.inr rfl) (w_p1 (by decide) (Or.inr rfl) e3993)))))) (x3983.toInt + 1) rfl (by omega) (fun v4164 hv4164 => ?_)
                refine r_goto ?_
                exact ih3989 (8 - v4164.toInt) _ _ ⟨v4164, by first | rfl | omega, hI4162, hF4163, (w_p1 (by decide) (Or.inr rfl) (w_p1 (by decide) (Or.inr rfl) (w_p1 (by decide) (Or.inr rfl) (w_p1 (by decide) (Or.inr rfl) (w_p1 (by decide) (Or.inr rfl) (w_p1 (by decide) (Or.inr rfl) (w_p1 (by decide) (Or.inr rfl) e3990))))))), (w_p1 (by decide) (Or.inr rfl) (w_p1 (by decide) (Or.inr rfl) (w_p1 (by decide) (Or.inr rfl) (w_p1 (by decide) (Or.inr rfl) (w_p1 (by decide) (Or.inr rfl) (w_p1 (by decide) (Or.inr rfl) (w_p1 (by decide) (Or.inr rfl) e3991))))))), (w_p1 (by decide) (Or.inr rfl) (w_p1 (by decide) (Or.inr rfl) (w_p1 (by decide) (Or.inr rfl) (w_p1 (by decide) (Or.inr rfl) (w_p1 (by decide) (Or.inr rfl) (w_p1 (by decide) (Or.inr rfl) (w_p1 (by decide) (Or.inr rfl) e3992))))))), (w_e1 _ _ _), by omega⟩ ⟨by omega, by omega⟩
