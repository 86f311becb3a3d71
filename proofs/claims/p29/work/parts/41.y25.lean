def F_X10_law_0 : List (Nat × Nat) := [(0, 17), (1, 6), (7, 0), (7, 3), (7, 4), (16, 0), (16, 3), (16, 4), (23, 0), (23, 3), (23, 4), (30, 0), (30, 3), (30, 4), (37, 0), (37, 3), (37, 4), (44, 0), (44, 3), (44, 4), (51, 0), (51, 3), (51, 4), (65, 0), (65, 3), (65, 4), (74, 0), (74, 3), (74, 4), (81, 0), (81, 3), (81, 4), (88, 0), (88, 3), (88, 4), (95, 0), (95, 3), (95, 4), (102, 0), (102, 3), (102, 4), (109, 0), (109, 3), (109, 4), (122, 0), (122, 3), (122, 4), (131, 0), (131, 3), (131, 4), (138, 0), (138, 3), (138, 4), (145, 0), (145, 3), (145, 4), (152, 0), (152, 3), (152, 4), (159, 0), (159, 3), (159, 4), (166, 0), (166, 3), (166, 4), (174, 1), (176, 2), (176, 3), (176, 4), (176, 5), (176, 6), (177, 0), (177, 3), (177, 4)]
def A_X10_law_0 : List Nat := [8, 9, 10, 11, 12, 13, 17, 18, 19, 20, 21, 22, 24, 25, 26, 27, 28, 29, 31, 32, 33, 34, 35, 36, 38, 39, 40, 41, 42, 43, 45, 46, 47, 48, 49, 50, 52, 53, 54, 55, 56, 57, 66, 67, 68, 69, 70, 71, 75, 76, 77, 78, 79, 80, 82, 83, 84, 85, 86, 87, 89, 90, 91, 92, 93, 94, 96, 97, 98, 99, 100, 101, 103, 104, 105, 106, 107, 108, 110, 111, 112, 113, 114, 115, 123, 124, 125, 126, 127, 128, 132, 133, 134, 135, 136, 137, 139, 140, 141, 142, 143, 144, 146, 147, 148, 149, 150, 151, 153, 154, 155, 156, 157, 158, 160, 161, 162, 163, 164, 165, 167, 168, 169, 170, 171, 172, 178, 179, 180, 181, 182, 183, 230]
theorem mf_X5_read_176_1_6 : memF F_X5_read_176 1 6 = false := by decide
theorem mf_X4_become_law_174_1 : memF F_X4_become_law 174 1 = false := by decide
theorem mf_X0_lawAt_1_174_1 : memF F_X0_lawAt_1 174 1 = false := by decide
theorem mf_X4_become_law_176_2 : memF F_X4_become_law 176 2 = false := by decide
theorem mf_X0_lawAt_1_176_2 : memF F_X0_lawAt_1 176 2 = false := by decide
theorem mf_X10_refused_0_176_2 : memF F_X10_refused_0 176 2 = false := by decide
set_option maxRecDepth 100000 in
set_option maxHeartbeats 4000000 in
theorem T_X10_law_0 (d : Nat) {N : Nat} {g0 : List en_E} (hI0 : HI g0) (hB : BYX g0) : Ev (d + 423) 115 [.ref 0] (g0, N) (fun w h' => ∃ g', h' = (g', N) ∧ HI g' ∧ Fr F_X10_law_0 A_X10_law_0 g0 g' ∧ ∃ r : Int32, w = some (.int r) ∧ ((-6) ≤ r.toInt ∧ r.toInt ≤ 5) ∧ ((gI g' 174 1).toInt = 0 ∧ LWX g0 g' r.toInt ∧ LXG g0 g' r.toInt)) := by
  have hF0 : Fr F_X10_law_0 A_X10_law_0 g0 g0 := Fr.rf
  refine Ev.mk rfl rfl ⟨Nat.le_of_ble_eq_true rfl, Or.inr (q_rc hI0.1 kx_0 rfl)⟩ ?_
  show At _ none _ _ (0, [(0, .ref 0)], [], (_, _)) _
  refine At.enter rfl ?_
  refine r_aload_n rfl ?_
  refine q_getR (Sh.ref hI0.1 kx_0 rfl) ?_
  obtain ⟨v97, hv97⟩ : ∃ v, gI g0 1 6 = v := ⟨_, rfl⟩
  have rv97 := RgF.at hI0.2.1 (p := 1) (b := 6) rfl
  rw [hv97] at rv97
  dsimp only at rv97
  refine q_getI (Sh.int hI0.1 kx_1 rfl) v97 hv97 ?_
  refine r_bipush 6 rfl ?_
  refine r_ics 12 rfl (fun c98 => ?_) (fun c98 => ?_)
  · have c98_ : v97.toInt < 6 := en_i_lt_t c98
    refine At.enter rfl ?_
    refine r_aload_n rfl ?_
    refine q_getR (Sh.ref hI0.1 kx_0 rfl) ?_
    refine r_callV 34 rfl [.ref 176] [] (Nat.le_of_ble_eq_true rfl) rfl (T_X5_read_176 _ hI0 hB) ?_
    rintro _ _ ⟨g99, rfl, hI100, hF101, v102, rfl, hr103⟩
    refine At.sti ?_
    have hF104 := Fr.tr hF0 hF101 rfl rfl
    refine At.enter rfl ?_
    refine r_istore_n ([(1, .int v102), (0, .ref 0)]) rfl ?_
    refine r_aload_n rfl ?_
    refine q_getR (Sh.ref hI100.1 kx_0 rfl) ?_
    refine r_iconst 0 rfl ?_
    refine q_putI (Sh.int hI100.1 kx_174 rfl) rfl ?_
    have hI105 := HI.wI1 hI100 kx_174 rfl (p := 174) (b := 1) (v := 0) rfl (by decide)
    have hF106 := Fr.wI (p := 174) (b := 1) (v := 0) hF104 rfl
    refine r_iload_n rfl ?_
    refine r_ifs 47 rfl (fun c107 => ?_) (fun c107 => ?_)
    · have c107_ : v102.toInt ≠ 0 := en_k_ne_t c107
      refine At.enter rfl ?_
      refine r_aload_n rfl ?_
      refine r_aload_n rfl ?_
      refine q_getR (Sh.ref hI105.1 kx_0 rfl) ?_
      refine r_aload_n rfl ?_
      refine q_getR (Sh.ref hI105.1 kx_0 rfl) ?_
      refine q_getR (Sh.ref hI105.1 kx_176 rfl) ?_
      refine q_inlV 69 rfl [.ref 1, .ref 177] [.ref 0] (Nat.le_of_ble_eq_true rfl) rfl ?_
      refine Ev.mk rfl rfl ⟨Nat.le_of_ble_eq_true rfl, Or.inr (q_rc hI105.1 kx_1 rfl)⟩ ?_
      show At _ none _ _ (0, [(0, .ref 1), (1, .ref 177)], [], (_, _)) _
      refine At.enter rfl ?_
      refine r_aload_n rfl ?_
      refine q_getI (Sh.int hI105.1 kx_1 rfl) v97 (((gI_sI_ne (by decide)).trans (hF101.1 1 6 mf_X5_read_176_1_6)).trans hv97) ?_
      refine r_bipush 6 rfl ?_
      refine r_ics 9 rfl (fun c108 => ?_) (fun c108 => ?_)
      · have c108_ : v97.toInt < 6 := en_i_lt_t c108
        refine At.enter rfl ?_
        refine r_aload_n rfl ?_
        refine r_aload_n rfl ?_
        refine q_getI (Sh.int hI105.1 kx_1 rfl) v97 (((gI_sI_ne (by decide)).trans (hF101.1 1 6 mf_X5_read_176_1_6)).trans hv97) ?_
        refine r_callV 19 rfl [.ref 1, .int v97] [] (Nat.le_of_ble_eq_true rfl) rfl (T_X0_lawAt_1 _ hI105 v97) ?_
        rintro _ _ ⟨g109, rfl, hI110, hF111, v112, rfl, hr113⟩
        refine At.str ?_
        have ks116 := hr113.2.2
        have hr115 : _ ∧ _ := ⟨hr113.1, hr113.2.1⟩
        have hr115_ := hr115.1
        have hF114 := Fr.tr hF106 hF111 rfl rfl
        refine At.enter rfl ?_
        refine r_aload_n rfl ?_
        refine r_callV 23 rfl [.ref (v112), .ref 177] [] (Nat.le_of_ble_eq_true rfl) rfl (T_X4_become_law _ hI110 (v112) hr115_ 177 rfl) ?_
        rintro _ _ ⟨g117, rfl, hI118, hF119, rfl, hr121⟩
        refine At.stn ?_
        have hF122 := Fr.tr hF114 hF119 rfl rfl
        refine At.enter rfl ?_
        refine r_aload_n rfl ?_
        refine r_dup rfl ?_
        refine q_getI (Sh.int hI118.1 kx_1 rfl) v97 (((hF119.1 1 6 mf_X4_become_law_1_6).trans ((hF111.1 1 6 mf_X0_lawAt_1_1_6).trans ((gI_sI_ne (by decide)).trans (hF101.1 1 6 mf_X5_read_176_1_6)))).trans hv97) ?_
        refine r_iconst 1 rfl ?_
        refine q_iadd (v97.toInt + 1) rfl (by omega) (fun v123 hv123 => ?_)
        refine q_putI (Sh.int hI118.1 kx_1 rfl) rfl ?_
        have hI124 := HI.wI1 hI118 kx_1 rfl (p := 1) (b := 6) (v := v123) rfl (by dsimp only; omega)
        have hF125 := Fr.wI (p := 1) (b := 6) (v := v123) hF122 rfl
        refine r_aload_n rfl ?_
        refine q_getI (Sh.int hI124.1 kx_1 rfl) v123 (gI_sI_eq hI118.1 kx_1 rfl _) ?_
        refine r_iconst 1 rfl ?_
        refine q_isub (v123.toInt - 1) rfl (by omega) (fun v126 hv126 => ?_)
        refine q_ireti ?_
        refine At.enter rfl ?_
        refine q_inlV 72 rfl [.ref 0, .int v126] [] (Nat.le_of_ble_eq_true rfl) rfl ?_
        refine Ev.mk rfl rfl ⟨Nat.le_of_ble_eq_true rfl, Or.inr (q_rc hI124.1 kx_0 rfl)⟩ ?_
        show At _ none _ _ (0, [(0, .ref 0), (1, .int v126)], [], (_, _)) _
        refine At.enter rfl ?_
        refine r_aload_n rfl ?_
        refine r_iconst 0 rfl ?_
        refine q_putI (Sh.int hI124.1 kx_0 rfl) rfl ?_
        have hI127 := HI.wI0 hI124 kx_0 rfl (p := 0) (b := 17) (v := 0) rfl
        have hF128 := Fr.wI (p := 0) (b := 17) (v := 0) hF125 rfl
        refine r_iload_n rfl ?_
        refine q_ireti ?_
        refine At.enter rfl ?_
        refine r_ireti ?_
        have x129 := HI.eqI hI127 (p := 174) (b := 1) (((gI_sI_ne (by decide)).trans ((gI_sI_ne (by decide)).trans ((hF119.1 174 1 mf_X4_become_law_174_1).trans ((hF111.1 174 1 mf_X0_lawAt_1_174_1).trans (gI_sI_eq hI100.1 kx_174 rfl _))))))
        have zv130 : (0 : Int32).toInt = 0 := rfl
        have x131 := HI.eqI hI127 (p := 1) (b := 6) (((gI_sI_ne (by decide)).trans (gI_sI_eq hI118.1 kx_1 rfl _)))
        have x132 := HI.eqI hI0 (p := 1) (b := 6) (hv97)
        obtain ⟨v133, hv133⟩ : ∃ v, gI g99 176 2 = v := ⟨_, rfl⟩
        have tv133 := congrArg Int32.toInt hv133
        have x134 := HI.eqI hI127 (p := 176) (b := 2) ((((gI_sI_ne (by decide)).trans ((gI_sI_ne (by decide)).trans ((hF119.1 176 2 mf_X4_become_law_176_2).trans ((hF111.1 176 2 mf_X0_lawAt_1_176_2).trans (gI_sI_ne (by decide)))))).trans hv133))
        obtain ⟨v135, hv135⟩ : ∃ v, gI g0 176 2 = v := ⟨_, rfl⟩
        have tv135 := congrArg Int32.toInt hv135
        exact ⟨_, rfl, hI127, hF128, _, rfl, by omega, ⟨by omega, Or.inr ⟨show (gI g0 1 6).toInt < 6 from by omega, (RPX.rq hr103.2.1 (rfl) (rfl) (congrArg Int32.toInt (((gI_sI_ne (by decide)).trans ((gI_sI_ne (by decide)).trans ((hF119.1 176 2 mf_X4_become_law_176_2).trans ((hF111.1 176 2 mf_X0_lawAt_1_176_2).trans (gI_sI_ne (by decide)))))))) (fun z => by omega) (fun z => by omega)), Or.inr ⟨show _ = (gI g0 1 6).toInt from by omega, by omega, show (gI _ 1 6).toInt = (gI g0 1 6).toInt + 1 from by omega⟩⟩, (LXG_yes (RPG_c (by rw [show (1 : Int) = v102.toInt from by omega]; exact hr103.2.2.1) ((LSA_tr (LSA_tr LSA_rf (LSA_I rfl)) (LSA_fr hF111 rfl)) 177 rfl)) (SPK_l hr103.2.2.2 ((LSA_tr (LSA_tr LSA_rf (LSA_I rfl)) (LSA_fr hF111 rfl)) 177 rfl)) (LS7_tr (LS7_fr hF101 rfl) (LSA_tr (LSA_tr LSA_rf (LSA_I rfl)) (LSA_fr hF111 rfl))) hr121 (hr115.2.trans (LATX_B _)) (congrArg Int32.toInt hv97).symm ⟨by omega, by omega⟩ (LSA_tr (LSA_tr LSA_rf (LSA_I rfl)) (LSA_I rfl)) (by omega))⟩⟩
      · have c108_ : v97.toInt ≥ 6 := en_i_lt_f c108
        exfalso; omega
    · have c107_ : v102.toInt = 0 := en_k_ne_f c107
      refine At.enter rfl ?_
      refine r_aload_n rfl ?_
      refine r_bipush (-6) rfl ?_
      refine r_callV 53 rfl [.ref 0, .int (-6)] [] (Nat.le_of_ble_eq_true rfl) rfl (T_X10_refused_0 _ hI105 (-6) (by decide)) ?_
      rintro _ _ ⟨g137, rfl, hI138, hF139, v140, rfl, hr141⟩
      refine At.sti ?_
      have hF142 := Fr.tr hF106 hF139 rfl rfl
      have zv143 : ((-6) : Int32).toInt = (-6) := rfl
      refine At.enter rfl ?_
      refine r_ireti ?_
      have x144 := HI.eqI hI138 (p := 174) (b := 1) (((hF139.1 174 1 mf_X10_refused_0_174_1).trans (gI_sI_eq hI100.1 kx_174 rfl _)))
      have zv145 : (0 : Int32).toInt = 0 := rfl
      have x146 := HI.eqI hI138 (p := 1) (b := 6) ((((hF139.1 1 6 mf_X10_refused_0_1_6).trans ((gI_sI_ne (by decide)).trans (hF101.1 1 6 mf_X5_read_176_1_6))).trans hv97))
      have x147 := HI.eqI hI0 (p := 1) (b := 6) (hv97)
      obtain ⟨v148, hv148⟩ : ∃ v, gI g99 176 2 = v := ⟨_, rfl⟩
      have tv148 := congrArg Int32.toInt hv148
      have x149 := HI.eqI hI138 (p := 176) (b := 2) ((((hF139.1 176 2 mf_X10_refused_0_176_2).trans (gI_sI_ne (by decide))).trans hv148))
      obtain ⟨v150, hv150⟩ : ∃ v, gI g0 176 2 = v := ⟨_, rfl⟩
      have tv150 := congrArg Int32.toInt hv150
      exact ⟨_, rfl, hI138, hF142, _, rfl, by omega, ⟨by omega, Or.inr ⟨show (gI g0 1 6).toInt < 6 from by omega, (RPX.rq hr103.2.1 (rfl) (rfl) (congrArg Int32.toInt (((hF139.1 176 2 mf_X10_refused_0_176_2).trans (gI_sI_ne (by decide))))) (fun z => by omega) (fun z => by omega)), Or.inl ⟨by omega, (show (gI _ 1 6).toInt = (gI g0 1 6).toInt from by omega)⟩⟩, (LXG_no (LS7_tr (LS7_fr hF101 rfl) (LSA_tr (LSA_tr LSA_rf (LSA_I rfl)) (LSA_fr hF139 rfl))) (by omega))⟩⟩
  · have c98_ : v97.toInt ≥ 6 := en_i_lt_f c98
    refine At.enter rfl ?_
    refine r_aload_n rfl ?_
    refine q_getR (Sh.ref hI0.1 kx_0 rfl) ?_
    refine r_iconst 0 rfl ?_
    refine q_putI (Sh.int hI0.1 kx_174 rfl) rfl ?_
    have hI152 := HI.wI1 hI0 kx_174 rfl (p := 174) (b := 1) (v := 0) rfl (by decide)
    have hF153 := Fr.wI (p := 174) (b := 1) (v := 0) hF0 rfl
    refine r_aload_n rfl ?_
    refine r_bipush (-5) rfl ?_
    refine r_callV 26 rfl [.ref 0, .int (-5)] [] (Nat.le_of_ble_eq_true rfl) rfl (T_X10_refused_0 _ hI152 (-5) (by decide)) ?_
    rintro _ _ ⟨g154, rfl, hI155, hF156, v157, rfl, hr158⟩
    refine At.sti ?_
    have hF159 := Fr.tr hF153 hF156 rfl rfl
    have zv160 : ((-5) : Int32).toInt = (-5) := rfl
    refine At.enter rfl ?_
    refine r_ireti ?_
    have x161 := HI.eqI hI155 (p := 174) (b := 1) (((hF156.1 174 1 mf_X10_refused_0_174_1).trans (gI_sI_eq hI0.1 kx_174 rfl _)))
    have zv162 : (0 : Int32).toInt = 0 := rfl
    have x163 := HI.eqI hI155 (p := 1) (b := 6) ((((hF156.1 1 6 mf_X10_refused_0_1_6).trans (gI_sI_ne (by decide))).trans hv97))
    have x164 := HI.eqI hI0 (p := 1) (b := 6) (hv97)
    obtain ⟨v165, hv165⟩ : ∃ v, gI g0 176 2 = v := ⟨_, rfl⟩
    have tv165 := congrArg Int32.toInt hv165
    have x166 := HI.eqI hI155 (p := 176) (b := 2) ((((hF156.1 176 2 mf_X10_refused_0_176_2).trans (gI_sI_ne (by decide))).trans hv165))
    exact ⟨_, rfl, hI155, hF159, _, rfl, by omega, ⟨by omega, Or.inl ⟨show 6 ≤ (gI g0 1 6).toInt from by omega, by omega, show (gI _ 176 2).toInt = (gI g0 176 2).toInt from by omega, (show (gI _ 1 6).toInt = (gI g0 1 6).toInt from by omega)⟩, (LXG_no (fun o ho _ => (LSA_tr (LSA_tr LSA_rf (LSA_I rfl)) (LSA_fr hF156 rfl)) o ho) (by omega))⟩⟩
