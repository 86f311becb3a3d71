def F_X10_law_0 : List (Nat × Nat) := [(0, 17), (1, 6), (7, 0), (7, 3), (7, 4), (16, 0), (16, 3), (16, 4), (23, 0), (23, 3), (23, 4), (30, 0), (30, 3), (30, 4), (37, 0), (37, 3), (37, 4), (44, 0), (44, 3), (44, 4), (51, 0), (51, 3), (51, 4), (65, 0), (65, 3), (65, 4), (74, 0), (74, 3), (74, 4), (81, 0), (81, 3), (81, 4), (88, 0), (88, 3), (88, 4), (95, 0), (95, 3), (95, 4), (102, 0), (102, 3), (102, 4), (109, 0), (109, 3), (109, 4), (122, 0), (122, 3), (122, 4), (131, 0), (131, 3), (131, 4), (138, 0), (138, 3), (138, 4), (145, 0), (145, 3), (145, 4), (152, 0), (152, 3), (152, 4), (159, 0), (159, 3), (159, 4), (166, 0), (166, 3), (166, 4), (174, 1), (176, 2), (176, 3), (176, 4), (176, 5), (176, 6), (177, 0), (177, 3), (177, 4)]
def A_X10_law_0 : List Nat := [8, 9, 10, 11, 12, 13, 17, 18, 19, 20, 21, 22, 24, 25, 26, 27, 28, 29, 31, 32, 33, 34, 35, 36, 38, 39, 40, 41, 42, 43, 45, 46, 47, 48, 49, 50, 52, 53, 54, 55, 56, 57, 66, 67, 68, 69, 70, 71, 75, 76, 77, 78, 79, 80, 82, 83, 84, 85, 86, 87, 89, 90, 91, 92, 93, 94, 96, 97, 98, 99, 100, 101, 103, 104, 105, 106, 107, 108, 110, 111, 112, 113, 114, 115, 123, 124, 125, 126, 127, 128, 132, 133, 134, 135, 136, 137, 139, 140, 141, 142, 143, 144, 146, 147, 148, 149, 150, 151, 153, 154, 155, 156, 157, 158, 160, 161, 162, 163, 164, 165, 167, 168, 169, 170, 171, 172, 178, 179, 180, 181, 182, 183, 230]
theorem mf_X5_read_176_1_6 : memF F_X5_read_176 1 6 = false := by decide
theorem mf_X4_become_law_174_1 : memF F_X4_become_law 174 1 = false := by decide
theorem mf_X0_lawAt_1_174_1 : memF F_X0_lawAt_1 174 1 = false := by decide
theorem mf_X4_become_law_176_2 : memF F_X4_become_law 176 2 = false := by decide
theorem mf_X0_lawAt_1_176_2 : memF F_X0_lawAt_1 176 2 = false := by decide
theorem mf_X10_refused_0_176_2 : memF F_X10_refused_0 176 2 = false := by decide
set_option maxRecDepth 100000 in
set_option maxHeartbeats 4000000 in
theorem T_X10_law_0 (d : Nat) {N : Nat} {g0 : List en_E} (hI0 : HI g0) (hB : BYX g0) : Ev (d + 423) 115 [.ref 0] (g0, N) (fun w h' => ∃ g', h' = (g', N) ∧ HI g' ∧ Fr F_X10_law_0 A_X10_law_0 g0 g' ∧ ∃ r : Int32, w = some (.int r) ∧ ((-6) ≤ r.toInt ∧ r.toInt ≤ 5) ∧ ((gI g' 174 1).toInt = 0 ∧ LWX g0 g' r.toInt)) := by
  have hF0 : Fr F_X10_law_0 A_X10_law_0 g0 g0 := Fr.rf
  refine Ev.mk rfl rfl ⟨Nat.le_of_ble_eq_true rfl, Or.inr (q_rc hI0.1 kx_0 rfl)⟩ ?_
  show At _ none _ _ (0, [(0, .ref 0)], [], (_, _)) _
  refine At.enter rfl ?_
  refine r_aload_n rfl ?_
  refine q_getR (Sh.ref hI0.1 kx_0 rfl) ?_
  obtain ⟨v93, hv93⟩ : ∃ v, gI g0 1 6 = v := ⟨_, rfl⟩
  have rv93 := RgF.at hI0.2.1 (p := 1) (b := 6) rfl
  rw [hv93] at rv93
  dsimp only at rv93
  refine q_getI (Sh.int hI0.1 kx_1 rfl) v93 hv93 ?_
  refine r_bipush 6 rfl ?_
  refine r_ics 12 rfl (fun c94 => ?_) (fun c94 => ?_)
  · have c94_ : v93.toInt < 6 := en_i_lt_t c94
    refine At.enter rfl ?_
    refine r_aload_n rfl ?_
    refine q_getR (Sh.ref hI0.1 kx_0 rfl) ?_
    refine r_callV 34 rfl [.ref 176] [] (Nat.le_of_ble_eq_true rfl) rfl (T_X5_read_176 _ hI0 hB) ?_
    rintro _ _ ⟨g95, rfl, hI96, hF97, v98, rfl, hr99⟩
    refine At.sti ?_
    have hF100 := Fr.tr hF0 hF97 rfl rfl
    refine At.enter rfl ?_
    refine r_istore_n ([(1, .int v98), (0, .ref 0)]) rfl ?_
    refine r_aload_n rfl ?_
    refine q_getR (Sh.ref hI96.1 kx_0 rfl) ?_
    refine r_iconst 0 rfl ?_
    refine q_putI (Sh.int hI96.1 kx_174 rfl) rfl ?_
    have hI101 := HI.wI1 hI96 kx_174 rfl (p := 174) (b := 1) (v := 0) rfl (by decide)
    have hF102 := Fr.wI (p := 174) (b := 1) (v := 0) hF100 rfl
    refine r_iload_n rfl ?_
    refine r_ifs 47 rfl (fun c103 => ?_) (fun c103 => ?_)
    · have c103_ : v98.toInt ≠ 0 := en_k_ne_t c103
      refine At.enter rfl ?_
      refine r_aload_n rfl ?_
      refine r_aload_n rfl ?_
      refine q_getR (Sh.ref hI101.1 kx_0 rfl) ?_
      refine r_aload_n rfl ?_
      refine q_getR (Sh.ref hI101.1 kx_0 rfl) ?_
      refine q_getR (Sh.ref hI101.1 kx_176 rfl) ?_
      refine q_inlV 69 rfl [.ref 1, .ref 177] [.ref 0] (Nat.le_of_ble_eq_true rfl) rfl ?_
      refine Ev.mk rfl rfl ⟨Nat.le_of_ble_eq_true rfl, Or.inr (q_rc hI101.1 kx_1 rfl)⟩ ?_
      show At _ none _ _ (0, [(0, .ref 1), (1, .ref 177)], [], (_, _)) _
      refine At.enter rfl ?_
      refine r_aload_n rfl ?_
      refine q_getI (Sh.int hI101.1 kx_1 rfl) v93 (((gI_sI_ne (by decide)).trans (hF97.1 1 6 mf_X5_read_176_1_6)).trans hv93) ?_
      refine r_bipush 6 rfl ?_
      refine r_ics 9 rfl (fun c104 => ?_) (fun c104 => ?_)
      · have c104_ : v93.toInt < 6 := en_i_lt_t c104
        refine At.enter rfl ?_
        refine r_aload_n rfl ?_
        refine r_aload_n rfl ?_
        refine q_getI (Sh.int hI101.1 kx_1 rfl) v93 (((gI_sI_ne (by decide)).trans (hF97.1 1 6 mf_X5_read_176_1_6)).trans hv93) ?_
        refine r_callV 19 rfl [.ref 1, .int v93] [] (Nat.le_of_ble_eq_true rfl) rfl (T_X0_lawAt_1 _ hI101 v93) ?_
        rintro _ _ ⟨g105, rfl, hI106, hF107, v108, rfl, hr109⟩
        refine At.str ?_
        have hF110 := Fr.tr hF102 hF107 rfl rfl
        refine At.enter rfl ?_
        refine r_aload_n rfl ?_
        refine r_callV 23 rfl [.ref (v108), .ref 177] [] (Nat.le_of_ble_eq_true rfl) rfl (T_X4_become_law _ hI106 (v108) hr109 177 rfl) ?_
        rintro _ _ ⟨g111, rfl, hI112, hF113, rfl⟩
        refine At.stn ?_
        have hF116 := Fr.tr hF110 hF113 rfl rfl
        refine At.enter rfl ?_
        refine r_aload_n rfl ?_
        refine r_dup rfl ?_
        refine q_getI (Sh.int hI112.1 kx_1 rfl) v93 (((hF113.1 1 6 mf_X4_become_law_1_6).trans ((hF107.1 1 6 mf_X0_lawAt_1_1_6).trans ((gI_sI_ne (by decide)).trans (hF97.1 1 6 mf_X5_read_176_1_6)))).trans hv93) ?_
        refine r_iconst 1 rfl ?_
        refine q_iadd (v93.toInt + 1) rfl (by omega) (fun v117 hv117 => ?_)
        refine q_putI (Sh.int hI112.1 kx_1 rfl) rfl ?_
        have hI118 := HI.wI1 hI112 kx_1 rfl (p := 1) (b := 6) (v := v117) rfl (by dsimp only; omega)
        have hF119 := Fr.wI (p := 1) (b := 6) (v := v117) hF116 rfl
        refine r_aload_n rfl ?_
        refine q_getI (Sh.int hI118.1 kx_1 rfl) v117 (gI_sI_eq hI112.1 kx_1 rfl _) ?_
        refine r_iconst 1 rfl ?_
        refine q_isub (v117.toInt - 1) rfl (by omega) (fun v120 hv120 => ?_)
        refine q_ireti ?_
        refine At.enter rfl ?_
        refine q_inlV 72 rfl [.ref 0, .int v120] [] (Nat.le_of_ble_eq_true rfl) rfl ?_
        refine Ev.mk rfl rfl ⟨Nat.le_of_ble_eq_true rfl, Or.inr (q_rc hI118.1 kx_0 rfl)⟩ ?_
        show At _ none _ _ (0, [(0, .ref 0), (1, .int v120)], [], (_, _)) _
        refine At.enter rfl ?_
        refine r_aload_n rfl ?_
        refine r_iconst 0 rfl ?_
        refine q_putI (Sh.int hI118.1 kx_0 rfl) rfl ?_
        have hI121 := HI.wI0 hI118 kx_0 rfl (p := 0) (b := 17) (v := 0) rfl
        have hF122 := Fr.wI (p := 0) (b := 17) (v := 0) hF119 rfl
        refine r_iload_n rfl ?_
        refine q_ireti ?_
        refine At.enter rfl ?_
        refine r_ireti ?_
        have x123 := HI.eqI hI121 (p := 174) (b := 1) (((gI_sI_ne (by decide)).trans ((gI_sI_ne (by decide)).trans ((hF113.1 174 1 mf_X4_become_law_174_1).trans ((hF107.1 174 1 mf_X0_lawAt_1_174_1).trans (gI_sI_eq hI96.1 kx_174 rfl _))))))
        have zv124 : (0 : Int32).toInt = 0 := rfl
        have x125 := HI.eqI hI121 (p := 1) (b := 6) (((gI_sI_ne (by decide)).trans (gI_sI_eq hI112.1 kx_1 rfl _)))
        have x126 := HI.eqI hI0 (p := 1) (b := 6) (hv93)
        obtain ⟨v127, hv127⟩ : ∃ v, gI g95 176 2 = v := ⟨_, rfl⟩
        have tv127 := congrArg Int32.toInt hv127
        have x128 := HI.eqI hI121 (p := 176) (b := 2) ((((gI_sI_ne (by decide)).trans ((gI_sI_ne (by decide)).trans ((hF113.1 176 2 mf_X4_become_law_176_2).trans ((hF107.1 176 2 mf_X0_lawAt_1_176_2).trans (gI_sI_ne (by decide)))))).trans hv127))
        obtain ⟨v129, hv129⟩ : ∃ v, gI g0 176 2 = v := ⟨_, rfl⟩
        have tv129 := congrArg Int32.toInt hv129
        exact ⟨_, rfl, hI121, hF122, _, rfl, by omega, ⟨by omega, Or.inr ⟨show (gI g0 1 6).toInt < 6 from by omega, (RPX.rq hr99.2 (rfl) (rfl) (congrArg Int32.toInt (((gI_sI_ne (by decide)).trans ((gI_sI_ne (by decide)).trans ((hF113.1 176 2 mf_X4_become_law_176_2).trans ((hF107.1 176 2 mf_X0_lawAt_1_176_2).trans (gI_sI_ne (by decide)))))))) (fun z => by omega) (fun z => by omega)), Or.inr ⟨show _ = (gI g0 1 6).toInt from by omega, by omega, show (gI _ 1 6).toInt = (gI g0 1 6).toInt + 1 from by omega⟩⟩⟩⟩
      · have c104_ : v93.toInt ≥ 6 := en_i_lt_f c104
        exfalso; omega
    · have c103_ : v98.toInt = 0 := en_k_ne_f c103
      refine At.enter rfl ?_
      refine r_aload_n rfl ?_
      refine r_bipush (-6) rfl ?_
      refine r_callV 53 rfl [.ref 0, .int (-6)] [] (Nat.le_of_ble_eq_true rfl) rfl (T_X10_refused_0 _ hI101 (-6) (by decide)) ?_
      rintro _ _ ⟨g131, rfl, hI132, hF133, v134, rfl, hr135⟩
      refine At.sti ?_
      have hF136 := Fr.tr hF102 hF133 rfl rfl
      have zv137 : ((-6) : Int32).toInt = (-6) := rfl
      refine At.enter rfl ?_
      refine r_ireti ?_
      have x138 := HI.eqI hI132 (p := 174) (b := 1) (((hF133.1 174 1 mf_X10_refused_0_174_1).trans (gI_sI_eq hI96.1 kx_174 rfl _)))
      have zv139 : (0 : Int32).toInt = 0 := rfl
      have x140 := HI.eqI hI132 (p := 1) (b := 6) ((((hF133.1 1 6 mf_X10_refused_0_1_6).trans ((gI_sI_ne (by decide)).trans (hF97.1 1 6 mf_X5_read_176_1_6))).trans hv93))
      have x141 := HI.eqI hI0 (p := 1) (b := 6) (hv93)
      obtain ⟨v142, hv142⟩ : ∃ v, gI g95 176 2 = v := ⟨_, rfl⟩
      have tv142 := congrArg Int32.toInt hv142
      have x143 := HI.eqI hI132 (p := 176) (b := 2) ((((hF133.1 176 2 mf_X10_refused_0_176_2).trans (gI_sI_ne (by decide))).trans hv142))
      obtain ⟨v144, hv144⟩ : ∃ v, gI g0 176 2 = v := ⟨_, rfl⟩
      have tv144 := congrArg Int32.toInt hv144
      exact ⟨_, rfl, hI132, hF136, _, rfl, by omega, ⟨by omega, Or.inr ⟨show (gI g0 1 6).toInt < 6 from by omega, (RPX.rq hr99.2 (rfl) (rfl) (congrArg Int32.toInt (((hF133.1 176 2 mf_X10_refused_0_176_2).trans (gI_sI_ne (by decide))))) (fun z => by omega) (fun z => by omega)), Or.inl ⟨by omega, (show (gI _ 1 6).toInt = (gI g0 1 6).toInt from by omega)⟩⟩⟩⟩
  · have c94_ : v93.toInt ≥ 6 := en_i_lt_f c94
    refine At.enter rfl ?_
    refine r_aload_n rfl ?_
    refine q_getR (Sh.ref hI0.1 kx_0 rfl) ?_
    refine r_iconst 0 rfl ?_
    refine q_putI (Sh.int hI0.1 kx_174 rfl) rfl ?_
    have hI146 := HI.wI1 hI0 kx_174 rfl (p := 174) (b := 1) (v := 0) rfl (by decide)
    have hF147 := Fr.wI (p := 174) (b := 1) (v := 0) hF0 rfl
    refine r_aload_n rfl ?_
    refine r_bipush (-5) rfl ?_
    refine r_callV 26 rfl [.ref 0, .int (-5)] [] (Nat.le_of_ble_eq_true rfl) rfl (T_X10_refused_0 _ hI146 (-5) (by decide)) ?_
    rintro _ _ ⟨g148, rfl, hI149, hF150, v151, rfl, hr152⟩
    refine At.sti ?_
    have hF153 := Fr.tr hF147 hF150 rfl rfl
    have zv154 : ((-5) : Int32).toInt = (-5) := rfl
    refine At.enter rfl ?_
    refine r_ireti ?_
    have x155 := HI.eqI hI149 (p := 174) (b := 1) (((hF150.1 174 1 mf_X10_refused_0_174_1).trans (gI_sI_eq hI0.1 kx_174 rfl _)))
    have zv156 : (0 : Int32).toInt = 0 := rfl
    have x157 := HI.eqI hI149 (p := 1) (b := 6) ((((hF150.1 1 6 mf_X10_refused_0_1_6).trans (gI_sI_ne (by decide))).trans hv93))
    have x158 := HI.eqI hI0 (p := 1) (b := 6) (hv93)
    obtain ⟨v159, hv159⟩ : ∃ v, gI g0 176 2 = v := ⟨_, rfl⟩
    have tv159 := congrArg Int32.toInt hv159
    have x160 := HI.eqI hI149 (p := 176) (b := 2) ((((hF150.1 176 2 mf_X10_refused_0_176_2).trans (gI_sI_ne (by decide))).trans hv159))
    exact ⟨_, rfl, hI149, hF153, _, rfl, by omega, ⟨by omega, Or.inl ⟨show 6 ≤ (gI g0 1 6).toInt from by omega, by omega, show (gI _ 176 2).toInt = (gI g0 176 2).toInt from by omega, (show (gI _ 1 6).toInt = (gI g0 1 6).toInt from by omega)⟩⟩⟩
