def F_X11_image_231 : List (Nat × Nat) := [(231, 0), (231, 1)]
def A_X11_image_231 : List Nat := [232, 234, 235]
set_option maxRecDepth 100000 in
set_option maxHeartbeats 4000000 in
theorem T_X11_image_231 (d : Nat) {N : Nat} {g0 : List en_E} (hI0 : HI g0) (a1 : Int32) : Ev (d + 2) 165 [.ref 231, .int a1] (g0, N) (fun w h' => ∃ g', h' = (g', N) ∧ HI g' ∧ Fr F_X11_image_231 A_X11_image_231 g0 g' ∧ ∃ r : Int32, w = some (.int r) ∧ ((-1) ≤ r.toInt ∧ r.toInt ≤ 0) ∧ (((a1.toInt = 0 → (eA g' 235 0).toInt = 1 ∧ r.toInt = 0 ∧ (eA g' 234 0).toInt = (eA g0 233 0).toInt ∧ (eA g' 234 4).toInt = (eA g0 233 4).toInt ∧ (eA g' 234 5).toInt = (eA g0 233 5).toInt ∧ (eA g' 234 6).toInt = (eA g0 233 6).toInt ∧ (eA g' 234 1).toInt = (eA g0 233 1).toInt) ∧ (a1.toInt ≠ 0 → (eA g' 235 0).toInt = (eA g0 235 0).toInt ∧ (eA g' 234 0).toInt = (eA g0 234 0).toInt ∧ (eA g' 234 4).toInt = (eA g0 234 4).toInt ∧ (eA g' 234 5).toInt = (eA g0 234 5).toInt ∧ (eA g' 234 6).toInt = (eA g0 234 6).toInt ∧ (eA g' 234 1).toInt = (eA g0 234 1).toInt) ∧ (a1.toInt = 1 → (eA g' 235 1).toInt = 1 ∧ r.toInt = 0 ∧ (eA g' 234 5510).toInt = (eA g0 233 0).toInt ∧ (eA g' 234 5514).toInt = (eA g0 233 4).toInt ∧ (eA g' 234 5515).toInt = (eA g0 233 5).toInt ∧ (eA g' 234 5516).toInt = (eA g0 233 6).toInt ∧ (eA g' 234 5511).toInt = (eA g0 233 1).toInt) ∧ (a1.toInt ≠ 1 → (eA g' 235 1).toInt = (eA g0 235 1).toInt ∧ (eA g' 234 5510).toInt = (eA g0 234 5510).toInt ∧ (eA g' 234 5514).toInt = (eA g0 234 5514).toInt ∧ (eA g' 234 5515).toInt = (eA g0 234 5515).toInt ∧ (eA g' 234 5516).toInt = (eA g0 234 5516).toInt ∧ (eA g' 234 5511).toInt = (eA g0 234 5511).toInt) ∧ (a1.toInt < 0 ∨ 1 < a1.toInt → r.toInt = -1)) ∧ (∀ i : Int, 10 ≤ i → i < 110 → (eA g' 234 (i)).toInt = if a1.toInt = 0 then (eA g0 233 (i)).toInt else (eA g0 234 (i)).toInt) ∧ (∀ i : Int, 10 ≤ i → i < 110 → (eA g' 234 (5510 + i)).toInt = if a1.toInt = 1 then (eA g0 233 (i)).toInt else (eA g0 234 (5510 + i)).toInt))) := by
  have hF0 : Fr F_X11_image_231 A_X11_image_231 g0 g0 := Fr.rf
  refine Ev.mk rfl rfl ⟨Nat.le_of_ble_eq_true rfl, Or.inr (q_rc hI0.1 kx_231 rfl)⟩ ?_
  show At _ none _ _ (0, [(0, .ref 231), (1, .int a1)], [], (_, _)) _
  refine At.enter rfl ?_
  refine r_aload_n rfl ?_
  refine r_iconst 0 rfl ?_
  refine q_putI (Sh.int hI0.1 kx_231 rfl) rfl ?_
  have hI77 := HI.wI0 hI0 kx_231 rfl (p := 231) (b := 0) (v := 0) rfl
  have hF78 := Fr.wI (p := 231) (b := 0) (v := 0) hF0 rfl
  refine r_iload_n rfl ?_
  refine q_i2l (fun v79 hv79 => ?_)
  refine r_lconst 0 rfl ?_
  refine r_lconst 1 rfl ?_
  refine q_inlS 12 rfl [.long v79, .long 0, .long 1] [] (Nat.le_of_ble_eq_true rfl) rfl ?_
  refine Ev.mk rfl rfl ⟨Nat.le_of_ble_eq_true rfl, Or.inl rfl⟩ ?_
  show At _ none _ _ (0, [(0, .long v79), (2, .long 0), (4, .long 1)], [], (_, _)) _
  refine At.enter rfl ?_
  refine r_lload_n rfl ?_
  refine r_lload_n rfl ?_
  refine r_lcmp _ rfl ?_
  refine r_ifs 6 rfl (fun c80 => ?_) (fun c80 => ?_)
  · have c80_ : v79.toInt < 0 := en_j_lt_t c80
    refine At.enter rfl ?_
    refine r_iconst 0 rfl ?_
    refine Ar.fall 18 rfl ?_
    refine At.enter rfl ?_
    refine q_iretz (by decide) ?_
    refine At.enter rfl ?_
    refine r_iff 15 rfl (by decide) ?_
    refine At.enter rfl ?_
    refine r_aload_n rfl ?_
    refine r_iconst (-1) rfl ?_
    refine r_callV 20 rfl [.ref 231, .int (-1)] [] (Nat.le_of_ble_eq_true rfl) rfl (T_X11_tell_231 _ hI77 (-1) (by decide)) ?_
    rintro _ _ ⟨g81, rfl, hI82, hF83, v84, rfl, hr85⟩
    refine At.sti ?_
    have hF86 := Fr.tr hF78 hF83 rfl rfl
    have zv87 : ((-1) : Int32).toInt = (-1) := rfl
    refine At.enter rfl ?_
    refine r_ireti ?_
    obtain ⟨v88, hv88⟩ : ∃ v, eA g0 233 0 = v := ⟨_, rfl⟩
    have tv88 := congrArg Int32.toInt hv88
    have wv88 := HI.t0 hI0
    rw [hv88] at wv88
    have tv88 := congrArg Int32.toInt hv88
    have x89 := HI.eqA hI0 (p := 233) (j := 0) (hv88)
    obtain ⟨v90, hv90⟩ : ∃ v, eA g0 233 4 = v := ⟨_, rfl⟩
    have wv90 := HI.t4 hI0
    rw [hv90] at wv90
    have tv90 := congrArg Int32.toInt hv90
    have x91 := HI.eqA hI0 (p := 233) (j := 4) (hv90)
    obtain ⟨v92, hv92⟩ : ∃ v, eA g0 233 5 = v := ⟨_, rfl⟩
    have wv92 := HI.t5 hI0
    rw [hv92] at wv92
    have tv92 := congrArg Int32.toInt hv92
    have x93 := HI.eqA hI0 (p := 233) (j := 5) (hv92)
    obtain ⟨v94, hv94⟩ : ∃ v, eA g0 233 6 = v := ⟨_, rfl⟩
    have wv94 := HI.t6 hI0
    rw [hv94] at wv94
    have tv94 := congrArg Int32.toInt hv94
    have x95 := HI.eqA hI0 (p := 233) (j := 6) (hv94)
    obtain ⟨v96, hv96⟩ : ∃ v, eA g0 233 1 = v := ⟨_, rfl⟩
    have tv96 := congrArg Int32.toInt hv96
    have wv96 := HI.t1 hI0
    rw [hv96] at wv96
    have tv96 := congrArg Int32.toInt hv96
    have x97 := HI.eqA hI0 (p := 233) (j := 1) (hv96)
    obtain ⟨v98, hv98⟩ : ∃ v, eA g0 234 0 = v := ⟨_, rfl⟩
    have tv98 := congrArg Int32.toInt hv98
    have x99 := HI.eqA hI0 (p := 234) (j := 0) (hv98)
    obtain ⟨v100, hv100⟩ : ∃ v, eA g0 234 4 = v := ⟨_, rfl⟩
    have tv100 := congrArg Int32.toInt hv100
    have x101 := HI.eqA hI0 (p := 234) (j := 4) (hv100)
    obtain ⟨v102, hv102⟩ : ∃ v, eA g0 234 5 = v := ⟨_, rfl⟩
    have tv102 := congrArg Int32.toInt hv102
    have x103 := HI.eqA hI0 (p := 234) (j := 5) (hv102)
    obtain ⟨v104, hv104⟩ : ∃ v, eA g0 234 6 = v := ⟨_, rfl⟩
    have tv104 := congrArg Int32.toInt hv104
    have x105 := HI.eqA hI0 (p := 234) (j := 6) (hv104)
    obtain ⟨v106, hv106⟩ : ∃ v, eA g0 234 1 = v := ⟨_, rfl⟩
    have tv106 := congrArg Int32.toInt hv106
    have x107 := HI.eqA hI0 (p := 234) (j := 1) (hv106)
    obtain ⟨v108, hv108⟩ : ∃ v, eA g0 234 5510 = v := ⟨_, rfl⟩
    have tv108 := congrArg Int32.toInt hv108
    have x109 := HI.eqA hI0 (p := 234) (j := 5510) (hv108)
    obtain ⟨v110, hv110⟩ : ∃ v, eA g0 234 5514 = v := ⟨_, rfl⟩
    have tv110 := congrArg Int32.toInt hv110
    have x111 := HI.eqA hI0 (p := 234) (j := 5514) (hv110)
    obtain ⟨v112, hv112⟩ : ∃ v, eA g0 234 5515 = v := ⟨_, rfl⟩
    have tv112 := congrArg Int32.toInt hv112
    have x113 := HI.eqA hI0 (p := 234) (j := 5515) (hv112)
    obtain ⟨v114, hv114⟩ : ∃ v, eA g0 234 5516 = v := ⟨_, rfl⟩
    have tv114 := congrArg Int32.toInt hv114
    have x115 := HI.eqA hI0 (p := 234) (j := 5516) (hv114)
    obtain ⟨v116, hv116⟩ : ∃ v, eA g0 234 5511 = v := ⟨_, rfl⟩
    have tv116 := congrArg Int32.toInt hv116
    have x117 := HI.eqA hI0 (p := 234) (j := 5511) (hv116)
    obtain ⟨v118, hv118⟩ : ∃ v, eA g0 235 0 = v := ⟨_, rfl⟩
    have tv118 := congrArg Int32.toInt hv118
    have x119 := HI.eqA hI0 (p := 235) (j := 0) (hv118)
    obtain ⟨v120, hv120⟩ : ∃ v, eA g0 235 1 = v := ⟨_, rfl⟩
    have tv120 := congrArg Int32.toInt hv120
    have x121 := HI.eqA hI0 (p := 235) (j := 1) (hv120)
    have x122 := HI.eqA hI82 (p := 234) (j := 0) ((((eA_c (hF83.2.1 234 (by decide))).trans (eA_c gA_sI)).trans hv98))
    have x123 := HI.eqA hI82 (p := 234) (j := 4) ((((eA_c (hF83.2.1 234 (by decide))).trans (eA_c gA_sI)).trans hv100))
    have x124 := HI.eqA hI82 (p := 234) (j := 5) ((((eA_c (hF83.2.1 234 (by decide))).trans (eA_c gA_sI)).trans hv102))
    have x125 := HI.eqA hI82 (p := 234) (j := 6) ((((eA_c (hF83.2.1 234 (by decide))).trans (eA_c gA_sI)).trans hv104))
    have x126 := HI.eqA hI82 (p := 234) (j := 1) ((((eA_c (hF83.2.1 234 (by decide))).trans (eA_c gA_sI)).trans hv106))
    have x127 := HI.eqA hI82 (p := 234) (j := 5510) ((((eA_c (hF83.2.1 234 (by decide))).trans (eA_c gA_sI)).trans hv108))
    have x128 := HI.eqA hI82 (p := 234) (j := 5514) ((((eA_c (hF83.2.1 234 (by decide))).trans (eA_c gA_sI)).trans hv110))
    have x129 := HI.eqA hI82 (p := 234) (j := 5515) ((((eA_c (hF83.2.1 234 (by decide))).trans (eA_c gA_sI)).trans hv112))
    have x130 := HI.eqA hI82 (p := 234) (j := 5516) ((((eA_c (hF83.2.1 234 (by decide))).trans (eA_c gA_sI)).trans hv114))
    have x131 := HI.eqA hI82 (p := 234) (j := 5511) ((((eA_c (hF83.2.1 234 (by decide))).trans (eA_c gA_sI)).trans hv116))
    have x132 := HI.eqA hI82 (p := 235) (j := 0) ((((eA_c (hF83.2.1 235 (by decide))).trans (eA_c gA_sI)).trans hv118))
    have x133 := HI.eqA hI82 (p := 235) (j := 1) ((((eA_c (hF83.2.1 235 (by decide))).trans (eA_c gA_sI)).trans hv120))
    exact ⟨_, rfl, hI82, hF86, _, rfl, by omega, ⟨⟨by omega, by omega, by omega, by omega, by omega⟩, (by intro i i0 i1; refine Eq.trans ?_ (if_neg (show ¬ (a1.toInt = 0) from by omega)).symm; refine (eA_ti (((hF83.2.1 234 (by decide)).trans (gA_sI)))).trans ?_; (first | rfl | exact eA_ix (by omega) | omega)), (by intro i i0 i1; refine Eq.trans ?_ (if_neg (show ¬ (a1.toInt = 1) from by omega)).symm; refine (eA_ti (((hF83.2.1 234 (by decide)).trans (gA_sI)))).trans ?_; (first | rfl | exact eA_ix (by omega) | omega))⟩⟩
  · have c80_ : v79.toInt ≥ 0 := en_j_lt_f c80
    refine At.enter rfl ?_
    refine r_lload_n rfl ?_
    refine r_lload rfl ?_
    refine r_lcmp _ rfl ?_
    refine r_ifs 13 rfl (fun c134 => ?_) (fun c134 => ?_)
    · have c134_ : v79.toInt > 1 := en_j_gt_t c134
      refine At.enter rfl ?_
      refine r_iconst 0 rfl ?_
      refine Ar.fall 18 rfl ?_
      refine At.enter rfl ?_
      refine q_iretz (by decide) ?_
      refine At.enter rfl ?_
      refine r_iff 15 rfl (by decide) ?_
      refine At.enter rfl ?_
      refine r_aload_n rfl ?_
      refine r_iconst (-1) rfl ?_
      refine r_callV 20 rfl [.ref 231, .int (-1)] [] (Nat.le_of_ble_eq_true rfl) rfl (T_X11_tell_231 _ hI77 (-1) (by decide)) ?_
      rintro _ _ ⟨g135, rfl, hI136, hF137, v138, rfl, hr139⟩
      refine At.sti ?_
      have hF140 := Fr.tr hF78 hF137 rfl rfl
      have zv141 : ((-1) : Int32).toInt = (-1) := rfl
      refine At.enter rfl ?_
      refine r_ireti ?_
      obtain ⟨v142, hv142⟩ : ∃ v, eA g0 233 0 = v := ⟨_, rfl⟩
      have tv142 := congrArg Int32.toInt hv142
      have wv142 := HI.t0 hI0
      rw [hv142] at wv142
      have tv142 := congrArg Int32.toInt hv142
      have x143 := HI.eqA hI0 (p := 233) (j := 0) (hv142)
      obtain ⟨v144, hv144⟩ : ∃ v, eA g0 233 4 = v := ⟨_, rfl⟩
      have wv144 := HI.t4 hI0
      rw [hv144] at wv144
      have tv144 := congrArg Int32.toInt hv144
      have x145 := HI.eqA hI0 (p := 233) (j := 4) (hv144)
      obtain ⟨v146, hv146⟩ : ∃ v, eA g0 233 5 = v := ⟨_, rfl⟩
      have wv146 := HI.t5 hI0
      rw [hv146] at wv146
      have tv146 := congrArg Int32.toInt hv146
      have x147 := HI.eqA hI0 (p := 233) (j := 5) (hv146)
      obtain ⟨v148, hv148⟩ : ∃ v, eA g0 233 6 = v := ⟨_, rfl⟩
      have wv148 := HI.t6 hI0
      rw [hv148] at wv148
      have tv148 := congrArg Int32.toInt hv148
      have x149 := HI.eqA hI0 (p := 233) (j := 6) (hv148)
      obtain ⟨v150, hv150⟩ : ∃ v, eA g0 233 1 = v := ⟨_, rfl⟩
      have tv150 := congrArg Int32.toInt hv150
      have wv150 := HI.t1 hI0
      rw [hv150] at wv150
      have tv150 := congrArg Int32.toInt hv150
      have x151 := HI.eqA hI0 (p := 233) (j := 1) (hv150)
      obtain ⟨v152, hv152⟩ : ∃ v, eA g0 234 0 = v := ⟨_, rfl⟩
      have tv152 := congrArg Int32.toInt hv152
      have x153 := HI.eqA hI0 (p := 234) (j := 0) (hv152)
      obtain ⟨v154, hv154⟩ : ∃ v, eA g0 234 4 = v := ⟨_, rfl⟩
      have tv154 := congrArg Int32.toInt hv154
      have x155 := HI.eqA hI0 (p := 234) (j := 4) (hv154)
      obtain ⟨v156, hv156⟩ : ∃ v, eA g0 234 5 = v := ⟨_, rfl⟩
      have tv156 := congrArg Int32.toInt hv156
      have x157 := HI.eqA hI0 (p := 234) (j := 5) (hv156)
      obtain ⟨v158, hv158⟩ : ∃ v, eA g0 234 6 = v := ⟨_, rfl⟩
      have tv158 := congrArg Int32.toInt hv158
      have x159 := HI.eqA hI0 (p := 234) (j := 6) (hv158)
      obtain ⟨v160, hv160⟩ : ∃ v, eA g0 234 1 = v := ⟨_, rfl⟩
      have tv160 := congrArg Int32.toInt hv160
      have x161 := HI.eqA hI0 (p := 234) (j := 1) (hv160)
      obtain ⟨v162, hv162⟩ : ∃ v, eA g0 234 5510 = v := ⟨_, rfl⟩
      have tv162 := congrArg Int32.toInt hv162
      have x163 := HI.eqA hI0 (p := 234) (j := 5510) (hv162)
      obtain ⟨v164, hv164⟩ : ∃ v, eA g0 234 5514 = v := ⟨_, rfl⟩
      have tv164 := congrArg Int32.toInt hv164
      have x165 := HI.eqA hI0 (p := 234) (j := 5514) (hv164)
      obtain ⟨v166, hv166⟩ : ∃ v, eA g0 234 5515 = v := ⟨_, rfl⟩
      have tv166 := congrArg Int32.toInt hv166
      have x167 := HI.eqA hI0 (p := 234) (j := 5515) (hv166)
      obtain ⟨v168, hv168⟩ : ∃ v, eA g0 234 5516 = v := ⟨_, rfl⟩
      have tv168 := congrArg Int32.toInt hv168
      have x169 := HI.eqA hI0 (p := 234) (j := 5516) (hv168)
      obtain ⟨v170, hv170⟩ : ∃ v, eA g0 234 5511 = v := ⟨_, rfl⟩
      have tv170 := congrArg Int32.toInt hv170
      have x171 := HI.eqA hI0 (p := 234) (j := 5511) (hv170)
      obtain ⟨v172, hv172⟩ : ∃ v, eA g0 235 0 = v := ⟨_, rfl⟩
      have tv172 := congrArg Int32.toInt hv172
      have x173 := HI.eqA hI0 (p := 235) (j := 0) (hv172)
      obtain ⟨v174, hv174⟩ : ∃ v, eA g0 235 1 = v := ⟨_, rfl⟩
      have tv174 := congrArg Int32.toInt hv174
      have x175 := HI.eqA hI0 (p := 235) (j := 1) (hv174)
      have x176 := HI.eqA hI136 (p := 234) (j := 0) ((((eA_c (hF137.2.1 234 (by decide))).trans (eA_c gA_sI)).trans hv152))
      have x177 := HI.eqA hI136 (p := 234) (j := 4) ((((eA_c (hF137.2.1 234 (by decide))).trans (eA_c gA_sI)).trans hv154))
      have x178 := HI.eqA hI136 (p := 234) (j := 5) ((((eA_c (hF137.2.1 234 (by decide))).trans (eA_c gA_sI)).trans hv156))
      have x179 := HI.eqA hI136 (p := 234) (j := 6) ((((eA_c (hF137.2.1 234 (by decide))).trans (eA_c gA_sI)).trans hv158))
      have x180 := HI.eqA hI136 (p := 234) (j := 1) ((((eA_c (hF137.2.1 234 (by decide))).trans (eA_c gA_sI)).trans hv160))
      have x181 := HI.eqA hI136 (p := 234) (j := 5510) ((((eA_c (hF137.2.1 234 (by decide))).trans (eA_c gA_sI)).trans hv162))
      have x182 := HI.eqA hI136 (p := 234) (j := 5514) ((((eA_c (hF137.2.1 234 (by decide))).trans (eA_c gA_sI)).trans hv164))
      have x183 := HI.eqA hI136 (p := 234) (j := 5515) ((((eA_c (hF137.2.1 234 (by decide))).trans (eA_c gA_sI)).trans hv166))
      have x184 := HI.eqA hI136 (p := 234) (j := 5516) ((((eA_c (hF137.2.1 234 (by decide))).trans (eA_c gA_sI)).trans hv168))
      have x185 := HI.eqA hI136 (p := 234) (j := 5511) ((((eA_c (hF137.2.1 234 (by decide))).trans (eA_c gA_sI)).trans hv170))
      have x186 := HI.eqA hI136 (p := 235) (j := 0) ((((eA_c (hF137.2.1 235 (by decide))).trans (eA_c gA_sI)).trans hv172))
      have x187 := HI.eqA hI136 (p := 235) (j := 1) ((((eA_c (hF137.2.1 235 (by decide))).trans (eA_c gA_sI)).trans hv174))
      exact ⟨_, rfl, hI136, hF140, _, rfl, by omega, ⟨⟨by omega, by omega, by omega, by omega, by omega⟩, (by intro i i0 i1; refine Eq.trans ?_ (if_neg (show ¬ (a1.toInt = 0) from by omega)).symm; refine (eA_ti (((hF137.2.1 234 (by decide)).trans (gA_sI)))).trans ?_; (first | rfl | exact eA_ix (by omega) | omega)), (by intro i i0 i1; refine Eq.trans ?_ (if_neg (show ¬ (a1.toInt = 1) from by omega)).symm; refine (eA_ti (((hF137.2.1 234 (by decide)).trans (gA_sI)))).trans ?_; (first | rfl | exact eA_ix (by omega) | omega))⟩⟩
    · have c134_ : v79.toInt ≤ 1 := en_j_gt_f c134
      refine At.enter rfl ?_
      refine r_iconst 1 rfl ?_
      refine r_goto ?_
      refine At.enter rfl ?_
      refine q_iretz (by decide) ?_
      refine At.enter rfl ?_
      refine r_ift (by decide) ?_
      refine At.enter rfl ?_
      refine r_iconst 0 rfl ?_
      refine r_istore_n ([(2, .int 0), (0, .ref 231), (1, .int a1)]) rfl ?_
      refine Ar.fall 23 rfl ?_
      refine zi_loopG hI77 ⟨by omega, by omega⟩ rfl rfl rfl (fun ys188 l189 hI195 hW196 hl190 hc191 hf192 e193 e194 => ?_)
      have hF197 := Fr.tr hF78 hl190 rfl rfl
      refine At.enter rfl ?_
      refine r_aload_n e193 ?_
      refine q_getR (Sh.ref hI195.1 kx_231 rfl) ?_
      refine r_iload_n e194 ?_
      refine r_iconst 1 rfl ?_
      refine q_bast (Sh.arr hI195.1 ka_235) (a1.toInt) rfl (by omega) rfl ?_
      have hI198 := HI.kept hI195 (k := a1.toInt) (v := 1) ⟨by omega, by omega⟩ hW196
      have hF199 := Fr.wA (p := 235) (j := a1.toInt) (v := 1) hF197 rfl
      refine r_aload_n e193 ?_
      refine r_iconst 0 rfl ?_
      refine r_callV 66 rfl [.ref 231, .int 0] [] (Nat.le_of_ble_eq_true rfl) rfl (T_X11_tell_231 _ hI198 0 (by decide)) ?_
      rintro _ _ ⟨g200, rfl, hI201, hF202, v203, rfl, hr204⟩
      refine At.sti ?_
      have hF205 := Fr.tr hF199 hF202 rfl rfl
      have zv206 : (0 : Int32).toInt = 0 := rfl
      refine At.enter rfl ?_
      refine r_ireti ?_
      obtain ⟨v207, hv207⟩ : ∃ v, eA g0 233 0 = v := ⟨_, rfl⟩
      have tv207 := congrArg Int32.toInt hv207
      have wv207 := HI.t0 hI0
      rw [hv207] at wv207
      have tv207 := congrArg Int32.toInt hv207
      have x208 := HI.eqA hI0 (p := 233) (j := 0) (hv207)
      obtain ⟨v209, hv209⟩ : ∃ v, eA g0 233 4 = v := ⟨_, rfl⟩
      have wv209 := HI.t4 hI0
      rw [hv209] at wv209
      have tv209 := congrArg Int32.toInt hv209
      have x210 := HI.eqA hI0 (p := 233) (j := 4) (hv209)
      obtain ⟨v211, hv211⟩ : ∃ v, eA g0 233 5 = v := ⟨_, rfl⟩
      have wv211 := HI.t5 hI0
      rw [hv211] at wv211
      have tv211 := congrArg Int32.toInt hv211
      have x212 := HI.eqA hI0 (p := 233) (j := 5) (hv211)
      obtain ⟨v213, hv213⟩ : ∃ v, eA g0 233 6 = v := ⟨_, rfl⟩
      have wv213 := HI.t6 hI0
      rw [hv213] at wv213
      have tv213 := congrArg Int32.toInt hv213
      have x214 := HI.eqA hI0 (p := 233) (j := 6) (hv213)
      obtain ⟨v215, hv215⟩ : ∃ v, eA g0 233 1 = v := ⟨_, rfl⟩
      have tv215 := congrArg Int32.toInt hv215
      have wv215 := HI.t1 hI0
      rw [hv215] at wv215
      have tv215 := congrArg Int32.toInt hv215
      have x216 := HI.eqA hI0 (p := 233) (j := 1) (hv215)
      obtain ⟨v217, hv217⟩ : ∃ v, eA g0 234 0 = v := ⟨_, rfl⟩
      have tv217 := congrArg Int32.toInt hv217
      have x218 := HI.eqA hI0 (p := 234) (j := 0) (hv217)
      obtain ⟨v219, hv219⟩ : ∃ v, eA g0 234 4 = v := ⟨_, rfl⟩
      have tv219 := congrArg Int32.toInt hv219
      have x220 := HI.eqA hI0 (p := 234) (j := 4) (hv219)
      obtain ⟨v221, hv221⟩ : ∃ v, eA g0 234 5 = v := ⟨_, rfl⟩
      have tv221 := congrArg Int32.toInt hv221
      have x222 := HI.eqA hI0 (p := 234) (j := 5) (hv221)
      obtain ⟨v223, hv223⟩ : ∃ v, eA g0 234 6 = v := ⟨_, rfl⟩
      have tv223 := congrArg Int32.toInt hv223
      have x224 := HI.eqA hI0 (p := 234) (j := 6) (hv223)
      obtain ⟨v225, hv225⟩ : ∃ v, eA g0 234 1 = v := ⟨_, rfl⟩
      have tv225 := congrArg Int32.toInt hv225
      have x226 := HI.eqA hI0 (p := 234) (j := 1) (hv225)
      obtain ⟨v227, hv227⟩ : ∃ v, eA g0 234 5510 = v := ⟨_, rfl⟩
      have tv227 := congrArg Int32.toInt hv227
      have x228 := HI.eqA hI0 (p := 234) (j := 5510) (hv227)
      obtain ⟨v229, hv229⟩ : ∃ v, eA g0 234 5514 = v := ⟨_, rfl⟩
      have tv229 := congrArg Int32.toInt hv229
      have x230 := HI.eqA hI0 (p := 234) (j := 5514) (hv229)
      obtain ⟨v231, hv231⟩ : ∃ v, eA g0 234 5515 = v := ⟨_, rfl⟩
      have tv231 := congrArg Int32.toInt hv231
      have x232 := HI.eqA hI0 (p := 234) (j := 5515) (hv231)
      obtain ⟨v233, hv233⟩ : ∃ v, eA g0 234 5516 = v := ⟨_, rfl⟩
      have tv233 := congrArg Int32.toInt hv233
      have x234 := HI.eqA hI0 (p := 234) (j := 5516) (hv233)
      obtain ⟨v235, hv235⟩ : ∃ v, eA g0 234 5511 = v := ⟨_, rfl⟩
      have tv235 := congrArg Int32.toInt hv235
      have x236 := HI.eqA hI0 (p := 234) (j := 5511) (hv235)
      obtain ⟨v237, hv237⟩ : ∃ v, eA g0 235 0 = v := ⟨_, rfl⟩
      have tv237 := congrArg Int32.toInt hv237
      have x238 := HI.eqA hI0 (p := 235) (j := 0) (hv237)
      obtain ⟨v239, hv239⟩ : ∃ v, eA g0 235 1 = v := ⟨_, rfl⟩
      have tv239 := congrArg Int32.toInt hv239
      have x240 := HI.eqA hI0 (p := 235) (j := 1) (hv239)
      obtain ⟨v241, hv241⟩ : ∃ v, eA ys188 234 0 = v := ⟨_, rfl⟩
      have tv241 := congrArg Int32.toInt hv241
      obtain ⟨v242, hv242⟩ : ∃ v, eA ys188 234 4 = v := ⟨_, rfl⟩
      have tv242 := congrArg Int32.toInt hv242
      obtain ⟨v243, hv243⟩ : ∃ v, eA ys188 234 5 = v := ⟨_, rfl⟩
      have tv243 := congrArg Int32.toInt hv243
      obtain ⟨v244, hv244⟩ : ∃ v, eA ys188 234 6 = v := ⟨_, rfl⟩
      have tv244 := congrArg Int32.toInt hv244
      obtain ⟨v245, hv245⟩ : ∃ v, eA ys188 234 1 = v := ⟨_, rfl⟩
      have tv245 := congrArg Int32.toInt hv245
      obtain ⟨v246, hv246⟩ : ∃ v, eA ys188 234 5510 = v := ⟨_, rfl⟩
      have tv246 := congrArg Int32.toInt hv246
      obtain ⟨v247, hv247⟩ : ∃ v, eA ys188 234 5514 = v := ⟨_, rfl⟩
      have tv247 := congrArg Int32.toInt hv247
      obtain ⟨v248, hv248⟩ : ∃ v, eA ys188 234 5515 = v := ⟨_, rfl⟩
      have tv248 := congrArg Int32.toInt hv248
      obtain ⟨v249, hv249⟩ : ∃ v, eA ys188 234 5516 = v := ⟨_, rfl⟩
      have tv249 := congrArg Int32.toInt hv249
      obtain ⟨v250, hv250⟩ : ∃ v, eA ys188 234 5511 = v := ⟨_, rfl⟩
      have tv250 := congrArg Int32.toInt hv250
      have zv251 : (1 : Int32).toInt = 1 := rfl
      have zv252 : (1 : Int32).toInt = 1 := rfl
      exact ⟨_, rfl, hI201, hF205, _, rfl, by omega, ⟨⟨(fun e => by have z0 := HI.eqA hI201 (p := 234) (j := 0) ((((eA_c (hF202.2.1 234 (by decide))).trans (eA_c (gA_sA_ne (by decide)))).trans hv241)); have z1 := HI.eqA hI201 (p := 234) (j := 4) ((((eA_c (hF202.2.1 234 (by decide))).trans (eA_c (gA_sA_ne (by decide)))).trans hv242)); have z2 := HI.eqA hI201 (p := 234) (j := 5) ((((eA_c (hF202.2.1 234 (by decide))).trans (eA_c (gA_sA_ne (by decide)))).trans hv243)); have z3 := HI.eqA hI201 (p := 234) (j := 6) ((((eA_c (hF202.2.1 234 (by decide))).trans (eA_c (gA_sA_ne (by decide)))).trans hv244)); have z4 := HI.eqA hI201 (p := 234) (j := 1) ((((eA_c (hF202.2.1 234 (by decide))).trans (eA_c (gA_sA_ne (by decide)))).trans hv245)); have z5 := HI.eqA hI201 (p := 234) (j := 5510) ((((eA_c (hF202.2.1 234 (by decide))).trans (eA_c (gA_sA_ne (by decide)))).trans hv246)); have z6 := HI.eqA hI201 (p := 234) (j := 5514) ((((eA_c (hF202.2.1 234 (by decide))).trans (eA_c (gA_sA_ne (by decide)))).trans hv247)); have z7 := HI.eqA hI201 (p := 234) (j := 5515) ((((eA_c (hF202.2.1 234 (by decide))).trans (eA_c (gA_sA_ne (by decide)))).trans hv248)); have z8 := HI.eqA hI201 (p := 234) (j := 5516) ((((eA_c (hF202.2.1 234 (by decide))).trans (eA_c (gA_sA_ne (by decide)))).trans hv249)); have z9 := HI.eqA hI201 (p := 234) (j := 5511) ((((eA_c (hF202.2.1 234 (by decide))).trans (eA_c (gA_sA_ne (by decide)))).trans hv250)); have z10 := HI.eqA hI201 (p := 235) (j := 0) (((eA_c (hF202.2.1 235 (by decide))).trans (eA_sA_eq hI195.1 ka_235 (by omega) (by first | decide | omega) (by first | decide | omega)))); have z11 := HI.eqA hI201 (p := 235) (j := 1) ((((eA_c (hF202.2.1 235 (by decide))).trans ((eA_sA_ne hI195.1 ka_235 (by first | decide | omega) (by first | decide | omega) (by first | decide | omega)).trans ((eA_c (hl190.2.1 235 (by decide))).trans (eA_c gA_sI)))).trans hv239)); have z12 := (show (eA ys188 234 0).toInt = (eA g0 233 0).toInt from by have z := hc191 0 (by decide) (by decide); rw [show 5510 * a1.toInt + 0 = 0 by omega, eA_c (gA_sI)] at z; exact congrArg Int32.toInt z); have z13 := (show (eA ys188 234 5510).toInt = (eA g0 234 5510).toInt from by have z := hf192 5510 (by decide) (by omega); rw [eA_c (gA_sI)] at z; exact congrArg Int32.toInt z); have z14 := (show (eA ys188 234 4).toInt = (eA g0 233 4).toInt from by have z := hc191 4 (by decide) (by decide); rw [show 5510 * a1.toInt + 4 = 4 by omega, eA_c (gA_sI)] at z; exact congrArg Int32.toInt z); have z15 := (show (eA ys188 234 5514).toInt = (eA g0 234 5514).toInt from by have z := hf192 5514 (by decide) (by omega); rw [eA_c (gA_sI)] at z; exact congrArg Int32.toInt z); have z16 := (show (eA ys188 234 5).toInt = (eA g0 233 5).toInt from by have z := hc191 5 (by decide) (by decide); rw [show 5510 * a1.toInt + 5 = 5 by omega, eA_c (gA_sI)] at z; exact congrArg Int32.toInt z); have z17 := (show (eA ys188 234 5515).toInt = (eA g0 234 5515).toInt from by have z := hf192 5515 (by decide) (by omega); rw [eA_c (gA_sI)] at z; exact congrArg Int32.toInt z); have z18 := (show (eA ys188 234 6).toInt = (eA g0 233 6).toInt from by have z := hc191 6 (by decide) (by decide); rw [show 5510 * a1.toInt + 6 = 6 by omega, eA_c (gA_sI)] at z; exact congrArg Int32.toInt z); have z19 := (show (eA ys188 234 5516).toInt = (eA g0 234 5516).toInt from by have z := hf192 5516 (by decide) (by omega); rw [eA_c (gA_sI)] at z; exact congrArg Int32.toInt z); have z20 := (show (eA ys188 234 1).toInt = (eA g0 233 1).toInt from by have z := hc191 1 (by decide) (by decide); rw [show 5510 * a1.toInt + 1 = 1 by omega, eA_c (gA_sI)] at z; exact congrArg Int32.toInt z); have z21 := (show (eA ys188 234 5511).toInt = (eA g0 234 5511).toInt from by have z := hf192 5511 (by decide) (by omega); rw [eA_c (gA_sI)] at z; exact congrArg Int32.toInt z); omega), (fun e_ => by have e : a1.toInt = 1 := (by omega); have z0 := HI.eqA hI201 (p := 234) (j := 0) ((((eA_c (hF202.2.1 234 (by decide))).trans (eA_c (gA_sA_ne (by decide)))).trans hv241)); have z1 := HI.eqA hI201 (p := 234) (j := 4) ((((eA_c (hF202.2.1 234 (by decide))).trans (eA_c (gA_sA_ne (by decide)))).trans hv242)); have z2 := HI.eqA hI201 (p := 234) (j := 5) ((((eA_c (hF202.2.1 234 (by decide))).trans (eA_c (gA_sA_ne (by decide)))).trans hv243)); have z3 := HI.eqA hI201 (p := 234) (j := 6) ((((eA_c (hF202.2.1 234 (by decide))).trans (eA_c (gA_sA_ne (by decide)))).trans hv244)); have z4 := HI.eqA hI201 (p := 234) (j := 1) ((((eA_c (hF202.2.1 234 (by decide))).trans (eA_c (gA_sA_ne (by decide)))).trans hv245)); have z5 := HI.eqA hI201 (p := 234) (j := 5510) ((((eA_c (hF202.2.1 234 (by decide))).trans (eA_c (gA_sA_ne (by decide)))).trans hv246)); have z6 := HI.eqA hI201 (p := 234) (j := 5514) ((((eA_c (hF202.2.1 234 (by decide))).trans (eA_c (gA_sA_ne (by decide)))).trans hv247)); have z7 := HI.eqA hI201 (p := 234) (j := 5515) ((((eA_c (hF202.2.1 234 (by decide))).trans (eA_c (gA_sA_ne (by decide)))).trans hv248)); have z8 := HI.eqA hI201 (p := 234) (j := 5516) ((((eA_c (hF202.2.1 234 (by decide))).trans (eA_c (gA_sA_ne (by decide)))).trans hv249)); have z9 := HI.eqA hI201 (p := 234) (j := 5511) ((((eA_c (hF202.2.1 234 (by decide))).trans (eA_c (gA_sA_ne (by decide)))).trans hv250)); have z10 := HI.eqA hI201 (p := 235) (j := 0) ((((eA_c (hF202.2.1 235 (by decide))).trans ((eA_sA_ne hI195.1 ka_235 (by first | decide | omega) (by first | decide | omega) (by first | decide | omega)).trans ((eA_c (hl190.2.1 235 (by decide))).trans (eA_c gA_sI)))).trans hv237)); have z11 := HI.eqA hI201 (p := 235) (j := 1) (((eA_c (hF202.2.1 235 (by decide))).trans (eA_sA_eq hI195.1 ka_235 (by omega) (by first | decide | omega) (by first | decide | omega)))); have z12 := (show (eA ys188 234 5510).toInt = (eA g0 233 0).toInt from by have z := hc191 0 (by decide) (by decide); rw [show 5510 * a1.toInt + 0 = 5510 by omega, eA_c (gA_sI)] at z; exact congrArg Int32.toInt z); have z13 := (show (eA ys188 234 0).toInt = (eA g0 234 0).toInt from by have z := hf192 0 (by decide) (by omega); rw [eA_c (gA_sI)] at z; exact congrArg Int32.toInt z); have z14 := (show (eA ys188 234 5514).toInt = (eA g0 233 4).toInt from by have z := hc191 4 (by decide) (by decide); rw [show 5510 * a1.toInt + 4 = 5514 by omega, eA_c (gA_sI)] at z; exact congrArg Int32.toInt z); have z15 := (show (eA ys188 234 4).toInt = (eA g0 234 4).toInt from by have z := hf192 4 (by decide) (by omega); rw [eA_c (gA_sI)] at z; exact congrArg Int32.toInt z); have z16 := (show (eA ys188 234 5515).toInt = (eA g0 233 5).toInt from by have z := hc191 5 (by decide) (by decide); rw [show 5510 * a1.toInt + 5 = 5515 by omega, eA_c (gA_sI)] at z; exact congrArg Int32.toInt z); have z17 := (show (eA ys188 234 5).toInt = (eA g0 234 5).toInt from by have z := hf192 5 (by decide) (by omega); rw [eA_c (gA_sI)] at z; exact congrArg Int32.toInt z); have z18 := (show (eA ys188 234 5516).toInt = (eA g0 233 6).toInt from by have z := hc191 6 (by decide) (by decide); rw [show 5510 * a1.toInt + 6 = 5516 by omega, eA_c (gA_sI)] at z; exact congrArg Int32.toInt z); have z19 := (show (eA ys188 234 6).toInt = (eA g0 234 6).toInt from by have z := hf192 6 (by decide) (by omega); rw [eA_c (gA_sI)] at z; exact congrArg Int32.toInt z); have z20 := (show (eA ys188 234 5511).toInt = (eA g0 233 1).toInt from by have z := hc191 1 (by decide) (by decide); rw [show 5510 * a1.toInt + 1 = 5511 by omega, eA_c (gA_sI)] at z; exact congrArg Int32.toInt z); have z21 := (show (eA ys188 234 1).toInt = (eA g0 234 1).toInt from by have z := hf192 1 (by decide) (by omega); rw [eA_c (gA_sI)] at z; exact congrArg Int32.toInt z); omega), (fun e => by have z0 := HI.eqA hI201 (p := 234) (j := 0) ((((eA_c (hF202.2.1 234 (by decide))).trans (eA_c (gA_sA_ne (by decide)))).trans hv241)); have z1 := HI.eqA hI201 (p := 234) (j := 4) ((((eA_c (hF202.2.1 234 (by decide))).trans (eA_c (gA_sA_ne (by decide)))).trans hv242)); have z2 := HI.eqA hI201 (p := 234) (j := 5) ((((eA_c (hF202.2.1 234 (by decide))).trans (eA_c (gA_sA_ne (by decide)))).trans hv243)); have z3 := HI.eqA hI201 (p := 234) (j := 6) ((((eA_c (hF202.2.1 234 (by decide))).trans (eA_c (gA_sA_ne (by decide)))).trans hv244)); have z4 := HI.eqA hI201 (p := 234) (j := 1) ((((eA_c (hF202.2.1 234 (by decide))).trans (eA_c (gA_sA_ne (by decide)))).trans hv245)); have z5 := HI.eqA hI201 (p := 234) (j := 5510) ((((eA_c (hF202.2.1 234 (by decide))).trans (eA_c (gA_sA_ne (by decide)))).trans hv246)); have z6 := HI.eqA hI201 (p := 234) (j := 5514) ((((eA_c (hF202.2.1 234 (by decide))).trans (eA_c (gA_sA_ne (by decide)))).trans hv247)); have z7 := HI.eqA hI201 (p := 234) (j := 5515) ((((eA_c (hF202.2.1 234 (by decide))).trans (eA_c (gA_sA_ne (by decide)))).trans hv248)); have z8 := HI.eqA hI201 (p := 234) (j := 5516) ((((eA_c (hF202.2.1 234 (by decide))).trans (eA_c (gA_sA_ne (by decide)))).trans hv249)); have z9 := HI.eqA hI201 (p := 234) (j := 5511) ((((eA_c (hF202.2.1 234 (by decide))).trans (eA_c (gA_sA_ne (by decide)))).trans hv250)); have z10 := HI.eqA hI201 (p := 235) (j := 0) ((((eA_c (hF202.2.1 235 (by decide))).trans ((eA_sA_ne hI195.1 ka_235 (by first | decide | omega) (by first | decide | omega) (by first | decide | omega)).trans ((eA_c (hl190.2.1 235 (by decide))).trans (eA_c gA_sI)))).trans hv237)); have z11 := HI.eqA hI201 (p := 235) (j := 1) (((eA_c (hF202.2.1 235 (by decide))).trans (eA_sA_eq hI195.1 ka_235 (by omega) (by first | decide | omega) (by first | decide | omega)))); have z12 := (show (eA ys188 234 5510).toInt = (eA g0 233 0).toInt from by have z := hc191 0 (by decide) (by decide); rw [show 5510 * a1.toInt + 0 = 5510 by omega, eA_c (gA_sI)] at z; exact congrArg Int32.toInt z); have z13 := (show (eA ys188 234 0).toInt = (eA g0 234 0).toInt from by have z := hf192 0 (by decide) (by omega); rw [eA_c (gA_sI)] at z; exact congrArg Int32.toInt z); have z14 := (show (eA ys188 234 5514).toInt = (eA g0 233 4).toInt from by have z := hc191 4 (by decide) (by decide); rw [show 5510 * a1.toInt + 4 = 5514 by omega, eA_c (gA_sI)] at z; exact congrArg Int32.toInt z); have z15 := (show (eA ys188 234 4).toInt = (eA g0 234 4).toInt from by have z := hf192 4 (by decide) (by omega); rw [eA_c (gA_sI)] at z; exact congrArg Int32.toInt z); have z16 := (show (eA ys188 234 5515).toInt = (eA g0 233 5).toInt from by have z := hc191 5 (by decide) (by decide); rw [show 5510 * a1.toInt + 5 = 5515 by omega, eA_c (gA_sI)] at z; exact congrArg Int32.toInt z); have z17 := (show (eA ys188 234 5).toInt = (eA g0 234 5).toInt from by have z := hf192 5 (by decide) (by omega); rw [eA_c (gA_sI)] at z; exact congrArg Int32.toInt z); have z18 := (show (eA ys188 234 5516).toInt = (eA g0 233 6).toInt from by have z := hc191 6 (by decide) (by decide); rw [show 5510 * a1.toInt + 6 = 5516 by omega, eA_c (gA_sI)] at z; exact congrArg Int32.toInt z); have z19 := (show (eA ys188 234 6).toInt = (eA g0 234 6).toInt from by have z := hf192 6 (by decide) (by omega); rw [eA_c (gA_sI)] at z; exact congrArg Int32.toInt z); have z20 := (show (eA ys188 234 5511).toInt = (eA g0 233 1).toInt from by have z := hc191 1 (by decide) (by decide); rw [show 5510 * a1.toInt + 1 = 5511 by omega, eA_c (gA_sI)] at z; exact congrArg Int32.toInt z); have z21 := (show (eA ys188 234 1).toInt = (eA g0 234 1).toInt from by have z := hf192 1 (by decide) (by omega); rw [eA_c (gA_sI)] at z; exact congrArg Int32.toInt z); omega), (fun e_ => by have e : a1.toInt = 0 := (by omega); have z0 := HI.eqA hI201 (p := 234) (j := 0) ((((eA_c (hF202.2.1 234 (by decide))).trans (eA_c (gA_sA_ne (by decide)))).trans hv241)); have z1 := HI.eqA hI201 (p := 234) (j := 4) ((((eA_c (hF202.2.1 234 (by decide))).trans (eA_c (gA_sA_ne (by decide)))).trans hv242)); have z2 := HI.eqA hI201 (p := 234) (j := 5) ((((eA_c (hF202.2.1 234 (by decide))).trans (eA_c (gA_sA_ne (by decide)))).trans hv243)); have z3 := HI.eqA hI201 (p := 234) (j := 6) ((((eA_c (hF202.2.1 234 (by decide))).trans (eA_c (gA_sA_ne (by decide)))).trans hv244)); have z4 := HI.eqA hI201 (p := 234) (j := 1) ((((eA_c (hF202.2.1 234 (by decide))).trans (eA_c (gA_sA_ne (by decide)))).trans hv245)); have z5 := HI.eqA hI201 (p := 234) (j := 5510) ((((eA_c (hF202.2.1 234 (by decide))).trans (eA_c (gA_sA_ne (by decide)))).trans hv246)); have z6 := HI.eqA hI201 (p := 234) (j := 5514) ((((eA_c (hF202.2.1 234 (by decide))).trans (eA_c (gA_sA_ne (by decide)))).trans hv247)); have z7 := HI.eqA hI201 (p := 234) (j := 5515) ((((eA_c (hF202.2.1 234 (by decide))).trans (eA_c (gA_sA_ne (by decide)))).trans hv248)); have z8 := HI.eqA hI201 (p := 234) (j := 5516) ((((eA_c (hF202.2.1 234 (by decide))).trans (eA_c (gA_sA_ne (by decide)))).trans hv249)); have z9 := HI.eqA hI201 (p := 234) (j := 5511) ((((eA_c (hF202.2.1 234 (by decide))).trans (eA_c (gA_sA_ne (by decide)))).trans hv250)); have z10 := HI.eqA hI201 (p := 235) (j := 0) (((eA_c (hF202.2.1 235 (by decide))).trans (eA_sA_eq hI195.1 ka_235 (by omega) (by first | decide | omega) (by first | decide | omega)))); have z11 := HI.eqA hI201 (p := 235) (j := 1) ((((eA_c (hF202.2.1 235 (by decide))).trans ((eA_sA_ne hI195.1 ka_235 (by first | decide | omega) (by first | decide | omega) (by first | decide | omega)).trans ((eA_c (hl190.2.1 235 (by decide))).trans (eA_c gA_sI)))).trans hv239)); have z12 := (show (eA ys188 234 0).toInt = (eA g0 233 0).toInt from by have z := hc191 0 (by decide) (by decide); rw [show 5510 * a1.toInt + 0 = 0 by omega, eA_c (gA_sI)] at z; exact congrArg Int32.toInt z); have z13 := (show (eA ys188 234 5510).toInt = (eA g0 234 5510).toInt from by have z := hf192 5510 (by decide) (by omega); rw [eA_c (gA_sI)] at z; exact congrArg Int32.toInt z); have z14 := (show (eA ys188 234 4).toInt = (eA g0 233 4).toInt from by have z := hc191 4 (by decide) (by decide); rw [show 5510 * a1.toInt + 4 = 4 by omega, eA_c (gA_sI)] at z; exact congrArg Int32.toInt z); have z15 := (show (eA ys188 234 5514).toInt = (eA g0 234 5514).toInt from by have z := hf192 5514 (by decide) (by omega); rw [eA_c (gA_sI)] at z; exact congrArg Int32.toInt z); have z16 := (show (eA ys188 234 5).toInt = (eA g0 233 5).toInt from by have z := hc191 5 (by decide) (by decide); rw [show 5510 * a1.toInt + 5 = 5 by omega, eA_c (gA_sI)] at z; exact congrArg Int32.toInt z); have z17 := (show (eA ys188 234 5515).toInt = (eA g0 234 5515).toInt from by have z := hf192 5515 (by decide) (by omega); rw [eA_c (gA_sI)] at z; exact congrArg Int32.toInt z); have z18 := (show (eA ys188 234 6).toInt = (eA g0 233 6).toInt from by have z := hc191 6 (by decide) (by decide); rw [show 5510 * a1.toInt + 6 = 6 by omega, eA_c (gA_sI)] at z; exact congrArg Int32.toInt z); have z19 := (show (eA ys188 234 5516).toInt = (eA g0 234 5516).toInt from by have z := hf192 5516 (by decide) (by omega); rw [eA_c (gA_sI)] at z; exact congrArg Int32.toInt z); have z20 := (show (eA ys188 234 1).toInt = (eA g0 233 1).toInt from by have z := hc191 1 (by decide) (by decide); rw [show 5510 * a1.toInt + 1 = 1 by omega, eA_c (gA_sI)] at z; exact congrArg Int32.toInt z); have z21 := (show (eA ys188 234 5511).toInt = (eA g0 234 5511).toInt from by have z := hf192 5511 (by decide) (by omega); rw [eA_c (gA_sI)] at z; exact congrArg Int32.toInt z); omega), by omega⟩, (by intro i i0 i1; exact (Decidable.em (a1.toInt = 0)).elim (fun k0 => by rw [if_pos k0]; exact (by refine (eA_ti (((hF202.2.1 234 (by decide)).trans (gA_sA_ne (by decide))))).trans ?_; refine (eA_ix (show i = 5510 * a1.toInt + i from by omega)).trans ?_; exact (congrArg Int32.toInt (hc191 i (by omega) (by omega))).trans (eA_ti ((gA_sI))))) (fun k0 => by rw [if_neg k0]; exact (by refine (eA_ti (((hF202.2.1 234 (by decide)).trans (gA_sA_ne (by decide))))).trans ?_; exact (congrArg Int32.toInt (hf192 (i) (by omega) (by omega))).trans (eA_ti ((gA_sI)))))), (by intro i i0 i1; exact (Decidable.em (a1.toInt = 1)).elim (fun k0 => by rw [if_pos k0]; exact (by refine (eA_ti (((hF202.2.1 234 (by decide)).trans (gA_sA_ne (by decide))))).trans ?_; refine (eA_ix (show 5510 + i = 5510 * a1.toInt + i from by omega)).trans ?_; exact (congrArg Int32.toInt (hc191 i (by omega) (by omega))).trans (eA_ti ((gA_sI))))) (fun k0 => by rw [if_neg k0]; exact (by refine (eA_ti (((hF202.2.1 234 (by decide)).trans (gA_sA_ne (by decide))))).trans ?_; exact (congrArg Int32.toInt (hf192 (5510 + i) (by omega) (by omega))).trans (eA_ti ((gA_sI))))))⟩⟩
