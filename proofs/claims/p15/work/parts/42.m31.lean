def F_X11_image_231 : List (Nat × Nat) := [(231, 0), (231, 1)]
def A_X11_image_231 : List Nat := [232, 234, 235]
theorem ma_X11_tell_231_234 : memA A_X11_tell_231 234 = false := by decide
theorem ma_X11_tell_231_235 : memA A_X11_tell_231 235 = false := by decide
set_option maxRecDepth 100000 in
set_option maxHeartbeats 4000000 in
theorem T_X11_image_231 (d : Nat) {N : Nat} {g0 : List en_E} (hI0 : HI g0) (a1 : Int32) : Ev (d + 2) 165 [.ref 231, .int a1] (g0, N) (fun w h' => ∃ g', h' = (g', N) ∧ HI g' ∧ Fr F_X11_image_231 A_X11_image_231 g0 g' ∧ ∃ r : Int32, w = some (.int r) ∧ ((-1) ≤ r.toInt ∧ r.toInt ≤ 0) ∧ ((a1.toInt = 0 → (eA g' 235 0).toInt = 1 ∧ r.toInt = 0 ∧ (eA g' 234 0).toInt = (eA g0 233 0).toInt ∧ (eA g' 234 4).toInt = (eA g0 233 4).toInt ∧ (eA g' 234 5).toInt = (eA g0 233 5).toInt ∧ (eA g' 234 6).toInt = (eA g0 233 6).toInt ∧ (eA g' 234 2).toInt = (eA g0 233 2).toInt ∧ (eA g' 234 3).toInt = (eA g0 233 3).toInt) ∧ (a1.toInt ≠ 0 → (eA g' 235 0).toInt = (eA g0 235 0).toInt ∧ (eA g' 234 0).toInt = (eA g0 234 0).toInt ∧ (eA g' 234 4).toInt = (eA g0 234 4).toInt ∧ (eA g' 234 5).toInt = (eA g0 234 5).toInt ∧ (eA g' 234 6).toInt = (eA g0 234 6).toInt ∧ (eA g' 234 2).toInt = (eA g0 234 2).toInt ∧ (eA g' 234 3).toInt = (eA g0 234 3).toInt) ∧ (a1.toInt = 1 → (eA g' 235 1).toInt = 1 ∧ r.toInt = 0 ∧ (eA g' 234 5510).toInt = (eA g0 233 0).toInt ∧ (eA g' 234 5514).toInt = (eA g0 233 4).toInt ∧ (eA g' 234 5515).toInt = (eA g0 233 5).toInt ∧ (eA g' 234 5516).toInt = (eA g0 233 6).toInt ∧ (eA g' 234 5512).toInt = (eA g0 233 2).toInt ∧ (eA g' 234 5513).toInt = (eA g0 233 3).toInt) ∧ (a1.toInt ≠ 1 → (eA g' 235 1).toInt = (eA g0 235 1).toInt ∧ (eA g' 234 5510).toInt = (eA g0 234 5510).toInt ∧ (eA g' 234 5514).toInt = (eA g0 234 5514).toInt ∧ (eA g' 234 5515).toInt = (eA g0 234 5515).toInt ∧ (eA g' 234 5516).toInt = (eA g0 234 5516).toInt ∧ (eA g' 234 5512).toInt = (eA g0 234 5512).toInt ∧ (eA g' 234 5513).toInt = (eA g0 234 5513).toInt) ∧ (a1.toInt < 0 ∨ 1 < a1.toInt → r.toInt = -1))) := by
  have hF0 : Fr F_X11_image_231 A_X11_image_231 g0 g0 := Fr.rf
  refine Ev.mk rfl rfl ⟨Nat.le_of_ble_eq_true rfl, Or.inr (q_rc hI0.1 kx_231 rfl)⟩ ?_
  show At _ none _ _ (0, [(0, .ref 231), (1, .int a1)], [], (_, _)) _
  refine At.enter rfl ?_
  refine r_aload_n rfl ?_
  refine r_iconst 0 rfl ?_
  refine q_putI (Sh.int hI0.1 kx_231 rfl) rfl ?_
  have hI77 := HI.wI0 hI0 kx_231 rfl (p := 231) (b := 0) (v := 0) rfl
  have hF78 := Fr.wI (p := 231) (b := 0) (v := 0) hF0 rfl
  refine r_iload_n rfl ?_
  refine q_i2l (fun v79 hv79 => ?_)
  refine r_lconst 0 rfl ?_
  refine r_lconst 1 rfl ?_
  refine q_inlS 12 rfl [.long v79, .long 0, .long 1] [] (Nat.le_of_ble_eq_true rfl) rfl ?_
  refine Ev.mk rfl rfl ⟨Nat.le_of_ble_eq_true rfl, Or.inl rfl⟩ ?_
  show At _ none _ _ (0, [(0, .long v79), (2, .long 0), (4, .long 1)], [], (_, _)) _
  refine At.enter rfl ?_
  refine r_lload_n rfl ?_
  refine r_lload_n rfl ?_
  refine r_lcmp _ rfl ?_
  refine r_ifs 6 rfl (fun c80 => ?_) (fun c80 => ?_)
  · have c80_ : v79.toInt < 0 := en_j_lt_t c80
    refine At.enter rfl ?_
    refine r_iconst 0 rfl ?_
    refine Ar.fall 18 rfl ?_
    refine At.enter rfl ?_
    refine q_iretz (by decide) ?_
    refine At.enter rfl ?_
    refine r_iff 15 rfl (by decide) ?_
    refine At.enter rfl ?_
    refine r_aload_n rfl ?_
    refine r_iconst (-1) rfl ?_
    refine r_callV 20 rfl [.ref 231, .int (-1)] [] (Nat.le_of_ble_eq_true rfl) rfl (T_X11_tell_231 _ hI77 (-1) (by decide)) ?_
    rintro _ _ ⟨g81, rfl, hI82, hF83, v84, rfl, hr85⟩
    refine At.sti ?_
    have hF86 := Fr.tr hF78 hF83 rfl rfl
    have zv87 : ((-1) : Int32).toInt = (-1) := rfl
    refine At.enter rfl ?_
    refine r_ireti ?_
    obtain ⟨v88, hv88⟩ : ∃ v, eA g0 233 0 = v := ⟨_, rfl⟩
    have tv88 := congrArg Int32.toInt hv88
    have wv88 := HI.t0 hI0
    rw [hv88] at wv88
    have tv88 := congrArg Int32.toInt hv88
    have x89 := HI.eqA hI0 (p := 233) (j := 0) (hv88)
    obtain ⟨v90, hv90⟩ : ∃ v, eA g0 233 4 = v := ⟨_, rfl⟩
    have wv90 := HI.t4 hI0
    rw [hv90] at wv90
    have tv90 := congrArg Int32.toInt hv90
    have x91 := HI.eqA hI0 (p := 233) (j := 4) (hv90)
    obtain ⟨v92, hv92⟩ : ∃ v, eA g0 233 5 = v := ⟨_, rfl⟩
    have wv92 := HI.t5 hI0
    rw [hv92] at wv92
    have tv92 := congrArg Int32.toInt hv92
    have x93 := HI.eqA hI0 (p := 233) (j := 5) (hv92)
    obtain ⟨v94, hv94⟩ : ∃ v, eA g0 233 6 = v := ⟨_, rfl⟩
    have wv94 := HI.t6 hI0
    rw [hv94] at wv94
    have tv94 := congrArg Int32.toInt hv94
    have x95 := HI.eqA hI0 (p := 233) (j := 6) (hv94)
    obtain ⟨v96, hv96⟩ : ∃ v, eA g0 233 2 = v := ⟨_, rfl⟩
    have tv96 := congrArg Int32.toInt hv96
    have wv96 := HI.t2 hI0
    rw [hv96] at wv96
    have tv96 := congrArg Int32.toInt hv96
    have x97 := HI.eqA hI0 (p := 233) (j := 2) (hv96)
    obtain ⟨v98, hv98⟩ : ∃ v, eA g0 233 3 = v := ⟨_, rfl⟩
    have wv98 := HI.t3 hI0
    rw [hv98] at wv98
    have tv98 := congrArg Int32.toInt hv98
    have x99 := HI.eqA hI0 (p := 233) (j := 3) (hv98)
    obtain ⟨v100, hv100⟩ : ∃ v, eA g0 234 0 = v := ⟨_, rfl⟩
    have tv100 := congrArg Int32.toInt hv100
    have x101 := HI.eqA hI0 (p := 234) (j := 0) (hv100)
    obtain ⟨v102, hv102⟩ : ∃ v, eA g0 234 4 = v := ⟨_, rfl⟩
    have tv102 := congrArg Int32.toInt hv102
    have x103 := HI.eqA hI0 (p := 234) (j := 4) (hv102)
    obtain ⟨v104, hv104⟩ : ∃ v, eA g0 234 5 = v := ⟨_, rfl⟩
    have tv104 := congrArg Int32.toInt hv104
    have x105 := HI.eqA hI0 (p := 234) (j := 5) (hv104)
    obtain ⟨v106, hv106⟩ : ∃ v, eA g0 234 6 = v := ⟨_, rfl⟩
    have tv106 := congrArg Int32.toInt hv106
    have x107 := HI.eqA hI0 (p := 234) (j := 6) (hv106)
    obtain ⟨v108, hv108⟩ : ∃ v, eA g0 234 2 = v := ⟨_, rfl⟩
    have tv108 := congrArg Int32.toInt hv108
    have x109 := HI.eqA hI0 (p := 234) (j := 2) (hv108)
    obtain ⟨v110, hv110⟩ : ∃ v, eA g0 234 3 = v := ⟨_, rfl⟩
    have tv110 := congrArg Int32.toInt hv110
    have x111 := HI.eqA hI0 (p := 234) (j := 3) (hv110)
    obtain ⟨v112, hv112⟩ : ∃ v, eA g0 234 5510 = v := ⟨_, rfl⟩
    have tv112 := congrArg Int32.toInt hv112
    have x113 := HI.eqA hI0 (p := 234) (j := 5510) (hv112)
    obtain ⟨v114, hv114⟩ : ∃ v, eA g0 234 5514 = v := ⟨_, rfl⟩
    have tv114 := congrArg Int32.toInt hv114
    have x115 := HI.eqA hI0 (p := 234) (j := 5514) (hv114)
    obtain ⟨v116, hv116⟩ : ∃ v, eA g0 234 5515 = v := ⟨_, rfl⟩
    have tv116 := congrArg Int32.toInt hv116
    have x117 := HI.eqA hI0 (p := 234) (j := 5515) (hv116)
    obtain ⟨v118, hv118⟩ : ∃ v, eA g0 234 5516 = v := ⟨_, rfl⟩
    have tv118 := congrArg Int32.toInt hv118
    have x119 := HI.eqA hI0 (p := 234) (j := 5516) (hv118)
    obtain ⟨v120, hv120⟩ : ∃ v, eA g0 234 5512 = v := ⟨_, rfl⟩
    have tv120 := congrArg Int32.toInt hv120
    have x121 := HI.eqA hI0 (p := 234) (j := 5512) (hv120)
    obtain ⟨v122, hv122⟩ : ∃ v, eA g0 234 5513 = v := ⟨_, rfl⟩
    have tv122 := congrArg Int32.toInt hv122
    have x123 := HI.eqA hI0 (p := 234) (j := 5513) (hv122)
    obtain ⟨v124, hv124⟩ : ∃ v, eA g0 235 0 = v := ⟨_, rfl⟩
    have tv124 := congrArg Int32.toInt hv124
    have x125 := HI.eqA hI0 (p := 235) (j := 0) (hv124)
    obtain ⟨v126, hv126⟩ : ∃ v, eA g0 235 1 = v := ⟨_, rfl⟩
    have tv126 := congrArg Int32.toInt hv126
    have x127 := HI.eqA hI0 (p := 235) (j := 1) (hv126)
    have x128 := HI.eqA hI82 (p := 234) (j := 0) ((((eA_c (hF83.2.1 234 ma_X11_tell_231_234)).trans (eA_c gA_sI)).trans hv100))
    have x129 := HI.eqA hI82 (p := 234) (j := 4) ((((eA_c (hF83.2.1 234 ma_X11_tell_231_234)).trans (eA_c gA_sI)).trans hv102))
    have x130 := HI.eqA hI82 (p := 234) (j := 5) ((((eA_c (hF83.2.1 234 ma_X11_tell_231_234)).trans (eA_c gA_sI)).trans hv104))
    have x131 := HI.eqA hI82 (p := 234) (j := 6) ((((eA_c (hF83.2.1 234 ma_X11_tell_231_234)).trans (eA_c gA_sI)).trans hv106))
    have x132 := HI.eqA hI82 (p := 234) (j := 2) ((((eA_c (hF83.2.1 234 ma_X11_tell_231_234)).trans (eA_c gA_sI)).trans hv108))
    have x133 := HI.eqA hI82 (p := 234) (j := 3) ((((eA_c (hF83.2.1 234 ma_X11_tell_231_234)).trans (eA_c gA_sI)).trans hv110))
    have x134 := HI.eqA hI82 (p := 234) (j := 5510) ((((eA_c (hF83.2.1 234 ma_X11_tell_231_234)).trans (eA_c gA_sI)).trans hv112))
    have x135 := HI.eqA hI82 (p := 234) (j := 5514) ((((eA_c (hF83.2.1 234 ma_X11_tell_231_234)).trans (eA_c gA_sI)).trans hv114))
    have x136 := HI.eqA hI82 (p := 234) (j := 5515) ((((eA_c (hF83.2.1 234 ma_X11_tell_231_234)).trans (eA_c gA_sI)).trans hv116))
    have x137 := HI.eqA hI82 (p := 234) (j := 5516) ((((eA_c (hF83.2.1 234 ma_X11_tell_231_234)).trans (eA_c gA_sI)).trans hv118))
    have x138 := HI.eqA hI82 (p := 234) (j := 5512) ((((eA_c (hF83.2.1 234 ma_X11_tell_231_234)).trans (eA_c gA_sI)).trans hv120))
    have x139 := HI.eqA hI82 (p := 234) (j := 5513) ((((eA_c (hF83.2.1 234 ma_X11_tell_231_234)).trans (eA_c gA_sI)).trans hv122))
    have x140 := HI.eqA hI82 (p := 235) (j := 0) ((((eA_c (hF83.2.1 235 ma_X11_tell_231_235)).trans (eA_c gA_sI)).trans hv124))
    have x141 := HI.eqA hI82 (p := 235) (j := 1) ((((eA_c (hF83.2.1 235 ma_X11_tell_231_235)).trans (eA_c gA_sI)).trans hv126))
    exact ⟨_, rfl, hI82, hF86, _, rfl, by omega, ⟨by omega, by omega, by omega, by omega, by omega⟩⟩
  · have c80_ : v79.toInt ≥ 0 := en_j_lt_f c80
    refine At.enter rfl ?_
    refine r_lload_n rfl ?_
    refine r_lload rfl ?_
    refine r_lcmp _ rfl ?_
    refine r_ifs 13 rfl (fun c142 => ?_) (fun c142 => ?_)
    · have c142_ : v79.toInt > 1 := en_j_gt_t c142
      refine At.enter rfl ?_
      refine r_iconst 0 rfl ?_
      refine Ar.fall 18 rfl ?_
      refine At.enter rfl ?_
      refine q_iretz (by decide) ?_
      refine At.enter rfl ?_
      refine r_iff 15 rfl (by decide) ?_
      refine At.enter rfl ?_
      refine r_aload_n rfl ?_
      refine r_iconst (-1) rfl ?_
      refine r_callV 20 rfl [.ref 231, .int (-1)] [] (Nat.le_of_ble_eq_true rfl) rfl (T_X11_tell_231 _ hI77 (-1) (by decide)) ?_
      rintro _ _ ⟨g143, rfl, hI144, hF145, v146, rfl, hr147⟩
      refine At.sti ?_
      have hF148 := Fr.tr hF78 hF145 rfl rfl
      have zv149 : ((-1) : Int32).toInt = (-1) := rfl
      refine At.enter rfl ?_
      refine r_ireti ?_
      obtain ⟨v150, hv150⟩ : ∃ v, eA g0 233 0 = v := ⟨_, rfl⟩
      have tv150 := congrArg Int32.toInt hv150
      have wv150 := HI.t0 hI0
      rw [hv150] at wv150
      have tv150 := congrArg Int32.toInt hv150
      have x151 := HI.eqA hI0 (p := 233) (j := 0) (hv150)
      obtain ⟨v152, hv152⟩ : ∃ v, eA g0 233 4 = v := ⟨_, rfl⟩
      have wv152 := HI.t4 hI0
      rw [hv152] at wv152
      have tv152 := congrArg Int32.toInt hv152
      have x153 := HI.eqA hI0 (p := 233) (j := 4) (hv152)
      obtain ⟨v154, hv154⟩ : ∃ v, eA g0 233 5 = v := ⟨_, rfl⟩
      have wv154 := HI.t5 hI0
      rw [hv154] at wv154
      have tv154 := congrArg Int32.toInt hv154
      have x155 := HI.eqA hI0 (p := 233) (j := 5) (hv154)
      obtain ⟨v156, hv156⟩ : ∃ v, eA g0 233 6 = v := ⟨_, rfl⟩
      have wv156 := HI.t6 hI0
      rw [hv156] at wv156
      have tv156 := congrArg Int32.toInt hv156
      have x157 := HI.eqA hI0 (p := 233) (j := 6) (hv156)
      obtain ⟨v158, hv158⟩ : ∃ v, eA g0 233 2 = v := ⟨_, rfl⟩
      have tv158 := congrArg Int32.toInt hv158
      have wv158 := HI.t2 hI0
      rw [hv158] at wv158
      have tv158 := congrArg Int32.toInt hv158
      have x159 := HI.eqA hI0 (p := 233) (j := 2) (hv158)
      obtain ⟨v160, hv160⟩ : ∃ v, eA g0 233 3 = v := ⟨_, rfl⟩
      have wv160 := HI.t3 hI0
      rw [hv160] at wv160
      have tv160 := congrArg Int32.toInt hv160
      have x161 := HI.eqA hI0 (p := 233) (j := 3) (hv160)
      obtain ⟨v162, hv162⟩ : ∃ v, eA g0 234 0 = v := ⟨_, rfl⟩
      have tv162 := congrArg Int32.toInt hv162
      have x163 := HI.eqA hI0 (p := 234) (j := 0) (hv162)
      obtain ⟨v164, hv164⟩ : ∃ v, eA g0 234 4 = v := ⟨_, rfl⟩
      have tv164 := congrArg Int32.toInt hv164
      have x165 := HI.eqA hI0 (p := 234) (j := 4) (hv164)
      obtain ⟨v166, hv166⟩ : ∃ v, eA g0 234 5 = v := ⟨_, rfl⟩
      have tv166 := congrArg Int32.toInt hv166
      have x167 := HI.eqA hI0 (p := 234) (j := 5) (hv166)
      obtain ⟨v168, hv168⟩ : ∃ v, eA g0 234 6 = v := ⟨_, rfl⟩
      have tv168 := congrArg Int32.toInt hv168
      have x169 := HI.eqA hI0 (p := 234) (j := 6) (hv168)
      obtain ⟨v170, hv170⟩ : ∃ v, eA g0 234 2 = v := ⟨_, rfl⟩
      have tv170 := congrArg Int32.toInt hv170
      have x171 := HI.eqA hI0 (p := 234) (j := 2) (hv170)
      obtain ⟨v172, hv172⟩ : ∃ v, eA g0 234 3 = v := ⟨_, rfl⟩
      have tv172 := congrArg Int32.toInt hv172
      have x173 := HI.eqA hI0 (p := 234) (j := 3) (hv172)
      obtain ⟨v174, hv174⟩ : ∃ v, eA g0 234 5510 = v := ⟨_, rfl⟩
      have tv174 := congrArg Int32.toInt hv174
      have x175 := HI.eqA hI0 (p := 234) (j := 5510) (hv174)
      obtain ⟨v176, hv176⟩ : ∃ v, eA g0 234 5514 = v := ⟨_, rfl⟩
      have tv176 := congrArg Int32.toInt hv176
      have x177 := HI.eqA hI0 (p := 234) (j := 5514) (hv176)
      obtain ⟨v178, hv178⟩ : ∃ v, eA g0 234 5515 = v := ⟨_, rfl⟩
      have tv178 := congrArg Int32.toInt hv178
      have x179 := HI.eqA hI0 (p := 234) (j := 5515) (hv178)
      obtain ⟨v180, hv180⟩ : ∃ v, eA g0 234 5516 = v := ⟨_, rfl⟩
      have tv180 := congrArg Int32.toInt hv180
      have x181 := HI.eqA hI0 (p := 234) (j := 5516) (hv180)
      obtain ⟨v182, hv182⟩ : ∃ v, eA g0 234 5512 = v := ⟨_, rfl⟩
      have tv182 := congrArg Int32.toInt hv182
      have x183 := HI.eqA hI0 (p := 234) (j := 5512) (hv182)
      obtain ⟨v184, hv184⟩ : ∃ v, eA g0 234 5513 = v := ⟨_, rfl⟩
      have tv184 := congrArg Int32.toInt hv184
      have x185 := HI.eqA hI0 (p := 234) (j := 5513) (hv184)
      obtain ⟨v186, hv186⟩ : ∃ v, eA g0 235 0 = v := ⟨_, rfl⟩
      have tv186 := congrArg Int32.toInt hv186
      have x187 := HI.eqA hI0 (p := 235) (j := 0) (hv186)
      obtain ⟨v188, hv188⟩ : ∃ v, eA g0 235 1 = v := ⟨_, rfl⟩
      have tv188 := congrArg Int32.toInt hv188
      have x189 := HI.eqA hI0 (p := 235) (j := 1) (hv188)
      have x190 := HI.eqA hI144 (p := 234) (j := 0) ((((eA_c (hF145.2.1 234 ma_X11_tell_231_234)).trans (eA_c gA_sI)).trans hv162))
      have x191 := HI.eqA hI144 (p := 234) (j := 4) ((((eA_c (hF145.2.1 234 ma_X11_tell_231_234)).trans (eA_c gA_sI)).trans hv164))
      have x192 := HI.eqA hI144 (p := 234) (j := 5) ((((eA_c (hF145.2.1 234 ma_X11_tell_231_234)).trans (eA_c gA_sI)).trans hv166))
      have x193 := HI.eqA hI144 (p := 234) (j := 6) ((((eA_c (hF145.2.1 234 ma_X11_tell_231_234)).trans (eA_c gA_sI)).trans hv168))
      have x194 := HI.eqA hI144 (p := 234) (j := 2) ((((eA_c (hF145.2.1 234 ma_X11_tell_231_234)).trans (eA_c gA_sI)).trans hv170))
      have x195 := HI.eqA hI144 (p := 234) (j := 3) ((((eA_c (hF145.2.1 234 ma_X11_tell_231_234)).trans (eA_c gA_sI)).trans hv172))
      have x196 := HI.eqA hI144 (p := 234) (j := 5510) ((((eA_c (hF145.2.1 234 ma_X11_tell_231_234)).trans (eA_c gA_sI)).trans hv174))
      have x197 := HI.eqA hI144 (p := 234) (j := 5514) ((((eA_c (hF145.2.1 234 ma_X11_tell_231_234)).trans (eA_c gA_sI)).trans hv176))
      have x198 := HI.eqA hI144 (p := 234) (j := 5515) ((((eA_c (hF145.2.1 234 ma_X11_tell_231_234)).trans (eA_c gA_sI)).trans hv178))
      have x199 := HI.eqA hI144 (p := 234) (j := 5516) ((((eA_c (hF145.2.1 234 ma_X11_tell_231_234)).trans (eA_c gA_sI)).trans hv180))
      have x200 := HI.eqA hI144 (p := 234) (j := 5512) ((((eA_c (hF145.2.1 234 ma_X11_tell_231_234)).trans (eA_c gA_sI)).trans hv182))
      have x201 := HI.eqA hI144 (p := 234) (j := 5513) ((((eA_c (hF145.2.1 234 ma_X11_tell_231_234)).trans (eA_c gA_sI)).trans hv184))
      have x202 := HI.eqA hI144 (p := 235) (j := 0) ((((eA_c (hF145.2.1 235 ma_X11_tell_231_235)).trans (eA_c gA_sI)).trans hv186))
      have x203 := HI.eqA hI144 (p := 235) (j := 1) ((((eA_c (hF145.2.1 235 ma_X11_tell_231_235)).trans (eA_c gA_sI)).trans hv188))
      exact ⟨_, rfl, hI144, hF148, _, rfl, by omega, ⟨by omega, by omega, by omega, by omega, by omega⟩⟩
    · have c142_ : v79.toInt ≤ 1 := en_j_gt_f c142
      refine At.enter rfl ?_
      refine r_iconst 1 rfl ?_
      refine r_goto ?_
      refine At.enter rfl ?_
      refine q_iretz (by decide) ?_
      refine At.enter rfl ?_
      refine r_ift (by decide) ?_
      refine At.enter rfl ?_
      refine r_iconst 0 rfl ?_
      refine r_istore_n ([(2, .int 0), (0, .ref 231), (1, .int a1)]) rfl ?_
      refine Ar.fall 23 rfl ?_
      refine zi_loopG hI77 ⟨by omega, by omega⟩ rfl rfl rfl (fun ys204 l205 hI211 hW212 hl206 hc207 hf208 e209 e210 => ?_)
      have hF213 := Fr.tr hF78 hl206 rfl rfl
      refine At.enter rfl ?_
      refine r_aload_n e209 ?_
      refine q_getR (Sh.ref hI211.1 kx_231 rfl) ?_
      refine r_iload_n e210 ?_
      refine r_iconst 1 rfl ?_
      refine q_bast (Sh.arr hI211.1 ka_235) (a1.toInt) rfl (by omega) rfl ?_
      have hI214 := HI.kept hI211 (k := a1.toInt) (v := 1) ⟨by omega, by omega⟩ hW212
      have hF215 := Fr.wA (p := 235) (j := a1.toInt) (v := 1) hF213 rfl
      refine r_aload_n e209 ?_
      refine r_iconst 0 rfl ?_
      refine r_callV 66 rfl [.ref 231, .int 0] [] (Nat.le_of_ble_eq_true rfl) rfl (T_X11_tell_231 _ hI214 0 (by decide)) ?_
      rintro _ _ ⟨g216, rfl, hI217, hF218, v219, rfl, hr220⟩
      refine At.sti ?_
      have hF221 := Fr.tr hF215 hF218 rfl rfl
      have zv222 : (0 : Int32).toInt = 0 := rfl
      refine At.enter rfl ?_
      refine r_ireti ?_
      obtain ⟨v223, hv223⟩ : ∃ v, eA g0 233 0 = v := ⟨_, rfl⟩
      have tv223 := congrArg Int32.toInt hv223
      have wv223 := HI.t0 hI0
      rw [hv223] at wv223
      have tv223 := congrArg Int32.toInt hv223
      have x224 := HI.eqA hI0 (p := 233) (j := 0) (hv223)
      obtain ⟨v225, hv225⟩ : ∃ v, eA g0 233 4 = v := ⟨_, rfl⟩
      have wv225 := HI.t4 hI0
      rw [hv225] at wv225
      have tv225 := congrArg Int32.toInt hv225
      have x226 := HI.eqA hI0 (p := 233) (j := 4) (hv225)
      obtain ⟨v227, hv227⟩ : ∃ v, eA g0 233 5 = v := ⟨_, rfl⟩
      have wv227 := HI.t5 hI0
      rw [hv227] at wv227
      have tv227 := congrArg Int32.toInt hv227
      have x228 := HI.eqA hI0 (p := 233) (j := 5) (hv227)
      obtain ⟨v229, hv229⟩ : ∃ v, eA g0 233 6 = v := ⟨_, rfl⟩
      have wv229 := HI.t6 hI0
      rw [hv229] at wv229
      have tv229 := congrArg Int32.toInt hv229
      have x230 := HI.eqA hI0 (p := 233) (j := 6) (hv229)
      obtain ⟨v231, hv231⟩ : ∃ v, eA g0 233 2 = v := ⟨_, rfl⟩
      have tv231 := congrArg Int32.toInt hv231
      have wv231 := HI.t2 hI0
      rw [hv231] at wv231
      have tv231 := congrArg Int32.toInt hv231
      have x232 := HI.eqA hI0 (p := 233) (j := 2) (hv231)
      obtain ⟨v233, hv233⟩ : ∃ v, eA g0 233 3 = v := ⟨_, rfl⟩
      have wv233 := HI.t3 hI0
      rw [hv233] at wv233
      have tv233 := congrArg Int32.toInt hv233
      have x234 := HI.eqA hI0 (p := 233) (j := 3) (hv233)
      obtain ⟨v235, hv235⟩ : ∃ v, eA g0 234 0 = v := ⟨_, rfl⟩
      have tv235 := congrArg Int32.toInt hv235
      have x236 := HI.eqA hI0 (p := 234) (j := 0) (hv235)
      obtain ⟨v237, hv237⟩ : ∃ v, eA g0 234 4 = v := ⟨_, rfl⟩
      have tv237 := congrArg Int32.toInt hv237
      have x238 := HI.eqA hI0 (p := 234) (j := 4) (hv237)
      obtain ⟨v239, hv239⟩ : ∃ v, eA g0 234 5 = v := ⟨_, rfl⟩
      have tv239 := congrArg Int32.toInt hv239
      have x240 := HI.eqA hI0 (p := 234) (j := 5) (hv239)
      obtain ⟨v241, hv241⟩ : ∃ v, eA g0 234 6 = v := ⟨_, rfl⟩
      have tv241 := congrArg Int32.toInt hv241
      have x242 := HI.eqA hI0 (p := 234) (j := 6) (hv241)
      obtain ⟨v243, hv243⟩ : ∃ v, eA g0 234 2 = v := ⟨_, rfl⟩
      have tv243 := congrArg Int32.toInt hv243
      have x244 := HI.eqA hI0 (p := 234) (j := 2) (hv243)
      obtain ⟨v245, hv245⟩ : ∃ v, eA g0 234 3 = v := ⟨_, rfl⟩
      have tv245 := congrArg Int32.toInt hv245
      have x246 := HI.eqA hI0 (p := 234) (j := 3) (hv245)
      obtain ⟨v247, hv247⟩ : ∃ v, eA g0 234 5510 = v := ⟨_, rfl⟩
      have tv247 := congrArg Int32.toInt hv247
      have x248 := HI.eqA hI0 (p := 234) (j := 5510) (hv247)
      obtain ⟨v249, hv249⟩ : ∃ v, eA g0 234 5514 = v := ⟨_, rfl⟩
      have tv249 := congrArg Int32.toInt hv249
      have x250 := HI.eqA hI0 (p := 234) (j := 5514) (hv249)
      obtain ⟨v251, hv251⟩ : ∃ v, eA g0 234 5515 = v := ⟨_, rfl⟩
      have tv251 := congrArg Int32.toInt hv251
      have x252 := HI.eqA hI0 (p := 234) (j := 5515) (hv251)
      obtain ⟨v253, hv253⟩ : ∃ v, eA g0 234 5516 = v := ⟨_, rfl⟩
      have tv253 := congrArg Int32.toInt hv253
      have x254 := HI.eqA hI0 (p := 234) (j := 5516) (hv253)
      obtain ⟨v255, hv255⟩ : ∃ v, eA g0 234 5512 = v := ⟨_, rfl⟩
      have tv255 := congrArg Int32.toInt hv255
      have x256 := HI.eqA hI0 (p := 234) (j := 5512) (hv255)
      obtain ⟨v257, hv257⟩ : ∃ v, eA g0 234 5513 = v := ⟨_, rfl⟩
      have tv257 := congrArg Int32.toInt hv257
      have x258 := HI.eqA hI0 (p := 234) (j := 5513) (hv257)
      obtain ⟨v259, hv259⟩ : ∃ v, eA g0 235 0 = v := ⟨_, rfl⟩
      have tv259 := congrArg Int32.toInt hv259
      have x260 := HI.eqA hI0 (p := 235) (j := 0) (hv259)
      obtain ⟨v261, hv261⟩ : ∃ v, eA g0 235 1 = v := ⟨_, rfl⟩
      have tv261 := congrArg Int32.toInt hv261
      have x262 := HI.eqA hI0 (p := 235) (j := 1) (hv261)
      obtain ⟨v263, hv263⟩ : ∃ v, eA ys204 234 0 = v := ⟨_, rfl⟩
      have tv263 := congrArg Int32.toInt hv263
      obtain ⟨v264, hv264⟩ : ∃ v, eA ys204 234 4 = v := ⟨_, rfl⟩
      have tv264 := congrArg Int32.toInt hv264
      obtain ⟨v265, hv265⟩ : ∃ v, eA ys204 234 5 = v := ⟨_, rfl⟩
      have tv265 := congrArg Int32.toInt hv265
      obtain ⟨v266, hv266⟩ : ∃ v, eA ys204 234 6 = v := ⟨_, rfl⟩
      have tv266 := congrArg Int32.toInt hv266
      obtain ⟨v267, hv267⟩ : ∃ v, eA ys204 234 2 = v := ⟨_, rfl⟩
      have tv267 := congrArg Int32.toInt hv267
      obtain ⟨v268, hv268⟩ : ∃ v, eA ys204 234 3 = v := ⟨_, rfl⟩
      have tv268 := congrArg Int32.toInt hv268
      obtain ⟨v269, hv269⟩ : ∃ v, eA ys204 234 5510 = v := ⟨_, rfl⟩
      have tv269 := congrArg Int32.toInt hv269
      obtain ⟨v270, hv270⟩ : ∃ v, eA ys204 234 5514 = v := ⟨_, rfl⟩
      have tv270 := congrArg Int32.toInt hv270
      obtain ⟨v271, hv271⟩ : ∃ v, eA ys204 234 5515 = v := ⟨_, rfl⟩
      have tv271 := congrArg Int32.toInt hv271
      obtain ⟨v272, hv272⟩ : ∃ v, eA ys204 234 5516 = v := ⟨_, rfl⟩
      have tv272 := congrArg Int32.toInt hv272
      obtain ⟨v273, hv273⟩ : ∃ v, eA ys204 234 5512 = v := ⟨_, rfl⟩
      have tv273 := congrArg Int32.toInt hv273
      obtain ⟨v274, hv274⟩ : ∃ v, eA ys204 234 5513 = v := ⟨_, rfl⟩
      have tv274 := congrArg Int32.toInt hv274
      have zv275 : (1 : Int32).toInt = 1 := rfl
      have zv276 : (1 : Int32).toInt = 1 := rfl
      exact ⟨_, rfl, hI217, hF221, _, rfl, by omega, ⟨(fun e => by have z0 := HI.eqA hI217 (p := 234) (j := 0) ((((eA_c (hF218.2.1 234 ma_X11_tell_231_234)).trans (eA_c (gA_sA_ne (by decide)))).trans hv263)); have z1 := HI.eqA hI217 (p := 234) (j := 4) ((((eA_c (hF218.2.1 234 ma_X11_tell_231_234)).trans (eA_c (gA_sA_ne (by decide)))).trans hv264)); have z2 := HI.eqA hI217 (p := 234) (j := 5) ((((eA_c (hF218.2.1 234 ma_X11_tell_231_234)).trans (eA_c (gA_sA_ne (by decide)))).trans hv265)); have z3 := HI.eqA hI217 (p := 234) (j := 6) ((((eA_c (hF218.2.1 234 ma_X11_tell_231_234)).trans (eA_c (gA_sA_ne (by decide)))).trans hv266)); have z4 := HI.eqA hI217 (p := 234) (j := 2) ((((eA_c (hF218.2.1 234 ma_X11_tell_231_234)).trans (eA_c (gA_sA_ne (by decide)))).trans hv267)); have z5 := HI.eqA hI217 (p := 234) (j := 3) ((((eA_c (hF218.2.1 234 ma_X11_tell_231_234)).trans (eA_c (gA_sA_ne (by decide)))).trans hv268)); have z6 := HI.eqA hI217 (p := 234) (j := 5510) ((((eA_c (hF218.2.1 234 ma_X11_tell_231_234)).trans (eA_c (gA_sA_ne (by decide)))).trans hv269)); have z7 := HI.eqA hI217 (p := 234) (j := 5514) ((((eA_c (hF218.2.1 234 ma_X11_tell_231_234)).trans (eA_c (gA_sA_ne (by decide)))).trans hv270)); have z8 := HI.eqA hI217 (p := 234) (j := 5515) ((((eA_c (hF218.2.1 234 ma_X11_tell_231_234)).trans (eA_c (gA_sA_ne (by decide)))).trans hv271)); have z9 := HI.eqA hI217 (p := 234) (j := 5516) ((((eA_c (hF218.2.1 234 ma_X11_tell_231_234)).trans (eA_c (gA_sA_ne (by decide)))).trans hv272)); have z10 := HI.eqA hI217 (p := 234) (j := 5512) ((((eA_c (hF218.2.1 234 ma_X11_tell_231_234)).trans (eA_c (gA_sA_ne (by decide)))).trans hv273)); have z11 := HI.eqA hI217 (p := 234) (j := 5513) ((((eA_c (hF218.2.1 234 ma_X11_tell_231_234)).trans (eA_c (gA_sA_ne (by decide)))).trans hv274)); have z12 := HI.eqA hI217 (p := 235) (j := 0) (((eA_c (hF218.2.1 235 ma_X11_tell_231_235)).trans (eA_sA_eq hI211.1 ka_235 (by omega) (by first | decide | omega) (by first | decide | omega)))); have z13 := HI.eqA hI217 (p := 235) (j := 1) ((((eA_c (hF218.2.1 235 ma_X11_tell_231_235)).trans ((eA_sA_ne hI211.1 ka_235 (by first | decide | omega) (by first | decide | omega) (by first | decide | omega)).trans ((eA_c (hl206.2.1 235 (by decide))).trans (eA_c gA_sI)))).trans hv261)); have z14 := (show (eA ys204 234 0).toInt = (eA g0 233 0).toInt from by have z := hc207 0 (by decide) (by decide); rw [show 5510 * a1.toInt + 0 = 0 by omega, eA_c (gA_sI)] at z; exact congrArg Int32.toInt z); have z15 := (show (eA ys204 234 5510).toInt = (eA g0 234 5510).toInt from by have z := hf208 5510 (by decide) (by omega); rw [eA_c (gA_sI)] at z; exact congrArg Int32.toInt z); have z16 := (show (eA ys204 234 4).toInt = (eA g0 233 4).toInt from by have z := hc207 4 (by decide) (by decide); rw [show 5510 * a1.toInt + 4 = 4 by omega, eA_c (gA_sI)] at z; exact congrArg Int32.toInt z); have z17 := (show (eA ys204 234 5514).toInt = (eA g0 234 5514).toInt from by have z := hf208 5514 (by decide) (by omega); rw [eA_c (gA_sI)] at z; exact congrArg Int32.toInt z); have z18 := (show (eA ys204 234 5).toInt = (eA g0 233 5).toInt from by have z := hc207 5 (by decide) (by decide); rw [show 5510 * a1.toInt + 5 = 5 by omega, eA_c (gA_sI)] at z; exact congrArg Int32.toInt z); have z19 := (show (eA ys204 234 5515).toInt = (eA g0 234 5515).toInt from by have z := hf208 5515 (by decide) (by omega); rw [eA_c (gA_sI)] at z; exact congrArg Int32.toInt z); have z20 := (show (eA ys204 234 6).toInt = (eA g0 233 6).toInt from by have z := hc207 6 (by decide) (by decide); rw [show 5510 * a1.toInt + 6 = 6 by omega, eA_c (gA_sI)] at z; exact congrArg Int32.toInt z); have z21 := (show (eA ys204 234 5516).toInt = (eA g0 234 5516).toInt from by have z := hf208 5516 (by decide) (by omega); rw [eA_c (gA_sI)] at z; exact congrArg Int32.toInt z); have z22 := (show (eA ys204 234 2).toInt = (eA g0 233 2).toInt from by have z := hc207 2 (by decide) (by decide); rw [show 5510 * a1.toInt + 2 = 2 by omega, eA_c (gA_sI)] at z; exact congrArg Int32.toInt z); have z23 := (show (eA ys204 234 5512).toInt = (eA g0 234 5512).toInt from by have z := hf208 5512 (by decide) (by omega); rw [eA_c (gA_sI)] at z; exact congrArg Int32.toInt z); have z24 := (show (eA ys204 234 3).toInt = (eA g0 233 3).toInt from by have z := hc207 3 (by decide) (by decide); rw [show 5510 * a1.toInt + 3 = 3 by omega, eA_c (gA_sI)] at z; exact congrArg Int32.toInt z); have z25 := (show (eA ys204 234 5513).toInt = (eA g0 234 5513).toInt from by have z := hf208 5513 (by decide) (by omega); rw [eA_c (gA_sI)] at z; exact congrArg Int32.toInt z); omega), (fun e_ => by have e : a1.toInt = 1 := (by omega); have z0 := HI.eqA hI217 (p := 234) (j := 0) ((((eA_c (hF218.2.1 234 ma_X11_tell_231_234)).trans (eA_c (gA_sA_ne (by decide)))).trans hv263)); have z1 := HI.eqA hI217 (p := 234) (j := 4) ((((eA_c (hF218.2.1 234 ma_X11_tell_231_234)).trans (eA_c (gA_sA_ne (by decide)))).trans hv264)); have z2 := HI.eqA hI217 (p := 234) (j := 5) ((((eA_c (hF218.2.1 234 ma_X11_tell_231_234)).trans (eA_c (gA_sA_ne (by decide)))).trans hv265)); have z3 := HI.eqA hI217 (p := 234) (j := 6) ((((eA_c (hF218.2.1 234 ma_X11_tell_231_234)).trans (eA_c (gA_sA_ne (by decide)))).trans hv266)); have z4 := HI.eqA hI217 (p := 234) (j := 2) ((((eA_c (hF218.2.1 234 ma_X11_tell_231_234)).trans (eA_c (gA_sA_ne (by decide)))).trans hv267)); have z5 := HI.eqA hI217 (p := 234) (j := 3) ((((eA_c (hF218.2.1 234 ma_X11_tell_231_234)).trans (eA_c (gA_sA_ne (by decide)))).trans hv268)); have z6 := HI.eqA hI217 (p := 234) (j := 5510) ((((eA_c (hF218.2.1 234 ma_X11_tell_231_234)).trans (eA_c (gA_sA_ne (by decide)))).trans hv269)); have z7 := HI.eqA hI217 (p := 234) (j := 5514) ((((eA_c (hF218.2.1 234 ma_X11_tell_231_234)).trans (eA_c (gA_sA_ne (by decide)))).trans hv270)); have z8 := HI.eqA hI217 (p := 234) (j := 5515) ((((eA_c (hF218.2.1 234 ma_X11_tell_231_234)).trans (eA_c (gA_sA_ne (by decide)))).trans hv271)); have z9 := HI.eqA hI217 (p := 234) (j := 5516) ((((eA_c (hF218.2.1 234 ma_X11_tell_231_234)).trans (eA_c (gA_sA_ne (by decide)))).trans hv272)); have z10 := HI.eqA hI217 (p := 234) (j := 5512) ((((eA_c (hF218.2.1 234 ma_X11_tell_231_234)).trans (eA_c (gA_sA_ne (by decide)))).trans hv273)); have z11 := HI.eqA hI217 (p := 234) (j := 5513) ((((eA_c (hF218.2.1 234 ma_X11_tell_231_234)).trans (eA_c (gA_sA_ne (by decide)))).trans hv274)); have z12 := HI.eqA hI217 (p := 235) (j := 0) ((((eA_c (hF218.2.1 235 ma_X11_tell_231_235)).trans ((eA_sA_ne hI211.1 ka_235 (by first | decide | omega) (by first | decide | omega) (by first | decide | omega)).trans ((eA_c (hl206.2.1 235 (by decide))).trans (eA_c gA_sI)))).trans hv259)); have z13 := HI.eqA hI217 (p := 235) (j := 1) (((eA_c (hF218.2.1 235 ma_X11_tell_231_235)).trans (eA_sA_eq hI211.1 ka_235 (by omega) (by first | decide | omega) (by first | decide | omega)))); have z14 := (show (eA ys204 234 5510).toInt = (eA g0 233 0).toInt from by have z := hc207 0 (by decide) (by decide); rw [show 5510 * a1.toInt + 0 = 5510 by omega, eA_c (gA_sI)] at z; exact congrArg Int32.toInt z); have z15 := (show (eA ys204 234 0).toInt = (eA g0 234 0).toInt from by have z := hf208 0 (by decide) (by omega); rw [eA_c (gA_sI)] at z; exact congrArg Int32.toInt z); have z16 := (show (eA ys204 234 5514).toInt = (eA g0 233 4).toInt from by have z := hc207 4 (by decide) (by decide); rw [show 5510 * a1.toInt + 4 = 5514 by omega, eA_c (gA_sI)] at z; exact congrArg Int32.toInt z); have z17 := (show (eA ys204 234 4).toInt = (eA g0 234 4).toInt from by have z := hf208 4 (by decide) (by omega); rw [eA_c (gA_sI)] at z; exact congrArg Int32.toInt z); have z18 := (show (eA ys204 234 5515).toInt = (eA g0 233 5).toInt from by have z := hc207 5 (by decide) (by decide); rw [show 5510 * a1.toInt + 5 = 5515 by omega, eA_c (gA_sI)] at z; exact congrArg Int32.toInt z); have z19 := (show (eA ys204 234 5).toInt = (eA g0 234 5).toInt from by have z := hf208 5 (by decide) (by omega); rw [eA_c (gA_sI)] at z; exact congrArg Int32.toInt z); have z20 := (show (eA ys204 234 5516).toInt = (eA g0 233 6).toInt from by have z := hc207 6 (by decide) (by decide); rw [show 5510 * a1.toInt + 6 = 5516 by omega, eA_c (gA_sI)] at z; exact congrArg Int32.toInt z); have z21 := (show (eA ys204 234 6).toInt = (eA g0 234 6).toInt from by have z := hf208 6 (by decide) (by omega); rw [eA_c (gA_sI)] at z; exact congrArg Int32.toInt z); have z22 := (show (eA ys204 234 5512).toInt = (eA g0 233 2).toInt from by have z := hc207 2 (by decide) (by decide); rw [show 5510 * a1.toInt + 2 = 5512 by omega, eA_c (gA_sI)] at z; exact congrArg Int32.toInt z); have z23 := (show (eA ys204 234 2).toInt = (eA g0 234 2).toInt from by have z := hf208 2 (by decide) (by omega); rw [eA_c (gA_sI)] at z; exact congrArg Int32.toInt z); have z24 := (show (eA ys204 234 5513).toInt = (eA g0 233 3).toInt from by have z := hc207 3 (by decide) (by decide); rw [show 5510 * a1.toInt + 3 = 5513 by omega, eA_c (gA_sI)] at z; exact congrArg Int32.toInt z); have z25 := (show (eA ys204 234 3).toInt = (eA g0 234 3).toInt from by have z := hf208 3 (by decide) (by omega); rw [eA_c (gA_sI)] at z; exact congrArg Int32.toInt z); omega), (fun e => by have z0 := HI.eqA hI217 (p := 234) (j := 0) ((((eA_c (hF218.2.1 234 ma_X11_tell_231_234)).trans (eA_c (gA_sA_ne (by decide)))).trans hv263)); have z1 := HI.eqA hI217 (p := 234) (j := 4) ((((eA_c (hF218.2.1 234 ma_X11_tell_231_234)).trans (eA_c (gA_sA_ne (by decide)))).trans hv264)); have z2 := HI.eqA hI217 (p := 234) (j := 5) ((((eA_c (hF218.2.1 234 ma_X11_tell_231_234)).trans (eA_c (gA_sA_ne (by decide)))).trans hv265)); have z3 := HI.eqA hI217 (p := 234) (j := 6) ((((eA_c (hF218.2.1 234 ma_X11_tell_231_234)).trans (eA_c (gA_sA_ne (by decide)))).trans hv266)); have z4 := HI.eqA hI217 (p := 234) (j := 2) ((((eA_c (hF218.2.1 234 ma_X11_tell_231_234)).trans (eA_c (gA_sA_ne (by decide)))).trans hv267)); have z5 := HI.eqA hI217 (p := 234) (j := 3) ((((eA_c (hF218.2.1 234 ma_X11_tell_231_234)).trans (eA_c (gA_sA_ne (by decide)))).trans hv268)); have z6 := HI.eqA hI217 (p := 234) (j := 5510) ((((eA_c (hF218.2.1 234 ma_X11_tell_231_234)).trans (eA_c (gA_sA_ne (by decide)))).trans hv269)); have z7 := HI.eqA hI217 (p := 234) (j := 5514) ((((eA_c (hF218.2.1 234 ma_X11_tell_231_234)).trans (eA_c (gA_sA_ne (by decide)))).trans hv270)); have z8 := HI.eqA hI217 (p := 234) (j := 5515) ((((eA_c (hF218.2.1 234 ma_X11_tell_231_234)).trans (eA_c (gA_sA_ne (by decide)))).trans hv271)); have z9 := HI.eqA hI217 (p := 234) (j := 5516) ((((eA_c (hF218.2.1 234 ma_X11_tell_231_234)).trans (eA_c (gA_sA_ne (by decide)))).trans hv272)); have z10 := HI.eqA hI217 (p := 234) (j := 5512) ((((eA_c (hF218.2.1 234 ma_X11_tell_231_234)).trans (eA_c (gA_sA_ne (by decide)))).trans hv273)); have z11 := HI.eqA hI217 (p := 234) (j := 5513) ((((eA_c (hF218.2.1 234 ma_X11_tell_231_234)).trans (eA_c (gA_sA_ne (by decide)))).trans hv274)); have z12 := HI.eqA hI217 (p := 235) (j := 0) ((((eA_c (hF218.2.1 235 ma_X11_tell_231_235)).trans ((eA_sA_ne hI211.1 ka_235 (by first | decide | omega) (by first | decide | omega) (by first | decide | omega)).trans ((eA_c (hl206.2.1 235 (by decide))).trans (eA_c gA_sI)))).trans hv259)); have z13 := HI.eqA hI217 (p := 235) (j := 1) (((eA_c (hF218.2.1 235 ma_X11_tell_231_235)).trans (eA_sA_eq hI211.1 ka_235 (by omega) (by first | decide | omega) (by first | decide | omega)))); have z14 := (show (eA ys204 234 5510).toInt = (eA g0 233 0).toInt from by have z := hc207 0 (by decide) (by decide); rw [show 5510 * a1.toInt + 0 = 5510 by omega, eA_c (gA_sI)] at z; exact congrArg Int32.toInt z); have z15 := (show (eA ys204 234 0).toInt = (eA g0 234 0).toInt from by have z := hf208 0 (by decide) (by omega); rw [eA_c (gA_sI)] at z; exact congrArg Int32.toInt z); have z16 := (show (eA ys204 234 5514).toInt = (eA g0 233 4).toInt from by have z := hc207 4 (by decide) (by decide); rw [show 5510 * a1.toInt + 4 = 5514 by omega, eA_c (gA_sI)] at z; exact congrArg Int32.toInt z); have z17 := (show (eA ys204 234 4).toInt = (eA g0 234 4).toInt from by have z := hf208 4 (by decide) (by omega); rw [eA_c (gA_sI)] at z; exact congrArg Int32.toInt z); have z18 := (show (eA ys204 234 5515).toInt = (eA g0 233 5).toInt from by have z := hc207 5 (by decide) (by decide); rw [show 5510 * a1.toInt + 5 = 5515 by omega, eA_c (gA_sI)] at z; exact congrArg Int32.toInt z); have z19 := (show (eA ys204 234 5).toInt = (eA g0 234 5).toInt from by have z := hf208 5 (by decide) (by omega); rw [eA_c (gA_sI)] at z; exact congrArg Int32.toInt z); have z20 := (show (eA ys204 234 5516).toInt = (eA g0 233 6).toInt from by have z := hc207 6 (by decide) (by decide); rw [show 5510 * a1.toInt + 6 = 5516 by omega, eA_c (gA_sI)] at z; exact congrArg Int32.toInt z); have z21 := (show (eA ys204 234 6).toInt = (eA g0 234 6).toInt from by have z := hf208 6 (by decide) (by omega); rw [eA_c (gA_sI)] at z; exact congrArg Int32.toInt z); have z22 := (show (eA ys204 234 5512).toInt = (eA g0 233 2).toInt from by have z := hc207 2 (by decide) (by decide); rw [show 5510 * a1.toInt + 2 = 5512 by omega, eA_c (gA_sI)] at z; exact congrArg Int32.toInt z); have z23 := (show (eA ys204 234 2).toInt = (eA g0 234 2).toInt from by have z := hf208 2 (by decide) (by omega); rw [eA_c (gA_sI)] at z; exact congrArg Int32.toInt z); have z24 := (show (eA ys204 234 5513).toInt = (eA g0 233 3).toInt from by have z := hc207 3 (by decide) (by decide); rw [show 5510 * a1.toInt + 3 = 5513 by omega, eA_c (gA_sI)] at z; exact congrArg Int32.toInt z); have z25 := (show (eA ys204 234 3).toInt = (eA g0 234 3).toInt from by have z := hf208 3 (by decide) (by omega); rw [eA_c (gA_sI)] at z; exact congrArg Int32.toInt z); omega), (fun e_ => by have e : a1.toInt = 0 := (by omega); have z0 := HI.eqA hI217 (p := 234) (j := 0) ((((eA_c (hF218.2.1 234 ma_X11_tell_231_234)).trans (eA_c (gA_sA_ne (by decide)))).trans hv263)); have z1 := HI.eqA hI217 (p := 234) (j := 4) ((((eA_c (hF218.2.1 234 ma_X11_tell_231_234)).trans (eA_c (gA_sA_ne (by decide)))).trans hv264)); have z2 := HI.eqA hI217 (p := 234) (j := 5) ((((eA_c (hF218.2.1 234 ma_X11_tell_231_234)).trans (eA_c (gA_sA_ne (by decide)))).trans hv265)); have z3 := HI.eqA hI217 (p := 234) (j := 6) ((((eA_c (hF218.2.1 234 ma_X11_tell_231_234)).trans (eA_c (gA_sA_ne (by decide)))).trans hv266)); have z4 := HI.eqA hI217 (p := 234) (j := 2) ((((eA_c (hF218.2.1 234 ma_X11_tell_231_234)).trans (eA_c (gA_sA_ne (by decide)))).trans hv267)); have z5 := HI.eqA hI217 (p := 234) (j := 3) ((((eA_c (hF218.2.1 234 ma_X11_tell_231_234)).trans (eA_c (gA_sA_ne (by decide)))).trans hv268)); have z6 := HI.eqA hI217 (p := 234) (j := 5510) ((((eA_c (hF218.2.1 234 ma_X11_tell_231_234)).trans (eA_c (gA_sA_ne (by decide)))).trans hv269)); have z7 := HI.eqA hI217 (p := 234) (j := 5514) ((((eA_c (hF218.2.1 234 ma_X11_tell_231_234)).trans (eA_c (gA_sA_ne (by decide)))).trans hv270)); have z8 := HI.eqA hI217 (p := 234) (j := 5515) ((((eA_c (hF218.2.1 234 ma_X11_tell_231_234)).trans (eA_c (gA_sA_ne (by decide)))).trans hv271)); have z9 := HI.eqA hI217 (p := 234) (j := 5516) ((((eA_c (hF218.2.1 234 ma_X11_tell_231_234)).trans (eA_c (gA_sA_ne (by decide)))).trans hv272)); have z10 := HI.eqA hI217 (p := 234) (j := 5512) ((((eA_c (hF218.2.1 234 ma_X11_tell_231_234)).trans (eA_c (gA_sA_ne (by decide)))).trans hv273)); have z11 := HI.eqA hI217 (p := 234) (j := 5513) ((((eA_c (hF218.2.1 234 ma_X11_tell_231_234)).trans (eA_c (gA_sA_ne (by decide)))).trans hv274)); have z12 := HI.eqA hI217 (p := 235) (j := 0) (((eA_c (hF218.2.1 235 ma_X11_tell_231_235)).trans (eA_sA_eq hI211.1 ka_235 (by omega) (by first | decide | omega) (by first | decide | omega)))); have z13 := HI.eqA hI217 (p := 235) (j := 1) ((((eA_c (hF218.2.1 235 ma_X11_tell_231_235)).trans ((eA_sA_ne hI211.1 ka_235 (by first | decide | omega) (by first | decide | omega) (by first | decide | omega)).trans ((eA_c (hl206.2.1 235 (by decide))).trans (eA_c gA_sI)))).trans hv261)); have z14 := (show (eA ys204 234 0).toInt = (eA g0 233 0).toInt from by have z := hc207 0 (by decide) (by decide); rw [show 5510 * a1.toInt + 0 = 0 by omega, eA_c (gA_sI)] at z; exact congrArg Int32.toInt z); have z15 := (show (eA ys204 234 5510).toInt = (eA g0 234 5510).toInt from by have z := hf208 5510 (by decide) (by omega); rw [eA_c (gA_sI)] at z; exact congrArg Int32.toInt z); have z16 := (show (eA ys204 234 4).toInt = (eA g0 233 4).toInt from by have z := hc207 4 (by decide) (by decide); rw [show 5510 * a1.toInt + 4 = 4 by omega, eA_c (gA_sI)] at z; exact congrArg Int32.toInt z); have z17 := (show (eA ys204 234 5514).toInt = (eA g0 234 5514).toInt from by have z := hf208 5514 (by decide) (by omega); rw [eA_c (gA_sI)] at z; exact congrArg Int32.toInt z); have z18 := (show (eA ys204 234 5).toInt = (eA g0 233 5).toInt from by have z := hc207 5 (by decide) (by decide); rw [show 5510 * a1.toInt + 5 = 5 by omega, eA_c (gA_sI)] at z; exact congrArg Int32.toInt z); have z19 := (show (eA ys204 234 5515).toInt = (eA g0 234 5515).toInt from by have z := hf208 5515 (by decide) (by omega); rw [eA_c (gA_sI)] at z; exact congrArg Int32.toInt z); have z20 := (show (eA ys204 234 6).toInt = (eA g0 233 6).toInt from by have z := hc207 6 (by decide) (by decide); rw [show 5510 * a1.toInt + 6 = 6 by omega, eA_c (gA_sI)] at z; exact congrArg Int32.toInt z); have z21 := (show (eA ys204 234 5516).toInt = (eA g0 234 5516).toInt from by have z := hf208 5516 (by decide) (by omega); rw [eA_c (gA_sI)] at z; exact congrArg Int32.toInt z); have z22 := (show (eA ys204 234 2).toInt = (eA g0 233 2).toInt from by have z := hc207 2 (by decide) (by decide); rw [show 5510 * a1.toInt + 2 = 2 by omega, eA_c (gA_sI)] at z; exact congrArg Int32.toInt z); have z23 := (show (eA ys204 234 5512).toInt = (eA g0 234 5512).toInt from by have z := hf208 5512 (by decide) (by omega); rw [eA_c (gA_sI)] at z; exact congrArg Int32.toInt z); have z24 := (show (eA ys204 234 3).toInt = (eA g0 233 3).toInt from by have z := hc207 3 (by decide) (by decide); rw [show 5510 * a1.toInt + 3 = 3 by omega, eA_c (gA_sI)] at z; exact congrArg Int32.toInt z); have z25 := (show (eA ys204 234 5513).toInt = (eA g0 234 5513).toInt from by have z := hf208 5513 (by decide) (by omega); rw [eA_c (gA_sI)] at z; exact congrArg Int32.toInt z); omega), by omega⟩⟩
