def F_X11_back_231 : List (Nat × Nat) := [(231, 0), (231, 1)]
def A_X11_back_231 : List Nat := [232, 233]
set_option maxRecDepth 100000 in
set_option maxHeartbeats 4000000 in
theorem T_X11_back_231 (d : Nat) {N : Nat} {g0 : List en_E} (hI0 : HI g0) (a1 : Int32) : Ev (d + 2) 166 [.ref 231, .int a1] (g0, N) (fun w h' => ∃ g', h' = (g', N) ∧ HI g' ∧ Fr F_X11_back_231 A_X11_back_231 g0 g' ∧ ∃ r : Int32, w = some (.int r) ∧ ((-2) ≤ r.toInt ∧ r.toInt ≤ 0) ∧ ((a1.toInt = 0 ∧ (eA g0 235 0).toInt ≠ 0 → r.toInt = 0 ∧ (eA g' 233 0).toInt = (eA g0 234 0).toInt ∧ (eA g' 233 4).toInt = (eA g0 234 4).toInt ∧ (eA g' 233 5).toInt = (eA g0 234 5).toInt ∧ (eA g' 233 6).toInt = (eA g0 234 6).toInt ∧ (eA g' 233 2).toInt = (eA g0 234 2).toInt ∧ (eA g' 233 3).toInt = (eA g0 234 3).toInt) ∧ (a1.toInt = 1 ∧ (eA g0 235 1).toInt ≠ 0 → r.toInt = 0 ∧ (eA g' 233 0).toInt = (eA g0 234 5510).toInt ∧ (eA g' 233 4).toInt = (eA g0 234 5514).toInt ∧ (eA g' 233 5).toInt = (eA g0 234 5515).toInt ∧ (eA g' 233 6).toInt = (eA g0 234 5516).toInt ∧ (eA g' 233 2).toInt = (eA g0 234 5512).toInt ∧ (eA g' 233 3).toInt = (eA g0 234 5513).toInt) ∧ (¬ (a1.toInt = 0 ∧ (eA g0 235 0).toInt ≠ 0) ∧ ¬ (a1.toInt = 1 ∧ (eA g0 235 1).toInt ≠ 0) → (eA g' 233 0).toInt = (eA g0 233 0).toInt ∧ (eA g' 233 4).toInt = (eA g0 233 4).toInt ∧ (eA g' 233 5).toInt = (eA g0 233 5).toInt ∧ (eA g' 233 6).toInt = (eA g0 233 6).toInt ∧ (eA g' 233 2).toInt = (eA g0 233 2).toInt ∧ (eA g' 233 3).toInt = (eA g0 233 3).toInt) ∧ (a1.toInt < 0 ∨ 1 < a1.toInt → r.toInt = -1) ∧ (0 ≤ a1.toInt ∧ a1.toInt ≤ 1 ∧ ¬ (a1.toInt = 0 ∧ (eA g0 235 0).toInt ≠ 0) ∧ ¬ (a1.toInt = 1 ∧ (eA g0 235 1).toInt ≠ 0) → r.toInt = -2))) := by
  have hF0 : Fr F_X11_back_231 A_X11_back_231 g0 g0 := Fr.rf
  refine Ev.mk rfl rfl ⟨Nat.le_of_ble_eq_true rfl, Or.inr (q_rc hI0.1 kx_231 rfl)⟩ ?_
  show At _ none _ _ (0, [(0, .ref 231), (1, .int a1)], [], (_, _)) _
  refine At.enter rfl ?_
  refine r_aload_n rfl ?_
  refine r_iconst 0 rfl ?_
  refine q_putI (Sh.int hI0.1 kx_231 rfl) rfl ?_
  have hI91 := HI.wI0 hI0 kx_231 rfl (p := 231) (b := 0) (v := 0) rfl
  have hF92 := Fr.wI (p := 231) (b := 0) (v := 0) hF0 rfl
  refine r_iload_n rfl ?_
  refine q_i2l (fun v93 hv93 => ?_)
  refine r_lconst 0 rfl ?_
  refine r_lconst 1 rfl ?_
  refine q_inlS 12 rfl [.long v93, .long 0, .long 1] [] (Nat.le_of_ble_eq_true rfl) rfl ?_
  refine Ev.mk rfl rfl ⟨Nat.le_of_ble_eq_true rfl, Or.inl rfl⟩ ?_
  show At _ none _ _ (0, [(0, .long v93), (2, .long 0), (4, .long 1)], [], (_, _)) _
  refine At.enter rfl ?_
  refine r_lload_n rfl ?_
  refine r_lload_n rfl ?_
  refine r_lcmp _ rfl ?_
  refine r_ifs 6 rfl (fun c94 => ?_) (fun c94 => ?_)
  · have c94_ : v93.toInt < 0 := en_j_lt_t c94
    refine At.enter rfl ?_
    refine r_iconst 0 rfl ?_
    refine Ar.fall 18 rfl ?_
    refine At.enter rfl ?_
    refine q_iretz (by decide) ?_
    refine At.enter rfl ?_
    refine r_iff 15 rfl (by decide) ?_
    refine At.enter rfl ?_
    refine r_aload_n rfl ?_
    refine r_iconst (-1) rfl ?_
    refine r_callV 20 rfl [.ref 231, .int (-1)] [] (Nat.le_of_ble_eq_true rfl) rfl (T_X11_tell_231 _ hI91 (-1) (by decide)) ?_
    rintro _ _ ⟨g95, rfl, hI96, hF97, v98, rfl, hr99⟩
    refine At.sti ?_
    have hF100 := Fr.tr hF92 hF97 rfl rfl
    have zv101 : ((-1) : Int32).toInt = (-1) := rfl
    refine At.enter rfl ?_
    refine r_ireti ?_
    obtain ⟨v102, hv102⟩ : ∃ v, eA g0 233 0 = v := ⟨_, rfl⟩
    have tv102 := congrArg Int32.toInt hv102
    have wv102 := HI.t0 hI0
    rw [hv102] at wv102
    have tv102 := congrArg Int32.toInt hv102
    have x103 := HI.eqA hI0 (p := 233) (j := 0) (hv102)
    obtain ⟨v104, hv104⟩ : ∃ v, eA g0 233 4 = v := ⟨_, rfl⟩
    have wv104 := HI.t4 hI0
    rw [hv104] at wv104
    have tv104 := congrArg Int32.toInt hv104
    have x105 := HI.eqA hI0 (p := 233) (j := 4) (hv104)
    obtain ⟨v106, hv106⟩ : ∃ v, eA g0 233 5 = v := ⟨_, rfl⟩
    have wv106 := HI.t5 hI0
    rw [hv106] at wv106
    have tv106 := congrArg Int32.toInt hv106
    have x107 := HI.eqA hI0 (p := 233) (j := 5) (hv106)
    obtain ⟨v108, hv108⟩ : ∃ v, eA g0 233 6 = v := ⟨_, rfl⟩
    have wv108 := HI.t6 hI0
    rw [hv108] at wv108
    have tv108 := congrArg Int32.toInt hv108
    have x109 := HI.eqA hI0 (p := 233) (j := 6) (hv108)
    obtain ⟨v110, hv110⟩ : ∃ v, eA g0 233 2 = v := ⟨_, rfl⟩
    have tv110 := congrArg Int32.toInt hv110
    have wv110 := HI.t2 hI0
    rw [hv110] at wv110
    have tv110 := congrArg Int32.toInt hv110
    have x111 := HI.eqA hI0 (p := 233) (j := 2) (hv110)
    obtain ⟨v112, hv112⟩ : ∃ v, eA g0 233 3 = v := ⟨_, rfl⟩
    have wv112 := HI.t3 hI0
    rw [hv112] at wv112
    have tv112 := congrArg Int32.toInt hv112
    have x113 := HI.eqA hI0 (p := 233) (j := 3) (hv112)
    obtain ⟨v114, hv114⟩ : ∃ v, eA g0 234 0 = v := ⟨_, rfl⟩
    have tv114 := congrArg Int32.toInt hv114
    have x115 := HI.eqA hI0 (p := 234) (j := 0) (hv114)
    obtain ⟨v116, hv116⟩ : ∃ v, eA g0 234 4 = v := ⟨_, rfl⟩
    have tv116 := congrArg Int32.toInt hv116
    have x117 := HI.eqA hI0 (p := 234) (j := 4) (hv116)
    obtain ⟨v118, hv118⟩ : ∃ v, eA g0 234 5 = v := ⟨_, rfl⟩
    have tv118 := congrArg Int32.toInt hv118
    have x119 := HI.eqA hI0 (p := 234) (j := 5) (hv118)
    obtain ⟨v120, hv120⟩ : ∃ v, eA g0 234 6 = v := ⟨_, rfl⟩
    have tv120 := congrArg Int32.toInt hv120
    have x121 := HI.eqA hI0 (p := 234) (j := 6) (hv120)
    obtain ⟨v122, hv122⟩ : ∃ v, eA g0 234 2 = v := ⟨_, rfl⟩
    have tv122 := congrArg Int32.toInt hv122
    have x123 := HI.eqA hI0 (p := 234) (j := 2) (hv122)
    obtain ⟨v124, hv124⟩ : ∃ v, eA g0 234 3 = v := ⟨_, rfl⟩
    have tv124 := congrArg Int32.toInt hv124
    have x125 := HI.eqA hI0 (p := 234) (j := 3) (hv124)
    obtain ⟨v126, hv126⟩ : ∃ v, eA g0 234 5510 = v := ⟨_, rfl⟩
    have tv126 := congrArg Int32.toInt hv126
    have x127 := HI.eqA hI0 (p := 234) (j := 5510) (hv126)
    obtain ⟨v128, hv128⟩ : ∃ v, eA g0 234 5514 = v := ⟨_, rfl⟩
    have tv128 := congrArg Int32.toInt hv128
    have x129 := HI.eqA hI0 (p := 234) (j := 5514) (hv128)
    obtain ⟨v130, hv130⟩ : ∃ v, eA g0 234 5515 = v := ⟨_, rfl⟩
    have tv130 := congrArg Int32.toInt hv130
    have x131 := HI.eqA hI0 (p := 234) (j := 5515) (hv130)
    obtain ⟨v132, hv132⟩ : ∃ v, eA g0 234 5516 = v := ⟨_, rfl⟩
    have tv132 := congrArg Int32.toInt hv132
    have x133 := HI.eqA hI0 (p := 234) (j := 5516) (hv132)
    obtain ⟨v134, hv134⟩ : ∃ v, eA g0 234 5512 = v := ⟨_, rfl⟩
    have tv134 := congrArg Int32.toInt hv134
    have x135 := HI.eqA hI0 (p := 234) (j := 5512) (hv134)
    obtain ⟨v136, hv136⟩ : ∃ v, eA g0 234 5513 = v := ⟨_, rfl⟩
    have tv136 := congrArg Int32.toInt hv136
    have x137 := HI.eqA hI0 (p := 234) (j := 5513) (hv136)
    obtain ⟨v138, hv138⟩ : ∃ v, eA g0 235 0 = v := ⟨_, rfl⟩
    have tv138 := congrArg Int32.toInt hv138
    have x139 := HI.eqA hI0 (p := 235) (j := 0) (hv138)
    obtain ⟨v140, hv140⟩ : ∃ v, eA g0 235 1 = v := ⟨_, rfl⟩
    have tv140 := congrArg Int32.toInt hv140
    have x141 := HI.eqA hI0 (p := 235) (j := 1) (hv140)
    have x142 := HI.eqA hI96 (p := 233) (j := 0) ((((eA_c (hF97.2.1 233 ma_X11_tell_231_233)).trans (eA_c gA_sI)).trans hv102))
    have x143 := HI.eqA hI96 (p := 233) (j := 4) ((((eA_c (hF97.2.1 233 ma_X11_tell_231_233)).trans (eA_c gA_sI)).trans hv104))
    have x144 := HI.eqA hI96 (p := 233) (j := 5) ((((eA_c (hF97.2.1 233 ma_X11_tell_231_233)).trans (eA_c gA_sI)).trans hv106))
    have x145 := HI.eqA hI96 (p := 233) (j := 6) ((((eA_c (hF97.2.1 233 ma_X11_tell_231_233)).trans (eA_c gA_sI)).trans hv108))
    have x146 := HI.eqA hI96 (p := 233) (j := 2) ((((eA_c (hF97.2.1 233 ma_X11_tell_231_233)).trans (eA_c gA_sI)).trans hv110))
    have x147 := HI.eqA hI96 (p := 233) (j := 3) ((((eA_c (hF97.2.1 233 ma_X11_tell_231_233)).trans (eA_c gA_sI)).trans hv112))
    exact ⟨_, rfl, hI96, hF100, _, rfl, by omega, ⟨by omega, by omega, by omega, by omega, by omega⟩⟩
  · have c94_ : v93.toInt ≥ 0 := en_j_lt_f c94
    refine At.enter rfl ?_
    refine r_lload_n rfl ?_
    refine r_lload rfl ?_
    refine r_lcmp _ rfl ?_
    refine r_ifs 13 rfl (fun c148 => ?_) (fun c148 => ?_)
    · have c148_ : v93.toInt > 1 := en_j_gt_t c148
      refine At.enter rfl ?_
      refine r_iconst 0 rfl ?_
      refine Ar.fall 18 rfl ?_
      refine At.enter rfl ?_
      refine q_iretz (by decide) ?_
      refine At.enter rfl ?_
      refine r_iff 15 rfl (by decide) ?_
      refine At.enter rfl ?_
      refine r_aload_n rfl ?_
      refine r_iconst (-1) rfl ?_
      refine r_callV 20 rfl [.ref 231, .int (-1)] [] (Nat.le_of_ble_eq_true rfl) rfl (T_X11_tell_231 _ hI91 (-1) (by decide)) ?_
      rintro _ _ ⟨g149, rfl, hI150, hF151, v152, rfl, hr153⟩
      refine At.sti ?_
      have hF154 := Fr.tr hF92 hF151 rfl rfl
      have zv155 : ((-1) : Int32).toInt = (-1) := rfl
      refine At.enter rfl ?_
      refine r_ireti ?_
      obtain ⟨v156, hv156⟩ : ∃ v, eA g0 233 0 = v := ⟨_, rfl⟩
      have tv156 := congrArg Int32.toInt hv156
      have wv156 := HI.t0 hI0
      rw [hv156] at wv156
      have tv156 := congrArg Int32.toInt hv156
      have x157 := HI.eqA hI0 (p := 233) (j := 0) (hv156)
      obtain ⟨v158, hv158⟩ : ∃ v, eA g0 233 4 = v := ⟨_, rfl⟩
      have wv158 := HI.t4 hI0
      rw [hv158] at wv158
      have tv158 := congrArg Int32.toInt hv158
      have x159 := HI.eqA hI0 (p := 233) (j := 4) (hv158)
      obtain ⟨v160, hv160⟩ : ∃ v, eA g0 233 5 = v := ⟨_, rfl⟩
      have wv160 := HI.t5 hI0
      rw [hv160] at wv160
      have tv160 := congrArg Int32.toInt hv160
      have x161 := HI.eqA hI0 (p := 233) (j := 5) (hv160)
      obtain ⟨v162, hv162⟩ : ∃ v, eA g0 233 6 = v := ⟨_, rfl⟩
      have wv162 := HI.t6 hI0
      rw [hv162] at wv162
      have tv162 := congrArg Int32.toInt hv162
      have x163 := HI.eqA hI0 (p := 233) (j := 6) (hv162)
      obtain ⟨v164, hv164⟩ : ∃ v, eA g0 233 2 = v := ⟨_, rfl⟩
      have tv164 := congrArg Int32.toInt hv164
      have wv164 := HI.t2 hI0
      rw [hv164] at wv164
      have tv164 := congrArg Int32.toInt hv164
      have x165 := HI.eqA hI0 (p := 233) (j := 2) (hv164)
      obtain ⟨v166, hv166⟩ : ∃ v, eA g0 233 3 = v := ⟨_, rfl⟩
      have wv166 := HI.t3 hI0
      rw [hv166] at wv166
      have tv166 := congrArg Int32.toInt hv166
      have x167 := HI.eqA hI0 (p := 233) (j := 3) (hv166)
      obtain ⟨v168, hv168⟩ : ∃ v, eA g0 234 0 = v := ⟨_, rfl⟩
      have tv168 := congrArg Int32.toInt hv168
      have x169 := HI.eqA hI0 (p := 234) (j := 0) (hv168)
      obtain ⟨v170, hv170⟩ : ∃ v, eA g0 234 4 = v := ⟨_, rfl⟩
      have tv170 := congrArg Int32.toInt hv170
      have x171 := HI.eqA hI0 (p := 234) (j := 4) (hv170)
      obtain ⟨v172, hv172⟩ : ∃ v, eA g0 234 5 = v := ⟨_, rfl⟩
      have tv172 := congrArg Int32.toInt hv172
      have x173 := HI.eqA hI0 (p := 234) (j := 5) (hv172)
      obtain ⟨v174, hv174⟩ : ∃ v, eA g0 234 6 = v := ⟨_, rfl⟩
      have tv174 := congrArg Int32.toInt hv174
      have x175 := HI.eqA hI0 (p := 234) (j := 6) (hv174)
      obtain ⟨v176, hv176⟩ : ∃ v, eA g0 234 2 = v := ⟨_, rfl⟩
      have tv176 := congrArg Int32.toInt hv176
      have x177 := HI.eqA hI0 (p := 234) (j := 2) (hv176)
      obtain ⟨v178, hv178⟩ : ∃ v, eA g0 234 3 = v := ⟨_, rfl⟩
      have tv178 := congrArg Int32.toInt hv178
      have x179 := HI.eqA hI0 (p := 234) (j := 3) (hv178)
      obtain ⟨v180, hv180⟩ : ∃ v, eA g0 234 5510 = v := ⟨_, rfl⟩
      have tv180 := congrArg Int32.toInt hv180
      have x181 := HI.eqA hI0 (p := 234) (j := 5510) (hv180)
      obtain ⟨v182, hv182⟩ : ∃ v, eA g0 234 5514 = v := ⟨_, rfl⟩
      have tv182 := congrArg Int32.toInt hv182
      have x183 := HI.eqA hI0 (p := 234) (j := 5514) (hv182)
      obtain ⟨v184, hv184⟩ : ∃ v, eA g0 234 5515 = v := ⟨_, rfl⟩
      have tv184 := congrArg Int32.toInt hv184
      have x185 := HI.eqA hI0 (p := 234) (j := 5515) (hv184)
      obtain ⟨v186, hv186⟩ : ∃ v, eA g0 234 5516 = v := ⟨_, rfl⟩
      have tv186 := congrArg Int32.toInt hv186
      have x187 := HI.eqA hI0 (p := 234) (j := 5516) (hv186)
      obtain ⟨v188, hv188⟩ : ∃ v, eA g0 234 5512 = v := ⟨_, rfl⟩
      have tv188 := congrArg Int32.toInt hv188
      have x189 := HI.eqA hI0 (p := 234) (j := 5512) (hv188)
      obtain ⟨v190, hv190⟩ : ∃ v, eA g0 234 5513 = v := ⟨_, rfl⟩
      have tv190 := congrArg Int32.toInt hv190
      have x191 := HI.eqA hI0 (p := 234) (j := 5513) (hv190)
      obtain ⟨v192, hv192⟩ : ∃ v, eA g0 235 0 = v := ⟨_, rfl⟩
      have tv192 := congrArg Int32.toInt hv192
      have x193 := HI.eqA hI0 (p := 235) (j := 0) (hv192)
      obtain ⟨v194, hv194⟩ : ∃ v, eA g0 235 1 = v := ⟨_, rfl⟩
      have tv194 := congrArg Int32.toInt hv194
      have x195 := HI.eqA hI0 (p := 235) (j := 1) (hv194)
      have x196 := HI.eqA hI150 (p := 233) (j := 0) ((((eA_c (hF151.2.1 233 ma_X11_tell_231_233)).trans (eA_c gA_sI)).trans hv156))
      have x197 := HI.eqA hI150 (p := 233) (j := 4) ((((eA_c (hF151.2.1 233 ma_X11_tell_231_233)).trans (eA_c gA_sI)).trans hv158))
      have x198 := HI.eqA hI150 (p := 233) (j := 5) ((((eA_c (hF151.2.1 233 ma_X11_tell_231_233)).trans (eA_c gA_sI)).trans hv160))
      have x199 := HI.eqA hI150 (p := 233) (j := 6) ((((eA_c (hF151.2.1 233 ma_X11_tell_231_233)).trans (eA_c gA_sI)).trans hv162))
      have x200 := HI.eqA hI150 (p := 233) (j := 2) ((((eA_c (hF151.2.1 233 ma_X11_tell_231_233)).trans (eA_c gA_sI)).trans hv164))
      have x201 := HI.eqA hI150 (p := 233) (j := 3) ((((eA_c (hF151.2.1 233 ma_X11_tell_231_233)).trans (eA_c gA_sI)).trans hv166))
      exact ⟨_, rfl, hI150, hF154, _, rfl, by omega, ⟨by omega, by omega, by omega, by omega, by omega⟩⟩
    · have c148_ : v93.toInt ≤ 1 := en_j_gt_f c148
      refine At.enter rfl ?_
      refine r_iconst 1 rfl ?_
      refine r_goto ?_
      refine At.enter rfl ?_
      refine q_iretz (by decide) ?_
      refine At.enter rfl ?_
      refine r_ift (by decide) ?_
      refine At.enter rfl ?_
      refine r_aload_n rfl ?_
      refine q_getR (Sh.ref hI91.1 kx_231 rfl) ?_
      refine r_iload_n rfl ?_
      obtain ⟨v202, hv202⟩ : ∃ v, eA g0 235 a1.toInt = v := ⟨_, rfl⟩
      refine q_bald (Sh.arr hI91.1 ka_235) a1.toInt rfl (by omega) v202 ((eA_c (gA_sI)).trans hv202) ?_
      refine r_ifs 30 rfl (fun c203 => ?_) (fun c203 => ?_)
      · have c203_ : v202.toInt ≠ 0 := en_k_ne_t c203
        refine At.enter rfl ?_
        refine r_iconst 0 rfl ?_
        refine r_istore_n ([(2, .int 0), (0, .ref 231), (1, .int a1)]) rfl ?_
        refine Ar.fall 39 rfl ?_
        refine zb_loopG hI91 ⟨by omega, by omega⟩ (by rw [((eA_c gA_sI).trans hv202)]; omega) rfl rfl rfl (fun ys204 l205 hI211 hl206 hc207 e209 e210 => ?_)
        have hF213 := Fr.tr hF92 hl206 rfl rfl
        refine At.enter rfl ?_
        refine r_aload_n e209 ?_
        refine r_iconst 0 rfl ?_
        refine r_callV 75 rfl [.ref 231, .int 0] [] (Nat.le_of_ble_eq_true rfl) rfl (T_X11_tell_231 _ hI211 0 (by decide)) ?_
        rintro _ _ ⟨g214, rfl, hI215, hF216, v217, rfl, hr218⟩
        refine At.sti ?_
        have hF219 := Fr.tr hF213 hF216 rfl rfl
        have zv220 : (0 : Int32).toInt = 0 := rfl
        refine At.enter rfl ?_
        refine r_ireti ?_
        obtain ⟨v221, hv221⟩ : ∃ v, eA g0 233 0 = v := ⟨_, rfl⟩
        have tv221 := congrArg Int32.toInt hv221
        have wv221 := HI.t0 hI0
        rw [hv221] at wv221
        have tv221 := congrArg Int32.toInt hv221
        have x222 := HI.eqA hI0 (p := 233) (j := 0) (hv221)
        obtain ⟨v223, hv223⟩ : ∃ v, eA g0 233 4 = v := ⟨_, rfl⟩
        have wv223 := HI.t4 hI0
        rw [hv223] at wv223
        have tv223 := congrArg Int32.toInt hv223
        have x224 := HI.eqA hI0 (p := 233) (j := 4) (hv223)
        obtain ⟨v225, hv225⟩ : ∃ v, eA g0 233 5 = v := ⟨_, rfl⟩
        have wv225 := HI.t5 hI0
        rw [hv225] at wv225
        have tv225 := congrArg Int32.toInt hv225
        have x226 := HI.eqA hI0 (p := 233) (j := 5) (hv225)
        obtain ⟨v227, hv227⟩ : ∃ v, eA g0 233 6 = v := ⟨_, rfl⟩
        have wv227 := HI.t6 hI0
        rw [hv227] at wv227
        have tv227 := congrArg Int32.toInt hv227
        have x228 := HI.eqA hI0 (p := 233) (j := 6) (hv227)
        obtain ⟨v229, hv229⟩ : ∃ v, eA g0 233 2 = v := ⟨_, rfl⟩
        have tv229 := congrArg Int32.toInt hv229
        have wv229 := HI.t2 hI0
        rw [hv229] at wv229
        have tv229 := congrArg Int32.toInt hv229
        have x230 := HI.eqA hI0 (p := 233) (j := 2) (hv229)
        obtain ⟨v231, hv231⟩ : ∃ v, eA g0 233 3 = v := ⟨_, rfl⟩
        have wv231 := HI.t3 hI0
        rw [hv231] at wv231
        have tv231 := congrArg Int32.toInt hv231
        have x232 := HI.eqA hI0 (p := 233) (j := 3) (hv231)
        obtain ⟨v233, hv233⟩ : ∃ v, eA g0 234 0 = v := ⟨_, rfl⟩
        have tv233 := congrArg Int32.toInt hv233
        have x234 := HI.eqA hI0 (p := 234) (j := 0) (hv233)
        obtain ⟨v235, hv235⟩ : ∃ v, eA g0 234 4 = v := ⟨_, rfl⟩
        have tv235 := congrArg Int32.toInt hv235
        have x236 := HI.eqA hI0 (p := 234) (j := 4) (hv235)
        obtain ⟨v237, hv237⟩ : ∃ v, eA g0 234 5 = v := ⟨_, rfl⟩
        have tv237 := congrArg Int32.toInt hv237
        have x238 := HI.eqA hI0 (p := 234) (j := 5) (hv237)
        obtain ⟨v239, hv239⟩ : ∃ v, eA g0 234 6 = v := ⟨_, rfl⟩
        have tv239 := congrArg Int32.toInt hv239
        have x240 := HI.eqA hI0 (p := 234) (j := 6) (hv239)
        obtain ⟨v241, hv241⟩ : ∃ v, eA g0 234 2 = v := ⟨_, rfl⟩
        have tv241 := congrArg Int32.toInt hv241
        have x242 := HI.eqA hI0 (p := 234) (j := 2) (hv241)
        obtain ⟨v243, hv243⟩ : ∃ v, eA g0 234 3 = v := ⟨_, rfl⟩
        have tv243 := congrArg Int32.toInt hv243
        have x244 := HI.eqA hI0 (p := 234) (j := 3) (hv243)
        obtain ⟨v245, hv245⟩ : ∃ v, eA g0 234 5510 = v := ⟨_, rfl⟩
        have tv245 := congrArg Int32.toInt hv245
        have x246 := HI.eqA hI0 (p := 234) (j := 5510) (hv245)
        obtain ⟨v247, hv247⟩ : ∃ v, eA g0 234 5514 = v := ⟨_, rfl⟩
        have tv247 := congrArg Int32.toInt hv247
        have x248 := HI.eqA hI0 (p := 234) (j := 5514) (hv247)
        obtain ⟨v249, hv249⟩ : ∃ v, eA g0 234 5515 = v := ⟨_, rfl⟩
        have tv249 := congrArg Int32.toInt hv249
        have x250 := HI.eqA hI0 (p := 234) (j := 5515) (hv249)
        obtain ⟨v251, hv251⟩ : ∃ v, eA g0 234 5516 = v := ⟨_, rfl⟩
        have tv251 := congrArg Int32.toInt hv251
        have x252 := HI.eqA hI0 (p := 234) (j := 5516) (hv251)
        obtain ⟨v253, hv253⟩ : ∃ v, eA g0 234 5512 = v := ⟨_, rfl⟩
        have tv253 := congrArg Int32.toInt hv253
        have x254 := HI.eqA hI0 (p := 234) (j := 5512) (hv253)
        obtain ⟨v255, hv255⟩ : ∃ v, eA g0 234 5513 = v := ⟨_, rfl⟩
        have tv255 := congrArg Int32.toInt hv255
        have x256 := HI.eqA hI0 (p := 234) (j := 5513) (hv255)
        obtain ⟨v257, hv257⟩ : ∃ v, eA g0 235 0 = v := ⟨_, rfl⟩
        have tv257 := congrArg Int32.toInt hv257
        have x258 := HI.eqA hI0 (p := 235) (j := 0) (hv257)
        obtain ⟨v259, hv259⟩ : ∃ v, eA g0 235 1 = v := ⟨_, rfl⟩
        have tv259 := congrArg Int32.toInt hv259
        have x260 := HI.eqA hI0 (p := 235) (j := 1) (hv259)
        have y261 : a1.toInt = 0 → (eA g0 235 0).toInt = v202.toInt := fun e => by rw [← hv202, e]
        have y262 : a1.toInt = 1 → (eA g0 235 1).toInt = v202.toInt := fun e => by rw [← hv202, e]
        obtain ⟨v263, hv263⟩ : ∃ v, eA ys204 233 0 = v := ⟨_, rfl⟩
        have tv263 := congrArg Int32.toInt hv263
        have wv263 := HI.t0 hI211
        rw [hv263] at wv263
        have tv263 := congrArg Int32.toInt hv263
        obtain ⟨v264, hv264⟩ : ∃ v, eA ys204 233 4 = v := ⟨_, rfl⟩
        have wv264 := HI.t4 hI211
        rw [hv264] at wv264
        have tv264 := congrArg Int32.toInt hv264
        obtain ⟨v265, hv265⟩ : ∃ v, eA ys204 233 5 = v := ⟨_, rfl⟩
        have wv265 := HI.t5 hI211
        rw [hv265] at wv265
        have tv265 := congrArg Int32.toInt hv265
        obtain ⟨v266, hv266⟩ : ∃ v, eA ys204 233 6 = v := ⟨_, rfl⟩
        have wv266 := HI.t6 hI211
        rw [hv266] at wv266
        have tv266 := congrArg Int32.toInt hv266
        obtain ⟨v267, hv267⟩ : ∃ v, eA ys204 233 2 = v := ⟨_, rfl⟩
        have tv267 := congrArg Int32.toInt hv267
        have wv267 := HI.t2 hI211
        rw [hv267] at wv267
        have tv267 := congrArg Int32.toInt hv267
        obtain ⟨v268, hv268⟩ : ∃ v, eA ys204 233 3 = v := ⟨_, rfl⟩
        have wv268 := HI.t3 hI211
        rw [hv268] at wv268
        have tv268 := congrArg Int32.toInt hv268
        exact ⟨_, rfl, hI215, hF219, _, rfl, by omega, ⟨(fun e_ => by have e : a1.toInt = 0 := e_.1; have z0 := HI.eqA hI215 (p := 233) (j := 0) (((eA_c (hF216.2.1 233 ma_X11_tell_231_233)).trans hv263)); have z1 := HI.eqA hI215 (p := 233) (j := 4) (((eA_c (hF216.2.1 233 ma_X11_tell_231_233)).trans hv264)); have z2 := HI.eqA hI215 (p := 233) (j := 5) (((eA_c (hF216.2.1 233 ma_X11_tell_231_233)).trans hv265)); have z3 := HI.eqA hI215 (p := 233) (j := 6) (((eA_c (hF216.2.1 233 ma_X11_tell_231_233)).trans hv266)); have z4 := HI.eqA hI215 (p := 233) (j := 2) (((eA_c (hF216.2.1 233 ma_X11_tell_231_233)).trans hv267)); have z5 := HI.eqA hI215 (p := 233) (j := 3) (((eA_c (hF216.2.1 233 ma_X11_tell_231_233)).trans hv268)); have z6 := (show (eA ys204 233 0).toInt = (eA g0 234 0).toInt from by have z := hc207 0 (by decide) (by decide); rw [show 5510 * a1.toInt + 0 = 0 by omega, eA_c (gA_sI)] at z; exact congrArg Int32.toInt z); have z7 := (show (eA ys204 233 4).toInt = (eA g0 234 4).toInt from by have z := hc207 4 (by decide) (by decide); rw [show 5510 * a1.toInt + 4 = 4 by omega, eA_c (gA_sI)] at z; exact congrArg Int32.toInt z); have z8 := (show (eA ys204 233 5).toInt = (eA g0 234 5).toInt from by have z := hc207 5 (by decide) (by decide); rw [show 5510 * a1.toInt + 5 = 5 by omega, eA_c (gA_sI)] at z; exact congrArg Int32.toInt z); have z9 := (show (eA ys204 233 6).toInt = (eA g0 234 6).toInt from by have z := hc207 6 (by decide) (by decide); rw [show 5510 * a1.toInt + 6 = 6 by omega, eA_c (gA_sI)] at z; exact congrArg Int32.toInt z); have z10 := (show (eA ys204 233 2).toInt = (eA g0 234 2).toInt from by have z := hc207 2 (by decide) (by decide); rw [show 5510 * a1.toInt + 2 = 2 by omega, eA_c (gA_sI)] at z; exact congrArg Int32.toInt z); have z11 := (show (eA ys204 233 3).toInt = (eA g0 234 3).toInt from by have z := hc207 3 (by decide) (by decide); rw [show 5510 * a1.toInt + 3 = 3 by omega, eA_c (gA_sI)] at z; exact congrArg Int32.toInt z); omega), (fun e_ => by have e : a1.toInt = 1 := e_.1; have z0 := HI.eqA hI215 (p := 233) (j := 0) (((eA_c (hF216.2.1 233 ma_X11_tell_231_233)).trans hv263)); have z1 := HI.eqA hI215 (p := 233) (j := 4) (((eA_c (hF216.2.1 233 ma_X11_tell_231_233)).trans hv264)); have z2 := HI.eqA hI215 (p := 233) (j := 5) (((eA_c (hF216.2.1 233 ma_X11_tell_231_233)).trans hv265)); have z3 := HI.eqA hI215 (p := 233) (j := 6) (((eA_c (hF216.2.1 233 ma_X11_tell_231_233)).trans hv266)); have z4 := HI.eqA hI215 (p := 233) (j := 2) (((eA_c (hF216.2.1 233 ma_X11_tell_231_233)).trans hv267)); have z5 := HI.eqA hI215 (p := 233) (j := 3) (((eA_c (hF216.2.1 233 ma_X11_tell_231_233)).trans hv268)); have z6 := (show (eA ys204 233 0).toInt = (eA g0 234 5510).toInt from by have z := hc207 0 (by decide) (by decide); rw [show 5510 * a1.toInt + 0 = 5510 by omega, eA_c (gA_sI)] at z; exact congrArg Int32.toInt z); have z7 := (show (eA ys204 233 4).toInt = (eA g0 234 5514).toInt from by have z := hc207 4 (by decide) (by decide); rw [show 5510 * a1.toInt + 4 = 5514 by omega, eA_c (gA_sI)] at z; exact congrArg Int32.toInt z); have z8 := (show (eA ys204 233 5).toInt = (eA g0 234 5515).toInt from by have z := hc207 5 (by decide) (by decide); rw [show 5510 * a1.toInt + 5 = 5515 by omega, eA_c (gA_sI)] at z; exact congrArg Int32.toInt z); have z9 := (show (eA ys204 233 6).toInt = (eA g0 234 5516).toInt from by have z := hc207 6 (by decide) (by decide); rw [show 5510 * a1.toInt + 6 = 5516 by omega, eA_c (gA_sI)] at z; exact congrArg Int32.toInt z); have z10 := (show (eA ys204 233 2).toInt = (eA g0 234 5512).toInt from by have z := hc207 2 (by decide) (by decide); rw [show 5510 * a1.toInt + 2 = 5512 by omega, eA_c (gA_sI)] at z; exact congrArg Int32.toInt z); have z11 := (show (eA ys204 233 3).toInt = (eA g0 234 5513).toInt from by have z := hc207 3 (by decide) (by decide); rw [show 5510 * a1.toInt + 3 = 5513 by omega, eA_c (gA_sI)] at z; exact congrArg Int32.toInt z); omega), by omega, by omega, by omega⟩⟩
      · have c203_ : v202.toInt = 0 := en_k_ne_f c203
        refine At.enter rfl ?_
        refine r_aload_n rfl ?_
        refine r_bipush (-2) rfl ?_
        refine r_callV 36 rfl [.ref 231, .int (-2)] [] (Nat.le_of_ble_eq_true rfl) rfl (T_X11_tell_231 _ hI91 (-2) (by decide)) ?_
        rintro _ _ ⟨g269, rfl, hI270, hF271, v272, rfl, hr273⟩
        refine At.sti ?_
        have hF274 := Fr.tr hF92 hF271 rfl rfl
        have zv275 : ((-2) : Int32).toInt = (-2) := rfl
        refine At.enter rfl ?_
        refine r_ireti ?_
        obtain ⟨v276, hv276⟩ : ∃ v, eA g0 233 0 = v := ⟨_, rfl⟩
        have tv276 := congrArg Int32.toInt hv276
        have wv276 := HI.t0 hI0
        rw [hv276] at wv276
        have tv276 := congrArg Int32.toInt hv276
        have x277 := HI.eqA hI0 (p := 233) (j := 0) (hv276)
        obtain ⟨v278, hv278⟩ : ∃ v, eA g0 233 4 = v := ⟨_, rfl⟩
        have wv278 := HI.t4 hI0
        rw [hv278] at wv278
        have tv278 := congrArg Int32.toInt hv278
        have x279 := HI.eqA hI0 (p := 233) (j := 4) (hv278)
        obtain ⟨v280, hv280⟩ : ∃ v, eA g0 233 5 = v := ⟨_, rfl⟩
        have wv280 := HI.t5 hI0
        rw [hv280] at wv280
        have tv280 := congrArg Int32.toInt hv280
        have x281 := HI.eqA hI0 (p := 233) (j := 5) (hv280)
        obtain ⟨v282, hv282⟩ : ∃ v, eA g0 233 6 = v := ⟨_, rfl⟩
        have wv282 := HI.t6 hI0
        rw [hv282] at wv282
        have tv282 := congrArg Int32.toInt hv282
        have x283 := HI.eqA hI0 (p := 233) (j := 6) (hv282)
        obtain ⟨v284, hv284⟩ : ∃ v, eA g0 233 2 = v := ⟨_, rfl⟩
        have tv284 := congrArg Int32.toInt hv284
        have wv284 := HI.t2 hI0
        rw [hv284] at wv284
        have tv284 := congrArg Int32.toInt hv284
        have x285 := HI.eqA hI0 (p := 233) (j := 2) (hv284)
        obtain ⟨v286, hv286⟩ : ∃ v, eA g0 233 3 = v := ⟨_, rfl⟩
        have wv286 := HI.t3 hI0
        rw [hv286] at wv286
        have tv286 := congrArg Int32.toInt hv286
        have x287 := HI.eqA hI0 (p := 233) (j := 3) (hv286)
        obtain ⟨v288, hv288⟩ : ∃ v, eA g0 234 0 = v := ⟨_, rfl⟩
        have tv288 := congrArg Int32.toInt hv288
        have x289 := HI.eqA hI0 (p := 234) (j := 0) (hv288)
        obtain ⟨v290, hv290⟩ : ∃ v, eA g0 234 4 = v := ⟨_, rfl⟩
        have tv290 := congrArg Int32.toInt hv290
        have x291 := HI.eqA hI0 (p := 234) (j := 4) (hv290)
        obtain ⟨v292, hv292⟩ : ∃ v, eA g0 234 5 = v := ⟨_, rfl⟩
        have tv292 := congrArg Int32.toInt hv292
        have x293 := HI.eqA hI0 (p := 234) (j := 5) (hv292)
        obtain ⟨v294, hv294⟩ : ∃ v, eA g0 234 6 = v := ⟨_, rfl⟩
        have tv294 := congrArg Int32.toInt hv294
        have x295 := HI.eqA hI0 (p := 234) (j := 6) (hv294)
        obtain ⟨v296, hv296⟩ : ∃ v, eA g0 234 2 = v := ⟨_, rfl⟩
        have tv296 := congrArg Int32.toInt hv296
        have x297 := HI.eqA hI0 (p := 234) (j := 2) (hv296)
        obtain ⟨v298, hv298⟩ : ∃ v, eA g0 234 3 = v := ⟨_, rfl⟩
        have tv298 := congrArg Int32.toInt hv298
        have x299 := HI.eqA hI0 (p := 234) (j := 3) (hv298)
        obtain ⟨v300, hv300⟩ : ∃ v, eA g0 234 5510 = v := ⟨_, rfl⟩
        have tv300 := congrArg Int32.toInt hv300
        have x301 := HI.eqA hI0 (p := 234) (j := 5510) (hv300)
        obtain ⟨v302, hv302⟩ : ∃ v, eA g0 234 5514 = v := ⟨_, rfl⟩
        have tv302 := congrArg Int32.toInt hv302
        have x303 := HI.eqA hI0 (p := 234) (j := 5514) (hv302)
        obtain ⟨v304, hv304⟩ : ∃ v, eA g0 234 5515 = v := ⟨_, rfl⟩
        have tv304 := congrArg Int32.toInt hv304
        have x305 := HI.eqA hI0 (p := 234) (j := 5515) (hv304)
        obtain ⟨v306, hv306⟩ : ∃ v, eA g0 234 5516 = v := ⟨_, rfl⟩
        have tv306 := congrArg Int32.toInt hv306
        have x307 := HI.eqA hI0 (p := 234) (j := 5516) (hv306)
        obtain ⟨v308, hv308⟩ : ∃ v, eA g0 234 5512 = v := ⟨_, rfl⟩
        have tv308 := congrArg Int32.toInt hv308
        have x309 := HI.eqA hI0 (p := 234) (j := 5512) (hv308)
        obtain ⟨v310, hv310⟩ : ∃ v, eA g0 234 5513 = v := ⟨_, rfl⟩
        have tv310 := congrArg Int32.toInt hv310
        have x311 := HI.eqA hI0 (p := 234) (j := 5513) (hv310)
        obtain ⟨v312, hv312⟩ : ∃ v, eA g0 235 0 = v := ⟨_, rfl⟩
        have tv312 := congrArg Int32.toInt hv312
        have x313 := HI.eqA hI0 (p := 235) (j := 0) (hv312)
        obtain ⟨v314, hv314⟩ : ∃ v, eA g0 235 1 = v := ⟨_, rfl⟩
        have tv314 := congrArg Int32.toInt hv314
        have x315 := HI.eqA hI0 (p := 235) (j := 1) (hv314)
        have y316 : a1.toInt = 0 → (eA g0 235 0).toInt = v202.toInt := fun e => by rw [← hv202, e]
        have y317 : a1.toInt = 1 → (eA g0 235 1).toInt = v202.toInt := fun e => by rw [← hv202, e]
        have x318 := HI.eqA hI270 (p := 233) (j := 0) ((((eA_c (hF271.2.1 233 ma_X11_tell_231_233)).trans (eA_c gA_sI)).trans hv276))
        have x319 := HI.eqA hI270 (p := 233) (j := 4) ((((eA_c (hF271.2.1 233 ma_X11_tell_231_233)).trans (eA_c gA_sI)).trans hv278))
        have x320 := HI.eqA hI270 (p := 233) (j := 5) ((((eA_c (hF271.2.1 233 ma_X11_tell_231_233)).trans (eA_c gA_sI)).trans hv280))
        have x321 := HI.eqA hI270 (p := 233) (j := 6) ((((eA_c (hF271.2.1 233 ma_X11_tell_231_233)).trans (eA_c gA_sI)).trans hv282))
        have x322 := HI.eqA hI270 (p := 233) (j := 2) ((((eA_c (hF271.2.1 233 ma_X11_tell_231_233)).trans (eA_c gA_sI)).trans hv284))
        have x323 := HI.eqA hI270 (p := 233) (j := 3) ((((eA_c (hF271.2.1 233 ma_X11_tell_231_233)).trans (eA_c gA_sI)).trans hv286))
        exact ⟨_, rfl, hI270, hF274, _, rfl, by omega, ⟨by omega, by omega, by omega, by omega, by omega⟩⟩
