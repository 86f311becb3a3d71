def F_X11_image_231 : List (Nat × Nat) := [(231, 0), (231, 1)]
def A_X11_image_231 : List Nat := [232, 234, 235]
set_option maxRecDepth 100000 in
set_option maxHeartbeats 4000000 in
theorem T_X11_image_231 (d : Nat) {N : Nat} {g0 : List en_E} (hI0 : HI g0) (a1 : Int32) : Ev (d + 2) 165 [.ref 231, .int a1] (g0, N) (fun w h' => ∃ g', h' = (g', N) ∧ HI g' ∧ Fr F_X11_image_231 A_X11_image_231 g0 g' ∧ ∃ r : Int32, w = some (.int r) ∧ ((-1) ≤ r.toInt ∧ r.toInt ≤ 0) ∧ ((a1.toInt = 0 → (eA g' 235 0).toInt = 1 ∧ r.toInt = 0 ∧ (eA g' 234 0).toInt = (eA g0 233 0).toInt ∧ (eA g' 234 4).toInt = (eA g0 233 4).toInt ∧ (eA g' 234 5).toInt = (eA g0 233 5).toInt ∧ (eA g' 234 6).toInt = (eA g0 233 6).toInt) ∧ (a1.toInt ≠ 0 → (eA g' 235 0).toInt = (eA g0 235 0).toInt ∧ (eA g' 234 0).toInt = (eA g0 234 0).toInt ∧ (eA g' 234 4).toInt = (eA g0 234 4).toInt ∧ (eA g' 234 5).toInt = (eA g0 234 5).toInt ∧ (eA g' 234 6).toInt = (eA g0 234 6).toInt) ∧ (a1.toInt = 1 → (eA g' 235 1).toInt = 1 ∧ r.toInt = 0 ∧ (eA g' 234 5510).toInt = (eA g0 233 0).toInt ∧ (eA g' 234 5514).toInt = (eA g0 233 4).toInt ∧ (eA g' 234 5515).toInt = (eA g0 233 5).toInt ∧ (eA g' 234 5516).toInt = (eA g0 233 6).toInt) ∧ (a1.toInt ≠ 1 → (eA g' 235 1).toInt = (eA g0 235 1).toInt ∧ (eA g' 234 5510).toInt = (eA g0 234 5510).toInt ∧ (eA g' 234 5514).toInt = (eA g0 234 5514).toInt ∧ (eA g' 234 5515).toInt = (eA g0 234 5515).toInt ∧ (eA g' 234 5516).toInt = (eA g0 234 5516).toInt) ∧ (a1.toInt < 0 ∨ 1 < a1.toInt → r.toInt = -1))) := by
  have hF0 : Fr F_X11_image_231 A_X11_image_231 g0 g0 := Fr.rf
  refine Ev.mk rfl rfl ⟨Nat.le_of_ble_eq_true rfl, Or.inr (q_rc hI0.1 kx_231 rfl)⟩ ?_
  show At _ none _ _ (0, [(0, .ref 231), (1, .int a1)], [], (_, _)) _
  refine At.enter rfl ?_
  refine r_aload_n rfl ?_
  refine r_iconst 0 rfl ?_
  refine q_putI (Sh.int hI0.1 kx_231 rfl) rfl ?_
  have hI79 := HI.wI0 hI0 kx_231 rfl (p := 231) (b := 0) (v := 0) rfl
  have hF80 := Fr.wI (p := 231) (b := 0) (v := 0) hF0 rfl
  refine r_iload_n rfl ?_
  refine q_i2l (fun v81 hv81 => ?_)
  refine r_lconst 0 rfl ?_
  refine r_lconst 1 rfl ?_
  refine q_inlS 12 rfl [.long v81, .long 0, .long 1] [] (Nat.le_of_ble_eq_true rfl) rfl ?_
  refine Ev.mk rfl rfl ⟨Nat.le_of_ble_eq_true rfl, Or.inl rfl⟩ ?_
  show At _ none _ _ (0, [(0, .long v81), (2, .long 0), (4, .long 1)], [], (_, _)) _
  refine At.enter rfl ?_
  refine r_lload_n rfl ?_
  refine r_lload_n rfl ?_
  refine r_lcmp _ rfl ?_
  refine r_ifs 6 rfl (fun c82 => ?_) (fun c82 => ?_)
  · have c82_ : v81.toInt < 0 := en_j_lt_t c82
    refine At.enter rfl ?_
    refine r_iconst 0 rfl ?_
    refine Ar.fall 18 rfl ?_
    refine At.enter rfl ?_
    refine q_iretz (by decide) ?_
    refine At.enter rfl ?_
    refine r_iff 15 rfl (by decide) ?_
    refine At.enter rfl ?_
    refine r_aload_n rfl ?_
    refine r_iconst (-1) rfl ?_
    refine r_callV 20 rfl [.ref 231, .int (-1)] [] (Nat.le_of_ble_eq_true rfl) rfl (T_X11_tell_231 _ hI79 (-1) (by decide)) ?_
    rintro _ _ ⟨g83, rfl, hI84, hF85, v86, rfl, hr87⟩
    refine At.sti ?_
    have hF88 := Fr.tr hF80 hF85 rfl rfl
    have zv89 : ((-1) : Int32).toInt = (-1) := rfl
    refine At.enter rfl ?_
    refine r_ireti ?_
    obtain ⟨v90, hv90⟩ : ∃ v, eA g0 233 0 = v := ⟨_, rfl⟩
    have tv90 := congrArg Int32.toInt hv90
    have wv90 := HI.t0 hI0
    rw [hv90] at wv90
    have tv90 := congrArg Int32.toInt hv90
    have x91 := HI.eqA hI0 (p := 233) (j := 0) (hv90)
    obtain ⟨v92, hv92⟩ : ∃ v, eA g0 233 4 = v := ⟨_, rfl⟩
    have wv92 := HI.t4 hI0
    rw [hv92] at wv92
    have tv92 := congrArg Int32.toInt hv92
    have x93 := HI.eqA hI0 (p := 233) (j := 4) (hv92)
    obtain ⟨v94, hv94⟩ : ∃ v, eA g0 233 5 = v := ⟨_, rfl⟩
    have wv94 := HI.t5 hI0
    rw [hv94] at wv94
    have tv94 := congrArg Int32.toInt hv94
    have x95 := HI.eqA hI0 (p := 233) (j := 5) (hv94)
    obtain ⟨v96, hv96⟩ : ∃ v, eA g0 233 6 = v := ⟨_, rfl⟩
    have wv96 := HI.t6 hI0
    rw [hv96] at wv96
    have tv96 := congrArg Int32.toInt hv96
    have x97 := HI.eqA hI0 (p := 233) (j := 6) (hv96)
    obtain ⟨v98, hv98⟩ : ∃ v, eA g0 234 0 = v := ⟨_, rfl⟩
    have tv98 := congrArg Int32.toInt hv98
    have x99 := HI.eqA hI0 (p := 234) (j := 0) (hv98)
    obtain ⟨v100, hv100⟩ : ∃ v, eA g0 234 4 = v := ⟨_, rfl⟩
    have tv100 := congrArg Int32.toInt hv100
    have x101 := HI.eqA hI0 (p := 234) (j := 4) (hv100)
    obtain ⟨v102, hv102⟩ : ∃ v, eA g0 234 5 = v := ⟨_, rfl⟩
    have tv102 := congrArg Int32.toInt hv102
    have x103 := HI.eqA hI0 (p := 234) (j := 5) (hv102)
    obtain ⟨v104, hv104⟩ : ∃ v, eA g0 234 6 = v := ⟨_, rfl⟩
    have tv104 := congrArg Int32.toInt hv104
    have x105 := HI.eqA hI0 (p := 234) (j := 6) (hv104)
    obtain ⟨v106, hv106⟩ : ∃ v, eA g0 234 5510 = v := ⟨_, rfl⟩
    have tv106 := congrArg Int32.toInt hv106
    have x107 := HI.eqA hI0 (p := 234) (j := 5510) (hv106)
    obtain ⟨v108, hv108⟩ : ∃ v, eA g0 234 5514 = v := ⟨_, rfl⟩
    have tv108 := congrArg Int32.toInt hv108
    have x109 := HI.eqA hI0 (p := 234) (j := 5514) (hv108)
    obtain ⟨v110, hv110⟩ : ∃ v, eA g0 234 5515 = v := ⟨_, rfl⟩
    have tv110 := congrArg Int32.toInt hv110
    have x111 := HI.eqA hI0 (p := 234) (j := 5515) (hv110)
    obtain ⟨v112, hv112⟩ : ∃ v, eA g0 234 5516 = v := ⟨_, rfl⟩
    have tv112 := congrArg Int32.toInt hv112
    have x113 := HI.eqA hI0 (p := 234) (j := 5516) (hv112)
    obtain ⟨v114, hv114⟩ : ∃ v, eA g0 235 0 = v := ⟨_, rfl⟩
    have tv114 := congrArg Int32.toInt hv114
    have x115 := HI.eqA hI0 (p := 235) (j := 0) (hv114)
    obtain ⟨v116, hv116⟩ : ∃ v, eA g0 235 1 = v := ⟨_, rfl⟩
    have tv116 := congrArg Int32.toInt hv116
    have x117 := HI.eqA hI0 (p := 235) (j := 1) (hv116)
    have x118 := HI.eqA hI84 (p := 234) (j := 0) ((((eA_c (hF85.2.1 234 (by decide))).trans (eA_c gA_sI)).trans hv98))
    have x119 := HI.eqA hI84 (p := 234) (j := 4) ((((eA_c (hF85.2.1 234 (by decide))).trans (eA_c gA_sI)).trans hv100))
    have x120 := HI.eqA hI84 (p := 234) (j := 5) ((((eA_c (hF85.2.1 234 (by decide))).trans (eA_c gA_sI)).trans hv102))
    have x121 := HI.eqA hI84 (p := 234) (j := 6) ((((eA_c (hF85.2.1 234 (by decide))).trans (eA_c gA_sI)).trans hv104))
    have x122 := HI.eqA hI84 (p := 234) (j := 5510) ((((eA_c (hF85.2.1 234 (by decide))).trans (eA_c gA_sI)).trans hv106))
    have x123 := HI.eqA hI84 (p := 234) (j := 5514) ((((eA_c (hF85.2.1 234 (by decide))).trans (eA_c gA_sI)).trans hv108))
    have x124 := HI.eqA hI84 (p := 234) (j := 5515) ((((eA_c (hF85.2.1 234 (by decide))).trans (eA_c gA_sI)).trans hv110))
    have x125 := HI.eqA hI84 (p := 234) (j := 5516) ((((eA_c (hF85.2.1 234 (by decide))).trans (eA_c gA_sI)).trans hv112))
    have x126 := HI.eqA hI84 (p := 235) (j := 0) ((((eA_c (hF85.2.1 235 (by decide))).trans (eA_c gA_sI)).trans hv114))
    have x127 := HI.eqA hI84 (p := 235) (j := 1) ((((eA_c (hF85.2.1 235 (by decide))).trans (eA_c gA_sI)).trans hv116))
    exact ⟨_, rfl, hI84, hF88, _, rfl, by omega, ⟨by omega, by omega, by omega, by omega, by omega⟩⟩
  · have c82_ : v81.toInt ≥ 0 := en_j_lt_f c82
    refine At.enter rfl ?_
    refine r_lload_n rfl ?_
    refine r_lload rfl ?_
    refine r_lcmp _ rfl ?_
    refine r_ifs 13 rfl (fun c128 => ?_) (fun c128 => ?_)
    · have c128_ : v81.toInt > 1 := en_j_gt_t c128
      refine At.enter rfl ?_
      refine r_iconst 0 rfl ?_
      refine Ar.fall 18 rfl ?_
      refine At.enter rfl ?_
      refine q_iretz (by decide) ?_
      refine At.enter rfl ?_
      refine r_iff 15 rfl (by decide) ?_
      refine At.enter rfl ?_
      refine r_aload_n rfl ?_
      refine r_iconst (-1) rfl ?_
      refine r_callV 20 rfl [.ref 231, .int (-1)] [] (Nat.le_of_ble_eq_true rfl) rfl (T_X11_tell_231 _ hI79 (-1) (by decide)) ?_
      rintro _ _ ⟨g129, rfl, hI130, hF131, v132, rfl, hr133⟩
      refine At.sti ?_
      have hF134 := Fr.tr hF80 hF131 rfl rfl
      have zv135 : ((-1) : Int32).toInt = (-1) := rfl
      refine At.enter rfl ?_
      refine r_ireti ?_
      obtain ⟨v136, hv136⟩ : ∃ v, eA g0 233 0 = v := ⟨_, rfl⟩
      have tv136 := congrArg Int32.toInt hv136
      have wv136 := HI.t0 hI0
      rw [hv136] at wv136
      have tv136 := congrArg Int32.toInt hv136
      have x137 := HI.eqA hI0 (p := 233) (j := 0) (hv136)
      obtain ⟨v138, hv138⟩ : ∃ v, eA g0 233 4 = v := ⟨_, rfl⟩
      have wv138 := HI.t4 hI0
      rw [hv138] at wv138
      have tv138 := congrArg Int32.toInt hv138
      have x139 := HI.eqA hI0 (p := 233) (j := 4) (hv138)
      obtain ⟨v140, hv140⟩ : ∃ v, eA g0 233 5 = v := ⟨_, rfl⟩
      have wv140 := HI.t5 hI0
      rw [hv140] at wv140
      have tv140 := congrArg Int32.toInt hv140
      have x141 := HI.eqA hI0 (p := 233) (j := 5) (hv140)
      obtain ⟨v142, hv142⟩ : ∃ v, eA g0 233 6 = v := ⟨_, rfl⟩
      have wv142 := HI.t6 hI0
      rw [hv142] at wv142
      have tv142 := congrArg Int32.toInt hv142
      have x143 := HI.eqA hI0 (p := 233) (j := 6) (hv142)
      obtain ⟨v144, hv144⟩ : ∃ v, eA g0 234 0 = v := ⟨_, rfl⟩
      have tv144 := congrArg Int32.toInt hv144
      have x145 := HI.eqA hI0 (p := 234) (j := 0) (hv144)
      obtain ⟨v146, hv146⟩ : ∃ v, eA g0 234 4 = v := ⟨_, rfl⟩
      have tv146 := congrArg Int32.toInt hv146
      have x147 := HI.eqA hI0 (p := 234) (j := 4) (hv146)
      obtain ⟨v148, hv148⟩ : ∃ v, eA g0 234 5 = v := ⟨_, rfl⟩
      have tv148 := congrArg Int32.toInt hv148
      have x149 := HI.eqA hI0 (p := 234) (j := 5) (hv148)
      obtain ⟨v150, hv150⟩ : ∃ v, eA g0 234 6 = v := ⟨_, rfl⟩
      have tv150 := congrArg Int32.toInt hv150
      have x151 := HI.eqA hI0 (p := 234) (j := 6) (hv150)
      obtain ⟨v152, hv152⟩ : ∃ v, eA g0 234 5510 = v := ⟨_, rfl⟩
      have tv152 := congrArg Int32.toInt hv152
      have x153 := HI.eqA hI0 (p := 234) (j := 5510) (hv152)
      obtain ⟨v154, hv154⟩ : ∃ v, eA g0 234 5514 = v := ⟨_, rfl⟩
      have tv154 := congrArg Int32.toInt hv154
      have x155 := HI.eqA hI0 (p := 234) (j := 5514) (hv154)
      obtain ⟨v156, hv156⟩ : ∃ v, eA g0 234 5515 = v := ⟨_, rfl⟩
      have tv156 := congrArg Int32.toInt hv156
      have x157 := HI.eqA hI0 (p := 234) (j := 5515) (hv156)
      obtain ⟨v158, hv158⟩ : ∃ v, eA g0 234 5516 = v := ⟨_, rfl⟩
      have tv158 := congrArg Int32.toInt hv158
      have x159 := HI.eqA hI0 (p := 234) (j := 5516) (hv158)
      obtain ⟨v160, hv160⟩ : ∃ v, eA g0 235 0 = v := ⟨_, rfl⟩
      have tv160 := congrArg Int32.toInt hv160
      have x161 := HI.eqA hI0 (p := 235) (j := 0) (hv160)
      obtain ⟨v162, hv162⟩ : ∃ v, eA g0 235 1 = v := ⟨_, rfl⟩
      have tv162 := congrArg Int32.toInt hv162
      have x163 := HI.eqA hI0 (p := 235) (j := 1) (hv162)
      have x164 := HI.eqA hI130 (p := 234) (j := 0) ((((eA_c (hF131.2.1 234 (by decide))).trans (eA_c gA_sI)).trans hv144))
      have x165 := HI.eqA hI130 (p := 234) (j := 4) ((((eA_c (hF131.2.1 234 (by decide))).trans (eA_c gA_sI)).trans hv146))
      have x166 := HI.eqA hI130 (p := 234) (j := 5) ((((eA_c (hF131.2.1 234 (by decide))).trans (eA_c gA_sI)).trans hv148))
      have x167 := HI.eqA hI130 (p := 234) (j := 6) ((((eA_c (hF131.2.1 234 (by decide))).trans (eA_c gA_sI)).trans hv150))
      have x168 := HI.eqA hI130 (p := 234) (j := 5510) ((((eA_c (hF131.2.1 234 (by decide))).trans (eA_c gA_sI)).trans hv152))
      have x169 := HI.eqA hI130 (p := 234) (j := 5514) ((((eA_c (hF131.2.1 234 (by decide))).trans (eA_c gA_sI)).trans hv154))
      have x170 := HI.eqA hI130 (p := 234) (j := 5515) ((((eA_c (hF131.2.1 234 (by decide))).trans (eA_c gA_sI)).trans hv156))
      have x171 := HI.eqA hI130 (p := 234) (j := 5516) ((((eA_c (hF131.2.1 234 (by decide))).trans (eA_c gA_sI)).trans hv158))
      have x172 := HI.eqA hI130 (p := 235) (j := 0) ((((eA_c (hF131.2.1 235 (by decide))).trans (eA_c gA_sI)).trans hv160))
      have x173 := HI.eqA hI130 (p := 235) (j := 1) ((((eA_c (hF131.2.1 235 (by decide))).trans (eA_c gA_sI)).trans hv162))
      exact ⟨_, rfl, hI130, hF134, _, rfl, by omega, ⟨by omega, by omega, by omega, by omega, by omega⟩⟩
    · have c128_ : v81.toInt ≤ 1 := en_j_gt_f c128
      refine At.enter rfl ?_
      refine r_iconst 1 rfl ?_
      refine r_goto ?_
      refine At.enter rfl ?_
      refine q_iretz (by decide) ?_
      refine At.enter rfl ?_
      refine r_ift (by decide) ?_
      refine At.enter rfl ?_
      refine r_iconst 0 rfl ?_
      refine r_istore_n ([(2, .int 0), (0, .ref 231), (1, .int a1)]) rfl ?_
      refine Ar.fall 23 rfl ?_
      refine zi_loopG hI79 ⟨by omega, by omega⟩ rfl rfl rfl (fun ys174 l175 hI181 hW182 hl176 hc177 hf178 e179 e180 => ?_)
      have hF183 := Fr.tr hF80 hl176 rfl rfl
      have m184_0_0 : a1.toInt = 0 → (eA ys174 234 0).toInt = (eA g0 233 0).toInt ∧ (eA ys174 234 5510).toInt = (eA g0 234 5510).toInt := fun e => ⟨by have z := hc177 0 (by decide) (by decide); rw [show 5510 * a1.toInt + 0 = 0 by omega, eA_c (gA_sI)] at z; exact congrArg Int32.toInt z, by have z := hf178 5510 (by decide) (by omega); rw [eA_c (gA_sI)] at z; exact congrArg Int32.toInt z⟩
      have m184_1_0 : a1.toInt = 1 → (eA ys174 234 5510).toInt = (eA g0 233 0).toInt ∧ (eA ys174 234 0).toInt = (eA g0 234 0).toInt := fun e => ⟨by have z := hc177 0 (by decide) (by decide); rw [show 5510 * a1.toInt + 0 = 5510 by omega, eA_c (gA_sI)] at z; exact congrArg Int32.toInt z, by have z := hf178 0 (by decide) (by omega); rw [eA_c (gA_sI)] at z; exact congrArg Int32.toInt z⟩
      have m184_0_4 : a1.toInt = 0 → (eA ys174 234 4).toInt = (eA g0 233 4).toInt ∧ (eA ys174 234 5514).toInt = (eA g0 234 5514).toInt := fun e => ⟨by have z := hc177 4 (by decide) (by decide); rw [show 5510 * a1.toInt + 4 = 4 by omega, eA_c (gA_sI)] at z; exact congrArg Int32.toInt z, by have z := hf178 5514 (by decide) (by omega); rw [eA_c (gA_sI)] at z; exact congrArg Int32.toInt z⟩
      have m184_1_4 : a1.toInt = 1 → (eA ys174 234 5514).toInt = (eA g0 233 4).toInt ∧ (eA ys174 234 4).toInt = (eA g0 234 4).toInt := fun e => ⟨by have z := hc177 4 (by decide) (by decide); rw [show 5510 * a1.toInt + 4 = 5514 by omega, eA_c (gA_sI)] at z; exact congrArg Int32.toInt z, by have z := hf178 4 (by decide) (by omega); rw [eA_c (gA_sI)] at z; exact congrArg Int32.toInt z⟩
      have m184_0_5 : a1.toInt = 0 → (eA ys174 234 5).toInt = (eA g0 233 5).toInt ∧ (eA ys174 234 5515).toInt = (eA g0 234 5515).toInt := fun e => ⟨by have z := hc177 5 (by decide) (by decide); rw [show 5510 * a1.toInt + 5 = 5 by omega, eA_c (gA_sI)] at z; exact congrArg Int32.toInt z, by have z := hf178 5515 (by decide) (by omega); rw [eA_c (gA_sI)] at z; exact congrArg Int32.toInt z⟩
      have m184_1_5 : a1.toInt = 1 → (eA ys174 234 5515).toInt = (eA g0 233 5).toInt ∧ (eA ys174 234 5).toInt = (eA g0 234 5).toInt := fun e => ⟨by have z := hc177 5 (by decide) (by decide); rw [show 5510 * a1.toInt + 5 = 5515 by omega, eA_c (gA_sI)] at z; exact congrArg Int32.toInt z, by have z := hf178 5 (by decide) (by omega); rw [eA_c (gA_sI)] at z; exact congrArg Int32.toInt z⟩
      have m184_0_6 : a1.toInt = 0 → (eA ys174 234 6).toInt = (eA g0 233 6).toInt ∧ (eA ys174 234 5516).toInt = (eA g0 234 5516).toInt := fun e => ⟨by have z := hc177 6 (by decide) (by decide); rw [show 5510 * a1.toInt + 6 = 6 by omega, eA_c (gA_sI)] at z; exact congrArg Int32.toInt z, by have z := hf178 5516 (by decide) (by omega); rw [eA_c (gA_sI)] at z; exact congrArg Int32.toInt z⟩
      have m184_1_6 : a1.toInt = 1 → (eA ys174 234 5516).toInt = (eA g0 233 6).toInt ∧ (eA ys174 234 6).toInt = (eA g0 234 6).toInt := fun e => ⟨by have z := hc177 6 (by decide) (by decide); rw [show 5510 * a1.toInt + 6 = 5516 by omega, eA_c (gA_sI)] at z; exact congrArg Int32.toInt z, by have z := hf178 6 (by decide) (by omega); rw [eA_c (gA_sI)] at z; exact congrArg Int32.toInt z⟩
      refine At.enter rfl ?_
      refine r_aload_n e179 ?_
      refine q_getR (Sh.ref hI181.1 kx_231 rfl) ?_
      refine r_iload_n e180 ?_
      refine r_iconst 1 rfl ?_
      refine q_bast (Sh.arr hI181.1 ka_235) (a1.toInt) rfl (by omega) rfl ?_
      have hI185 := HI.kept hI181 (k := a1.toInt) (v := 1) ⟨by omega, by omega⟩ hW182
      have hF186 := Fr.wA (p := 235) (j := a1.toInt) (v := 1) hF183 rfl
      refine r_aload_n e179 ?_
      refine r_iconst 0 rfl ?_
      refine r_callV 66 rfl [.ref 231, .int 0] [] (Nat.le_of_ble_eq_true rfl) rfl (T_X11_tell_231 _ hI185 0 (by decide)) ?_
      rintro _ _ ⟨g187, rfl, hI188, hF189, v190, rfl, hr191⟩
      refine At.sti ?_
      have hF192 := Fr.tr hF186 hF189 rfl rfl
      have zv193 : (0 : Int32).toInt = 0 := rfl
      refine At.enter rfl ?_
      refine r_ireti ?_
      obtain ⟨v194, hv194⟩ : ∃ v, eA g0 233 0 = v := ⟨_, rfl⟩
      have tv194 := congrArg Int32.toInt hv194
      have wv194 := HI.t0 hI0
      rw [hv194] at wv194
      have tv194 := congrArg Int32.toInt hv194
      have x195 := HI.eqA hI0 (p := 233) (j := 0) (hv194)
      obtain ⟨v196, hv196⟩ : ∃ v, eA g0 233 4 = v := ⟨_, rfl⟩
      have wv196 := HI.t4 hI0
      rw [hv196] at wv196
      have tv196 := congrArg Int32.toInt hv196
      have x197 := HI.eqA hI0 (p := 233) (j := 4) (hv196)
      obtain ⟨v198, hv198⟩ : ∃ v, eA g0 233 5 = v := ⟨_, rfl⟩
      have wv198 := HI.t5 hI0
      rw [hv198] at wv198
      have tv198 := congrArg Int32.toInt hv198
      have x199 := HI.eqA hI0 (p := 233) (j := 5) (hv198)
      obtain ⟨v200, hv200⟩ : ∃ v, eA g0 233 6 = v := ⟨_, rfl⟩
      have wv200 := HI.t6 hI0
      rw [hv200] at wv200
      have tv200 := congrArg Int32.toInt hv200
      have x201 := HI.eqA hI0 (p := 233) (j := 6) (hv200)
      obtain ⟨v202, hv202⟩ : ∃ v, eA g0 234 0 = v := ⟨_, rfl⟩
      have tv202 := congrArg Int32.toInt hv202
      have x203 := HI.eqA hI0 (p := 234) (j := 0) (hv202)
      obtain ⟨v204, hv204⟩ : ∃ v, eA g0 234 4 = v := ⟨_, rfl⟩
      have tv204 := congrArg Int32.toInt hv204
      have x205 := HI.eqA hI0 (p := 234) (j := 4) (hv204)
      obtain ⟨v206, hv206⟩ : ∃ v, eA g0 234 5 = v := ⟨_, rfl⟩
      have tv206 := congrArg Int32.toInt hv206
      have x207 := HI.eqA hI0 (p := 234) (j := 5) (hv206)
      obtain ⟨v208, hv208⟩ : ∃ v, eA g0 234 6 = v := ⟨_, rfl⟩
      have tv208 := congrArg Int32.toInt hv208
      have x209 := HI.eqA hI0 (p := 234) (j := 6) (hv208)
      obtain ⟨v210, hv210⟩ : ∃ v, eA g0 234 5510 = v := ⟨_, rfl⟩
      have tv210 := congrArg Int32.toInt hv210
      have x211 := HI.eqA hI0 (p := 234) (j := 5510) (hv210)
      obtain ⟨v212, hv212⟩ : ∃ v, eA g0 234 5514 = v := ⟨_, rfl⟩
      have tv212 := congrArg Int32.toInt hv212
      have x213 := HI.eqA hI0 (p := 234) (j := 5514) (hv212)
      obtain ⟨v214, hv214⟩ : ∃ v, eA g0 234 5515 = v := ⟨_, rfl⟩
      have tv214 := congrArg Int32.toInt hv214
      have x215 := HI.eqA hI0 (p := 234) (j := 5515) (hv214)
      obtain ⟨v216, hv216⟩ : ∃ v, eA g0 234 5516 = v := ⟨_, rfl⟩
      have tv216 := congrArg Int32.toInt hv216
      have x217 := HI.eqA hI0 (p := 234) (j := 5516) (hv216)
      obtain ⟨v218, hv218⟩ : ∃ v, eA g0 235 0 = v := ⟨_, rfl⟩
      have tv218 := congrArg Int32.toInt hv218
      have x219 := HI.eqA hI0 (p := 235) (j := 0) (hv218)
      obtain ⟨v220, hv220⟩ : ∃ v, eA g0 235 1 = v := ⟨_, rfl⟩
      have tv220 := congrArg Int32.toInt hv220
      have x221 := HI.eqA hI0 (p := 235) (j := 1) (hv220)
      obtain ⟨v222, hv222⟩ : ∃ v, eA ys174 234 0 = v := ⟨_, rfl⟩
      have tv222 := congrArg Int32.toInt hv222
      have x223 := fun e : a1.toInt = 0 => HI.eqA hI188 (p := 234) (j := 0) ((((eA_c (hF189.2.1 234 (by decide))).trans (eA_c (gA_sA_ne (by decide)))).trans hv222))
      obtain ⟨v224, hv224⟩ : ∃ v, eA ys174 234 4 = v := ⟨_, rfl⟩
      have tv224 := congrArg Int32.toInt hv224
      have x225 := fun e : a1.toInt = 0 => HI.eqA hI188 (p := 234) (j := 4) ((((eA_c (hF189.2.1 234 (by decide))).trans (eA_c (gA_sA_ne (by decide)))).trans hv224))
      obtain ⟨v226, hv226⟩ : ∃ v, eA ys174 234 5 = v := ⟨_, rfl⟩
      have tv226 := congrArg Int32.toInt hv226
      have x227 := fun e : a1.toInt = 0 => HI.eqA hI188 (p := 234) (j := 5) ((((eA_c (hF189.2.1 234 (by decide))).trans (eA_c (gA_sA_ne (by decide)))).trans hv226))
      obtain ⟨v228, hv228⟩ : ∃ v, eA ys174 234 6 = v := ⟨_, rfl⟩
      have tv228 := congrArg Int32.toInt hv228
      have x229 := fun e : a1.toInt = 0 => HI.eqA hI188 (p := 234) (j := 6) ((((eA_c (hF189.2.1 234 (by decide))).trans (eA_c (gA_sA_ne (by decide)))).trans hv228))
      obtain ⟨v230, hv230⟩ : ∃ v, eA ys174 234 5510 = v := ⟨_, rfl⟩
      have tv230 := congrArg Int32.toInt hv230
      have x231 := fun e : a1.toInt = 0 => HI.eqA hI188 (p := 234) (j := 5510) ((((eA_c (hF189.2.1 234 (by decide))).trans (eA_c (gA_sA_ne (by decide)))).trans hv230))
      obtain ⟨v232, hv232⟩ : ∃ v, eA ys174 234 5514 = v := ⟨_, rfl⟩
      have tv232 := congrArg Int32.toInt hv232
      have x233 := fun e : a1.toInt = 0 => HI.eqA hI188 (p := 234) (j := 5514) ((((eA_c (hF189.2.1 234 (by decide))).trans (eA_c (gA_sA_ne (by decide)))).trans hv232))
      obtain ⟨v234, hv234⟩ : ∃ v, eA ys174 234 5515 = v := ⟨_, rfl⟩
      have tv234 := congrArg Int32.toInt hv234
      have x235 := fun e : a1.toInt = 0 => HI.eqA hI188 (p := 234) (j := 5515) ((((eA_c (hF189.2.1 234 (by decide))).trans (eA_c (gA_sA_ne (by decide)))).trans hv234))
      obtain ⟨v236, hv236⟩ : ∃ v, eA ys174 234 5516 = v := ⟨_, rfl⟩
      have tv236 := congrArg Int32.toInt hv236
      have x237 := fun e : a1.toInt = 0 => HI.eqA hI188 (p := 234) (j := 5516) ((((eA_c (hF189.2.1 234 (by decide))).trans (eA_c (gA_sA_ne (by decide)))).trans hv236))
      have x238 := fun e : a1.toInt = 0 => HI.eqA hI188 (p := 235) (j := 0) (((eA_c (hF189.2.1 235 (by decide))).trans (eA_sA_eq hI181.1 ka_235 (by omega) (by first | decide | omega) (by first | decide | omega))))
      have zv239 : (1 : Int32).toInt = 1 := rfl
      have x240 := fun e : a1.toInt = 0 => HI.eqA hI188 (p := 235) (j := 1) ((((eA_c (hF189.2.1 235 (by decide))).trans ((eA_sA_ne hI181.1 ka_235 (by first | decide | omega) (by first | decide | omega) (by first | decide | omega)).trans ((eA_c (hl176.2.1 235 (by decide))).trans (eA_c gA_sI)))).trans hv220))
      have x241 := fun e : a1.toInt = 1 => HI.eqA hI188 (p := 234) (j := 0) ((((eA_c (hF189.2.1 234 (by decide))).trans (eA_c (gA_sA_ne (by decide)))).trans hv222))
      have x242 := fun e : a1.toInt = 1 => HI.eqA hI188 (p := 234) (j := 4) ((((eA_c (hF189.2.1 234 (by decide))).trans (eA_c (gA_sA_ne (by decide)))).trans hv224))
      have x243 := fun e : a1.toInt = 1 => HI.eqA hI188 (p := 234) (j := 5) ((((eA_c (hF189.2.1 234 (by decide))).trans (eA_c (gA_sA_ne (by decide)))).trans hv226))
      have x244 := fun e : a1.toInt = 1 => HI.eqA hI188 (p := 234) (j := 6) ((((eA_c (hF189.2.1 234 (by decide))).trans (eA_c (gA_sA_ne (by decide)))).trans hv228))
      have x245 := fun e : a1.toInt = 1 => HI.eqA hI188 (p := 234) (j := 5510) ((((eA_c (hF189.2.1 234 (by decide))).trans (eA_c (gA_sA_ne (by decide)))).trans hv230))
      have x246 := fun e : a1.toInt = 1 => HI.eqA hI188 (p := 234) (j := 5514) ((((eA_c (hF189.2.1 234 (by decide))).trans (eA_c (gA_sA_ne (by decide)))).trans hv232))
      have x247 := fun e : a1.toInt = 1 => HI.eqA hI188 (p := 234) (j := 5515) ((((eA_c (hF189.2.1 234 (by decide))).trans (eA_c (gA_sA_ne (by decide)))).trans hv234))
      have x248 := fun e : a1.toInt = 1 => HI.eqA hI188 (p := 234) (j := 5516) ((((eA_c (hF189.2.1 234 (by decide))).trans (eA_c (gA_sA_ne (by decide)))).trans hv236))
      have x249 := fun e : a1.toInt = 1 => HI.eqA hI188 (p := 235) (j := 0) ((((eA_c (hF189.2.1 235 (by decide))).trans ((eA_sA_ne hI181.1 ka_235 (by first | decide | omega) (by first | decide | omega) (by first | decide | omega)).trans ((eA_c (hl176.2.1 235 (by decide))).trans (eA_c gA_sI)))).trans hv218))
      have x250 := fun e : a1.toInt = 1 => HI.eqA hI188 (p := 235) (j := 1) (((eA_c (hF189.2.1 235 (by decide))).trans (eA_sA_eq hI181.1 ka_235 (by omega) (by first | decide | omega) (by first | decide | omega))))
      have zv251 : (1 : Int32).toInt = 1 := rfl
      exact ⟨_, rfl, hI188, hF192, _, rfl, by omega, ⟨by omega, by omega, by omega, by omega, by omega⟩⟩

def F_X11_back_231 : List (Nat × Nat) := [(231, 0), (231, 1)]
def A_X11_back_231 : List Nat := [232, 233]
set_option maxRecDepth 100000 in
set_option maxHeartbeats 4000000 in
theorem T_X11_back_231 (d : Nat) {N : Nat} {g0 : List en_E} (hI0 : HI g0) (a1 : Int32) : Ev (d + 2) 166 [.ref 231, .int a1] (g0, N) (fun w h' => ∃ g', h' = (g', N) ∧ HI g' ∧ Fr F_X11_back_231 A_X11_back_231 g0 g' ∧ ∃ r : Int32, w = some (.int r) ∧ ((-2) ≤ r.toInt ∧ r.toInt ≤ 0) ∧ ((a1.toInt = 0 ∧ (eA g0 235 0).toInt ≠ 0 → r.toInt = 0 ∧ (eA g' 233 0).toInt = (eA g0 234 0).toInt ∧ (eA g' 233 4).toInt = (eA g0 234 4).toInt ∧ (eA g' 233 5).toInt = (eA g0 234 5).toInt ∧ (eA g' 233 6).toInt = (eA g0 234 6).toInt) ∧ (a1.toInt = 1 ∧ (eA g0 235 1).toInt ≠ 0 → r.toInt = 0 ∧ (eA g' 233 0).toInt = (eA g0 234 5510).toInt ∧ (eA g' 233 4).toInt = (eA g0 234 5514).toInt ∧ (eA g' 233 5).toInt = (eA g0 234 5515).toInt ∧ (eA g' 233 6).toInt = (eA g0 234 5516).toInt) ∧ (¬ (a1.toInt = 0 ∧ (eA g0 235 0).toInt ≠ 0) ∧ ¬ (a1.toInt = 1 ∧ (eA g0 235 1).toInt ≠ 0) → (eA g' 233 0).toInt = (eA g0 233 0).toInt ∧ (eA g' 233 4).toInt = (eA g0 233 4).toInt ∧ (eA g' 233 5).toInt = (eA g0 233 5).toInt ∧ (eA g' 233 6).toInt = (eA g0 233 6).toInt) ∧ (a1.toInt < 0 ∨ 1 < a1.toInt → r.toInt = -1) ∧ (0 ≤ a1.toInt ∧ a1.toInt ≤ 1 ∧ ¬ (a1.toInt = 0 ∧ (eA g0 235 0).toInt ≠ 0) ∧ ¬ (a1.toInt = 1 ∧ (eA g0 235 1).toInt ≠ 0) → r.toInt = -2))) := by
  have hF0 : Fr F_X11_back_231 A_X11_back_231 g0 g0 := Fr.rf
  refine Ev.mk rfl rfl ⟨Nat.le_of_ble_eq_true rfl, Or.inr (q_rc hI0.1 kx_231 rfl)⟩ ?_
  show At _ none _ _ (0, [(0, .ref 231), (1, .int a1)], [], (_, _)) _
  refine At.enter rfl ?_
  refine r_aload_n rfl ?_
  refine r_iconst 0 rfl ?_
  refine q_putI (Sh.int hI0.1 kx_231 rfl) rfl ?_
  have hI93 := HI.wI0 hI0 kx_231 rfl (p := 231) (b := 0) (v := 0) rfl
  have hF94 := Fr.wI (p := 231) (b := 0) (v := 0) hF0 rfl
  refine r_iload_n rfl ?_
  refine q_i2l (fun v95 hv95 => ?_)
  refine r_lconst 0 rfl ?_
  refine r_lconst 1 rfl ?_
  refine q_inlS 12 rfl [.long v95, .long 0, .long 1] [] (Nat.le_of_ble_eq_true rfl) rfl ?_
  refine Ev.mk rfl rfl ⟨Nat.le_of_ble_eq_true rfl, Or.inl rfl⟩ ?_
  show At _ none _ _ (0, [(0, .long v95), (2, .long 0), (4, .long 1)], [], (_, _)) _
  refine At.enter rfl ?_
  refine r_lload_n rfl ?_
  refine r_lload_n rfl ?_
  refine r_lcmp _ rfl ?_
  refine r_ifs 6 rfl (fun c96 => ?_) (fun c96 => ?_)
  · have c96_ : v95.toInt < 0 := en_j_lt_t c96
    refine At.enter rfl ?_
    refine r_iconst 0 rfl ?_
    refine Ar.fall 18 rfl ?_
    refine At.enter rfl ?_
    refine q_iretz (by decide) ?_
    refine At.enter rfl ?_
    refine r_iff 15 rfl (by decide) ?_
    refine At.enter rfl ?_
    refine r_aload_n rfl ?_
    refine r_iconst (-1) rfl ?_
    refine r_callV 20 rfl [.ref 231, .int (-1)] [] (Nat.le_of_ble_eq_true rfl) rfl (T_X11_tell_231 _ hI93 (-1) (by decide)) ?_
    rintro _ _ ⟨g97, rfl, hI98, hF99, v100, rfl, hr101⟩
    refine At.sti ?_
    have hF102 := Fr.tr hF94 hF99 rfl rfl
    have zv103 : ((-1) : Int32).toInt = (-1) := rfl
    refine At.enter rfl ?_
    refine r_ireti ?_
    obtain ⟨v104, hv104⟩ : ∃ v, eA g0 233 0 = v := ⟨_, rfl⟩
    have tv104 := congrArg Int32.toInt hv104
    have wv104 := HI.t0 hI0
    rw [hv104] at wv104
    have tv104 := congrArg Int32.toInt hv104
    have x105 := HI.eqA hI0 (p := 233) (j := 0) (hv104)
    obtain ⟨v106, hv106⟩ : ∃ v, eA g0 233 4 = v := ⟨_, rfl⟩
    have wv106 := HI.t4 hI0
    rw [hv106] at wv106
    have tv106 := congrArg Int32.toInt hv106
    have x107 := HI.eqA hI0 (p := 233) (j := 4) (hv106)
    obtain ⟨v108, hv108⟩ : ∃ v, eA g0 233 5 = v := ⟨_, rfl⟩
    have wv108 := HI.t5 hI0
    rw [hv108] at wv108
    have tv108 := congrArg Int32.toInt hv108
    have x109 := HI.eqA hI0 (p := 233) (j := 5) (hv108)
    obtain ⟨v110, hv110⟩ : ∃ v, eA g0 233 6 = v := ⟨_, rfl⟩
    have wv110 := HI.t6 hI0
    rw [hv110] at wv110
    have tv110 := congrArg Int32.toInt hv110
    have x111 := HI.eqA hI0 (p := 233) (j := 6) (hv110)
    obtain ⟨v112, hv112⟩ : ∃ v, eA g0 234 0 = v := ⟨_, rfl⟩
    have tv112 := congrArg Int32.toInt hv112
    have x113 := HI.eqA hI0 (p := 234) (j := 0) (hv112)
    obtain ⟨v114, hv114⟩ : ∃ v, eA g0 234 4 = v := ⟨_, rfl⟩
    have tv114 := congrArg Int32.toInt hv114
    have x115 := HI.eqA hI0 (p := 234) (j := 4) (hv114)
    obtain ⟨v116, hv116⟩ : ∃ v, eA g0 234 5 = v := ⟨_, rfl⟩
    have tv116 := congrArg Int32.toInt hv116
    have x117 := HI.eqA hI0 (p := 234) (j := 5) (hv116)
    obtain ⟨v118, hv118⟩ : ∃ v, eA g0 234 6 = v := ⟨_, rfl⟩
    have tv118 := congrArg Int32.toInt hv118
    have x119 := HI.eqA hI0 (p := 234) (j := 6) (hv118)
    obtain ⟨v120, hv120⟩ : ∃ v, eA g0 234 5510 = v := ⟨_, rfl⟩
    have tv120 := congrArg Int32.toInt hv120
    have x121 := HI.eqA hI0 (p := 234) (j := 5510) (hv120)
    obtain ⟨v122, hv122⟩ : ∃ v, eA g0 234 5514 = v := ⟨_, rfl⟩
    have tv122 := congrArg Int32.toInt hv122
    have x123 := HI.eqA hI0 (p := 234) (j := 5514) (hv122)
    obtain ⟨v124, hv124⟩ : ∃ v, eA g0 234 5515 = v := ⟨_, rfl⟩
    have tv124 := congrArg Int32.toInt hv124
    have x125 := HI.eqA hI0 (p := 234) (j := 5515) (hv124)
    obtain ⟨v126, hv126⟩ : ∃ v, eA g0 234 5516 = v := ⟨_, rfl⟩
    have tv126 := congrArg Int32.toInt hv126
    have x127 := HI.eqA hI0 (p := 234) (j := 5516) (hv126)
    obtain ⟨v128, hv128⟩ : ∃ v, eA g0 235 0 = v := ⟨_, rfl⟩
    have tv128 := congrArg Int32.toInt hv128
    have x129 := HI.eqA hI0 (p := 235) (j := 0) (hv128)
    obtain ⟨v130, hv130⟩ : ∃ v, eA g0 235 1 = v := ⟨_, rfl⟩
    have tv130 := congrArg Int32.toInt hv130
    have x131 := HI.eqA hI0 (p := 235) (j := 1) (hv130)
    have x132 := HI.eqA hI98 (p := 233) (j := 0) ((((eA_c (hF99.2.1 233 (by decide))).trans (eA_c gA_sI)).trans hv104))
    have x133 := HI.eqA hI98 (p := 233) (j := 4) ((((eA_c (hF99.2.1 233 (by decide))).trans (eA_c gA_sI)).trans hv106))
    have x134 := HI.eqA hI98 (p := 233) (j := 5) ((((eA_c (hF99.2.1 233 (by decide))).trans (eA_c gA_sI)).trans hv108))
    have x135 := HI.eqA hI98 (p := 233) (j := 6) ((((eA_c (hF99.2.1 233 (by decide))).trans (eA_c gA_sI)).trans hv110))
    exact ⟨_, rfl, hI98, hF102, _, rfl, by omega, ⟨by omega, by omega, by omega, by omega, by omega⟩⟩
  · have c96_ : v95.toInt ≥ 0 := en_j_lt_f c96
    refine At.enter rfl ?_
    refine r_lload_n rfl ?_
    refine r_lload rfl ?_
    refine r_lcmp _ rfl ?_
    refine r_ifs 13 rfl (fun c136 => ?_) (fun c136 => ?_)
    · have c136_ : v95.toInt > 1 := en_j_gt_t c136
      refine At.enter rfl ?_
      refine r_iconst 0 rfl ?_
      refine Ar.fall 18 rfl ?_
      refine At.enter rfl ?_
      refine q_iretz (by decide) ?_
      refine At.enter rfl ?_
      refine r_iff 15 rfl (by decide) ?_
      refine At.enter rfl ?_
      refine r_aload_n rfl ?_
      refine r_iconst (-1) rfl ?_
      refine r_callV 20 rfl [.ref 231, .int (-1)] [] (Nat.le_of_ble_eq_true rfl) rfl (T_X11_tell_231 _ hI93 (-1) (by decide)) ?_
      rintro _ _ ⟨g137, rfl, hI138, hF139, v140, rfl, hr141⟩
      refine At.sti ?_
      have hF142 := Fr.tr hF94 hF139 rfl rfl
      have zv143 : ((-1) : Int32).toInt = (-1) := rfl
      refine At.enter rfl ?_
      refine r_ireti ?_
      obtain ⟨v144, hv144⟩ : ∃ v, eA g0 233 0 = v := ⟨_, rfl⟩
      have tv144 := congrArg Int32.toInt hv144
      have wv144 := HI.t0 hI0
      rw [hv144] at wv144
      have tv144 := congrArg Int32.toInt hv144
      have x145 := HI.eqA hI0 (p := 233) (j := 0) (hv144)
      obtain ⟨v146, hv146⟩ : ∃ v, eA g0 233 4 = v := ⟨_, rfl⟩
      have wv146 := HI.t4 hI0
      rw [hv146] at wv146
      have tv146 := congrArg Int32.toInt hv146
      have x147 := HI.eqA hI0 (p := 233) (j := 4) (hv146)
      obtain ⟨v148, hv148⟩ : ∃ v, eA g0 233 5 = v := ⟨_, rfl⟩
      have wv148 := HI.t5 hI0
      rw [hv148] at wv148
      have tv148 := congrArg Int32.toInt hv148
      have x149 := HI.eqA hI0 (p := 233) (j := 5) (hv148)
      obtain ⟨v150, hv150⟩ : ∃ v, eA g0 233 6 = v := ⟨_, rfl⟩
      have wv150 := HI.t6 hI0
      rw [hv150] at wv150
      have tv150 := congrArg Int32.toInt hv150
      have x151 := HI.eqA hI0 (p := 233) (j := 6) (hv150)
      obtain ⟨v152, hv152⟩ : ∃ v, eA g0 234 0 = v := ⟨_, rfl⟩
      have tv152 := congrArg Int32.toInt hv152
      have x153 := HI.eqA hI0 (p := 234) (j := 0) (hv152)
      obtain ⟨v154, hv154⟩ : ∃ v, eA g0 234 4 = v := ⟨_, rfl⟩
      have tv154 := congrArg Int32.toInt hv154
      have x155 := HI.eqA hI0 (p := 234) (j := 4) (hv154)
      obtain ⟨v156, hv156⟩ : ∃ v, eA g0 234 5 = v := ⟨_, rfl⟩
      have tv156 := congrArg Int32.toInt hv156
      have x157 := HI.eqA hI0 (p := 234) (j := 5) (hv156)
      obtain ⟨v158, hv158⟩ : ∃ v, eA g0 234 6 = v := ⟨_, rfl⟩
      have tv158 := congrArg Int32.toInt hv158
      have x159 := HI.eqA hI0 (p := 234) (j := 6) (hv158)
      obtain ⟨v160, hv160⟩ : ∃ v, eA g0 234 5510 = v := ⟨_, rfl⟩
      have tv160 := congrArg Int32.toInt hv160
      have x161 := HI.eqA hI0 (p := 234) (j := 5510) (hv160)
      obtain ⟨v162, hv162⟩ : ∃ v, eA g0 234 5514 = v := ⟨_, rfl⟩
      have tv162 := congrArg Int32.toInt hv162
      have x163 := HI.eqA hI0 (p := 234) (j := 5514) (hv162)
      obtain ⟨v164, hv164⟩ : ∃ v, eA g0 234 5515 = v := ⟨_, rfl⟩
      have tv164 := congrArg Int32.toInt hv164
      have x165 := HI.eqA hI0 (p := 234) (j := 5515) (hv164)
      obtain ⟨v166, hv166⟩ : ∃ v, eA g0 234 5516 = v := ⟨_, rfl⟩
      have tv166 := congrArg Int32.toInt hv166
      have x167 := HI.eqA hI0 (p := 234) (j := 5516) (hv166)
      obtain ⟨v168, hv168⟩ : ∃ v, eA g0 235 0 = v := ⟨_, rfl⟩
      have tv168 := congrArg Int32.toInt hv168
      have x169 := HI.eqA hI0 (p := 235) (j := 0) (hv168)
      obtain ⟨v170, hv170⟩ : ∃ v, eA g0 235 1 = v := ⟨_, rfl⟩
      have tv170 := congrArg Int32.toInt hv170
      have x171 := HI.eqA hI0 (p := 235) (j := 1) (hv170)
      have x172 := HI.eqA hI138 (p := 233) (j := 0) ((((eA_c (hF139.2.1 233 (by decide))).trans (eA_c gA_sI)).trans hv144))
      have x173 := HI.eqA hI138 (p := 233) (j := 4) ((((eA_c (hF139.2.1 233 (by decide))).trans (eA_c gA_sI)).trans hv146))
      have x174 := HI.eqA hI138 (p := 233) (j := 5) ((((eA_c (hF139.2.1 233 (by decide))).trans (eA_c gA_sI)).trans hv148))
      have x175 := HI.eqA hI138 (p := 233) (j := 6) ((((eA_c (hF139.2.1 233 (by decide))).trans (eA_c gA_sI)).trans hv150))
      exact ⟨_, rfl, hI138, hF142, _, rfl, by omega, ⟨by omega, by omega, by omega, by omega, by omega⟩⟩
    · have c136_ : v95.toInt ≤ 1 := en_j_gt_f c136
      refine At.enter rfl ?_
      refine r_iconst 1 rfl ?_
      refine r_goto ?_
      refine At.enter rfl ?_
      refine q_iretz (by decide) ?_
      refine At.enter rfl ?_
      refine r_ift (by decide) ?_
      refine At.enter rfl ?_
      refine r_aload_n rfl ?_
      refine q_getR (Sh.ref hI93.1 kx_231 rfl) ?_
      refine r_iload_n rfl ?_
      obtain ⟨v176, hv176⟩ : ∃ v, eA g0 235 a1.toInt = v := ⟨_, rfl⟩
      refine q_bald (Sh.arr hI93.1 ka_235) a1.toInt rfl (by omega) v176 ((eA_c (gA_sI)).trans hv176) ?_
      refine r_ifs 30 rfl (fun c177 => ?_) (fun c177 => ?_)
      · have c177_ : v176.toInt ≠ 0 := en_k_ne_t c177
        refine At.enter rfl ?_
        refine r_iconst 0 rfl ?_
        refine r_istore_n ([(2, .int 0), (0, .ref 231), (1, .int a1)]) rfl ?_
        refine Ar.fall 39 rfl ?_
        refine zb_loopG hI93 ⟨by omega, by omega⟩ (by rw [((eA_c gA_sI).trans hv176)]; omega) rfl rfl rfl (fun ys178 l179 hI185 hl180 hc181 e183 e184 => ?_)
        have hF187 := Fr.tr hF94 hl180 rfl rfl
        have m188_0_0 : a1.toInt = 0 → (eA ys178 233 0).toInt = (eA g0 234 0).toInt := fun e => by have z := hc181 0 (by decide) (by decide); rw [show 5510 * a1.toInt + 0 = 0 by omega, eA_c (gA_sI)] at z; exact congrArg Int32.toInt z
        have m188_1_0 : a1.toInt = 1 → (eA ys178 233 0).toInt = (eA g0 234 5510).toInt := fun e => by have z := hc181 0 (by decide) (by decide); rw [show 5510 * a1.toInt + 0 = 5510 by omega, eA_c (gA_sI)] at z; exact congrArg Int32.toInt z
        have m188_0_4 : a1.toInt = 0 → (eA ys178 233 4).toInt = (eA g0 234 4).toInt := fun e => by have z := hc181 4 (by decide) (by decide); rw [show 5510 * a1.toInt + 4 = 4 by omega, eA_c (gA_sI)] at z; exact congrArg Int32.toInt z
        have m188_1_4 : a1.toInt = 1 → (eA ys178 233 4).toInt = (eA g0 234 5514).toInt := fun e => by have z := hc181 4 (by decide) (by decide); rw [show 5510 * a1.toInt + 4 = 5514 by omega, eA_c (gA_sI)] at z; exact congrArg Int32.toInt z
        have m188_0_5 : a1.toInt = 0 → (eA ys178 233 5).toInt = (eA g0 234 5).toInt := fun e => by have z := hc181 5 (by decide) (by decide); rw [show 5510 * a1.toInt + 5 = 5 by omega, eA_c (gA_sI)] at z; exact congrArg Int32.toInt z
        have m188_1_5 : a1.toInt = 1 → (eA ys178 233 5).toInt = (eA g0 234 5515).toInt := fun e => by have z := hc181 5 (by decide) (by decide); rw [show 5510 * a1.toInt + 5 = 5515 by omega, eA_c (gA_sI)] at z; exact congrArg Int32.toInt z
        have m188_0_6 : a1.toInt = 0 → (eA ys178 233 6).toInt = (eA g0 234 6).toInt := fun e => by have z := hc181 6 (by decide) (by decide); rw [show 5510 * a1.toInt + 6 = 6 by omega, eA_c (gA_sI)] at z; exact congrArg Int32.toInt z
        have m188_1_6 : a1.toInt = 1 → (eA ys178 233 6).toInt = (eA g0 234 5516).toInt := fun e => by have z := hc181 6 (by decide) (by decide); rw [show 5510 * a1.toInt + 6 = 5516 by omega, eA_c (gA_sI)] at z; exact congrArg Int32.toInt z
        refine At.enter rfl ?_
        refine r_aload_n e183 ?_
        refine r_iconst 0 rfl ?_
        refine r_callV 75 rfl [.ref 231, .int 0] [] (Nat.le_of_ble_eq_true rfl) rfl (T_X11_tell_231 _ hI185 0 (by decide)) ?_
        rintro _ _ ⟨g189, rfl, hI190, hF191, v192, rfl, hr193⟩
        refine At.sti ?_
        have hF194 := Fr.tr hF187 hF191 rfl rfl
        have zv195 : (0 : Int32).toInt = 0 := rfl
        refine At.enter rfl ?_
        refine r_ireti ?_
        obtain ⟨v196, hv196⟩ : ∃ v, eA g0 233 0 = v := ⟨_, rfl⟩
        have tv196 := congrArg Int32.toInt hv196
        have wv196 := HI.t0 hI0
        rw [hv196] at wv196
        have tv196 := congrArg Int32.toInt hv196
        have x197 := HI.eqA hI0 (p := 233) (j := 0) (hv196)
        obtain ⟨v198, hv198⟩ : ∃ v, eA g0 233 4 = v := ⟨_, rfl⟩
        have wv198 := HI.t4 hI0
        rw [hv198] at wv198
        have tv198 := congrArg Int32.toInt hv198
        have x199 := HI.eqA hI0 (p := 233) (j := 4) (hv198)
        obtain ⟨v200, hv200⟩ : ∃ v, eA g0 233 5 = v := ⟨_, rfl⟩
        have wv200 := HI.t5 hI0
        rw [hv200] at wv200
        have tv200 := congrArg Int32.toInt hv200
        have x201 := HI.eqA hI0 (p := 233) (j := 5) (hv200)
        obtain ⟨v202, hv202⟩ : ∃ v, eA g0 233 6 = v := ⟨_, rfl⟩
        have wv202 := HI.t6 hI0
        rw [hv202] at wv202
        have tv202 := congrArg Int32.toInt hv202
        have x203 := HI.eqA hI0 (p := 233) (j := 6) (hv202)
        obtain ⟨v204, hv204⟩ : ∃ v, eA g0 234 0 = v := ⟨_, rfl⟩
        have tv204 := congrArg Int32.toInt hv204
        have x205 := HI.eqA hI0 (p := 234) (j := 0) (hv204)
        obtain ⟨v206, hv206⟩ : ∃ v, eA g0 234 4 = v := ⟨_, rfl⟩
        have tv206 := congrArg Int32.toInt hv206
        have x207 := HI.eqA hI0 (p := 234) (j := 4) (hv206)
        obtain ⟨v208, hv208⟩ : ∃ v, eA g0 234 5 = v := ⟨_, rfl⟩
        have tv208 := congrArg Int32.toInt hv208
        have x209 := HI.eqA hI0 (p := 234) (j := 5) (hv208)
        obtain ⟨v210, hv210⟩ : ∃ v, eA g0 234 6 = v := ⟨_, rfl⟩
        have tv210 := congrArg Int32.toInt hv210
        have x211 := HI.eqA hI0 (p := 234) (j := 6) (hv210)
        obtain ⟨v212, hv212⟩ : ∃ v, eA g0 234 5510 = v := ⟨_, rfl⟩
        have tv212 := congrArg Int32.toInt hv212
        have x213 := HI.eqA hI0 (p := 234) (j := 5510) (hv212)
        obtain ⟨v214, hv214⟩ : ∃ v, eA g0 234 5514 = v := ⟨_, rfl⟩
        have tv214 := congrArg Int32.toInt hv214
        have x215 := HI.eqA hI0 (p := 234) (j := 5514) (hv214)
        obtain ⟨v216, hv216⟩ : ∃ v, eA g0 234 5515 = v := ⟨_, rfl⟩
        have tv216 := congrArg Int32.toInt hv216
        have x217 := HI.eqA hI0 (p := 234) (j := 5515) (hv216)
        obtain ⟨v218, hv218⟩ : ∃ v, eA g0 234 5516 = v := ⟨_, rfl⟩
        have tv218 := congrArg Int32.toInt hv218
        have x219 := HI.eqA hI0 (p := 234) (j := 5516) (hv218)
        obtain ⟨v220, hv220⟩ : ∃ v, eA g0 235 0 = v := ⟨_, rfl⟩
        have tv220 := congrArg Int32.toInt hv220
        have x221 := HI.eqA hI0 (p := 235) (j := 0) (hv220)
        obtain ⟨v222, hv222⟩ : ∃ v, eA g0 235 1 = v := ⟨_, rfl⟩
        have tv222 := congrArg Int32.toInt hv222
        have x223 := HI.eqA hI0 (p := 235) (j := 1) (hv222)
        obtain ⟨v224, hv224⟩ : ∃ v, eA ys178 233 0 = v := ⟨_, rfl⟩
        have tv224 := congrArg Int32.toInt hv224
        have wv224 := HI.t0 hI185
        rw [hv224] at wv224
        have tv224 := congrArg Int32.toInt hv224
        have x225 := fun e : a1.toInt = 0 => HI.eqA hI190 (p := 233) (j := 0) (((eA_c (hF191.2.1 233 (by decide))).trans hv224))
        obtain ⟨v226, hv226⟩ : ∃ v, eA ys178 233 4 = v := ⟨_, rfl⟩
        have wv226 := HI.t4 hI185
        rw [hv226] at wv226
        have tv226 := congrArg Int32.toInt hv226
        have x227 := fun e : a1.toInt = 0 => HI.eqA hI190 (p := 233) (j := 4) (((eA_c (hF191.2.1 233 (by decide))).trans hv226))
        obtain ⟨v228, hv228⟩ : ∃ v, eA ys178 233 5 = v := ⟨_, rfl⟩
        have wv228 := HI.t5 hI185
        rw [hv228] at wv228
        have tv228 := congrArg Int32.toInt hv228
        have x229 := fun e : a1.toInt = 0 => HI.eqA hI190 (p := 233) (j := 5) (((eA_c (hF191.2.1 233 (by decide))).trans hv228))
        obtain ⟨v230, hv230⟩ : ∃ v, eA ys178 233 6 = v := ⟨_, rfl⟩
        have wv230 := HI.t6 hI185
        rw [hv230] at wv230
        have tv230 := congrArg Int32.toInt hv230
        have x231 := fun e : a1.toInt = 0 => HI.eqA hI190 (p := 233) (j := 6) (((eA_c (hF191.2.1 233 (by decide))).trans hv230))
        have y232 : a1.toInt = 0 → (eA g0 235 0).toInt = v176.toInt := fun e => by rw [← hv176, e]
        have x233 := fun e : a1.toInt = 1 => HI.eqA hI190 (p := 233) (j := 0) (((eA_c (hF191.2.1 233 (by decide))).trans hv224))
        have x234 := fun e : a1.toInt = 1 => HI.eqA hI190 (p := 233) (j := 4) (((eA_c (hF191.2.1 233 (by decide))).trans hv226))
        have x235 := fun e : a1.toInt = 1 => HI.eqA hI190 (p := 233) (j := 5) (((eA_c (hF191.2.1 233 (by decide))).trans hv228))
        have x236 := fun e : a1.toInt = 1 => HI.eqA hI190 (p := 233) (j := 6) (((eA_c (hF191.2.1 233 (by decide))).trans hv230))
        have y237 : a1.toInt = 1 → (eA g0 235 1).toInt = v176.toInt := fun e => by rw [← hv176, e]
        exact ⟨_, rfl, hI190, hF194, _, rfl, by omega, ⟨by omega, by omega, by omega, by omega, by omega⟩⟩
      · have c177_ : v176.toInt = 0 := en_k_ne_f c177
        refine At.enter rfl ?_
        refine r_aload_n rfl ?_
        refine r_bipush (-2) rfl ?_
        refine r_callV 36 rfl [.ref 231, .int (-2)] [] (Nat.le_of_ble_eq_true rfl) rfl (T_X11_tell_231 _ hI93 (-2) (by decide)) ?_
        rintro _ _ ⟨g238, rfl, hI239, hF240, v241, rfl, hr242⟩
        refine At.sti ?_
        have hF243 := Fr.tr hF94 hF240 rfl rfl
        have zv244 : ((-2) : Int32).toInt = (-2) := rfl
        refine At.enter rfl ?_
        refine r_ireti ?_
        obtain ⟨v245, hv245⟩ : ∃ v, eA g0 233 0 = v := ⟨_, rfl⟩
        have tv245 := congrArg Int32.toInt hv245
        have wv245 := HI.t0 hI0
        rw [hv245] at wv245
        have tv245 := congrArg Int32.toInt hv245
        have x246 := HI.eqA hI0 (p := 233) (j := 0) (hv245)
        obtain ⟨v247, hv247⟩ : ∃ v, eA g0 233 4 = v := ⟨_, rfl⟩
        have wv247 := HI.t4 hI0
        rw [hv247] at wv247
        have tv247 := congrArg Int32.toInt hv247
        have x248 := HI.eqA hI0 (p := 233) (j := 4) (hv247)
        obtain ⟨v249, hv249⟩ : ∃ v, eA g0 233 5 = v := ⟨_, rfl⟩
        have wv249 := HI.t5 hI0
        rw [hv249] at wv249
        have tv249 := congrArg Int32.toInt hv249
        have x250 := HI.eqA hI0 (p := 233) (j := 5) (hv249)
        obtain ⟨v251, hv251⟩ : ∃ v, eA g0 233 6 = v := ⟨_, rfl⟩
        have wv251 := HI.t6 hI0
        rw [hv251] at wv251
        have tv251 := congrArg Int32.toInt hv251
        have x252 := HI.eqA hI0 (p := 233) (j := 6) (hv251)
        obtain ⟨v253, hv253⟩ : ∃ v, eA g0 234 0 = v := ⟨_, rfl⟩
        have tv253 := congrArg Int32.toInt hv253
        have x254 := HI.eqA hI0 (p := 234) (j := 0) (hv253)
        obtain ⟨v255, hv255⟩ : ∃ v, eA g0 234 4 = v := ⟨_, rfl⟩
        have tv255 := congrArg Int32.toInt hv255
        have x256 := HI.eqA hI0 (p := 234) (j := 4) (hv255)
        obtain ⟨v257, hv257⟩ : ∃ v, eA g0 234 5 = v := ⟨_, rfl⟩
        have tv257 := congrArg Int32.toInt hv257
        have x258 := HI.eqA hI0 (p := 234) (j := 5) (hv257)
        obtain ⟨v259, hv259⟩ : ∃ v, eA g0 234 6 = v := ⟨_, rfl⟩
        have tv259 := congrArg Int32.toInt hv259
        have x260 := HI.eqA hI0 (p := 234) (j := 6) (hv259)
        obtain ⟨v261, hv261⟩ : ∃ v, eA g0 234 5510 = v := ⟨_, rfl⟩
        have tv261 := congrArg Int32.toInt hv261
        have x262 := HI.eqA hI0 (p := 234) (j := 5510) (hv261)
        obtain ⟨v263, hv263⟩ : ∃ v, eA g0 234 5514 = v := ⟨_, rfl⟩
        have tv263 := congrArg Int32.toInt hv263
        have x264 := HI.eqA hI0 (p := 234) (j := 5514) (hv263)
        obtain ⟨v265, hv265⟩ : ∃ v, eA g0 234 5515 = v := ⟨_, rfl⟩
        have tv265 := congrArg Int32.toInt hv265
        have x266 := HI.eqA hI0 (p := 234) (j := 5515) (hv265)
        obtain ⟨v267, hv267⟩ : ∃ v, eA g0 234 5516 = v := ⟨_, rfl⟩
        have tv267 := congrArg Int32.toInt hv267
        have x268 := HI.eqA hI0 (p := 234) (j := 5516) (hv267)
        obtain ⟨v269, hv269⟩ : ∃ v, eA g0 235 0 = v := ⟨_, rfl⟩
        have tv269 := congrArg Int32.toInt hv269
        have x270 := HI.eqA hI0 (p := 235) (j := 0) (hv269)
        obtain ⟨v271, hv271⟩ : ∃ v, eA g0 235 1 = v := ⟨_, rfl⟩
        have tv271 := congrArg Int32.toInt hv271
        have x272 := HI.eqA hI0 (p := 235) (j := 1) (hv271)
        have x273 := fun e : a1.toInt = 0 => HI.eqA hI239 (p := 233) (j := 0) ((((eA_c (hF240.2.1 233 (by decide))).trans (eA_c gA_sI)).trans hv245))
        have x274 := fun e : a1.toInt = 0 => HI.eqA hI239 (p := 233) (j := 4) ((((eA_c (hF240.2.1 233 (by decide))).trans (eA_c gA_sI)).trans hv247))
        have x275 := fun e : a1.toInt = 0 => HI.eqA hI239 (p := 233) (j := 5) ((((eA_c (hF240.2.1 233 (by decide))).trans (eA_c gA_sI)).trans hv249))
        have x276 := fun e : a1.toInt = 0 => HI.eqA hI239 (p := 233) (j := 6) ((((eA_c (hF240.2.1 233 (by decide))).trans (eA_c gA_sI)).trans hv251))
        have y277 : a1.toInt = 0 → (eA g0 235 0).toInt = v176.toInt := fun e => by rw [← hv176, e]
        have x278 := fun e : a1.toInt = 1 => HI.eqA hI239 (p := 233) (j := 0) ((((eA_c (hF240.2.1 233 (by decide))).trans (eA_c gA_sI)).trans hv245))
        have x279 := fun e : a1.toInt = 1 => HI.eqA hI239 (p := 233) (j := 4) ((((eA_c (hF240.2.1 233 (by decide))).trans (eA_c gA_sI)).trans hv247))
        have x280 := fun e : a1.toInt = 1 => HI.eqA hI239 (p := 233) (j := 5) ((((eA_c (hF240.2.1 233 (by decide))).trans (eA_c gA_sI)).trans hv249))
        have x281 := fun e : a1.toInt = 1 => HI.eqA hI239 (p := 233) (j := 6) ((((eA_c (hF240.2.1 233 (by decide))).trans (eA_c gA_sI)).trans hv251))
        have y282 : a1.toInt = 1 → (eA g0 235 1).toInt = v176.toInt := fun e => by rw [← hv176, e]
        exact ⟨_, rfl, hI239, hF243, _, rfl, by omega, ⟨by omega, by omega, by omega, by omega, by omega⟩⟩
