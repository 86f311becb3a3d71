def F_X11_image_231 : List (Nat × Nat) := [(231, 0), (231, 1)]
def A_X11_image_231 : List Nat := [232, 234, 235]
theorem ma_X11_tell_231_234 : memA A_X11_tell_231 234 = false := by decide
theorem ma_X11_tell_231_235 : memA A_X11_tell_231 235 = false := by decide
set_option maxRecDepth 100000 in
set_option maxHeartbeats 4000000 in
theorem T_X11_image_231 (d : Nat) {N : Nat} {g0 : List en_E} (hI0 : HI g0) (a1 : Int32) : Ev (d + 2) 165 [.ref 231, .int a1] (g0, N) (fun w h' => ∃ g', h' = (g', N) ∧ HI g' ∧ Fr F_X11_image_231 A_X11_image_231 g0 g' ∧ ∃ r : Int32, w = some (.int r) ∧ ((-1) ≤ r.toInt ∧ r.toInt ≤ 0) ∧ (((a1.toInt = 0 → (eA g' 235 0).toInt = 1 ∧ r.toInt = 0 ∧ (eA g' 234 0).toInt = (eA g0 233 0).toInt ∧ (eA g' 234 4).toInt = (eA g0 233 4).toInt ∧ (eA g' 234 5).toInt = (eA g0 233 5).toInt ∧ (eA g' 234 6).toInt = (eA g0 233 6).toInt ∧ (eA g' 234 1).toInt = (eA g0 233 1).toInt ∧ (eA g' 234 2).toInt = (eA g0 233 2).toInt ∧ (eA g' 234 3).toInt = (eA g0 233 3).toInt) ∧ (a1.toInt ≠ 0 → (eA g' 235 0).toInt = (eA g0 235 0).toInt ∧ (eA g' 234 0).toInt = (eA g0 234 0).toInt ∧ (eA g' 234 4).toInt = (eA g0 234 4).toInt ∧ (eA g' 234 5).toInt = (eA g0 234 5).toInt ∧ (eA g' 234 6).toInt = (eA g0 234 6).toInt ∧ (eA g' 234 1).toInt = (eA g0 234 1).toInt ∧ (eA g' 234 2).toInt = (eA g0 234 2).toInt ∧ (eA g' 234 3).toInt = (eA g0 234 3).toInt) ∧ (a1.toInt = 1 → (eA g' 235 1).toInt = 1 ∧ r.toInt = 0 ∧ (eA g' 234 5510).toInt = (eA g0 233 0).toInt ∧ (eA g' 234 5514).toInt = (eA g0 233 4).toInt ∧ (eA g' 234 5515).toInt = (eA g0 233 5).toInt ∧ (eA g' 234 5516).toInt = (eA g0 233 6).toInt ∧ (eA g' 234 5511).toInt = (eA g0 233 1).toInt ∧ (eA g' 234 5512).toInt = (eA g0 233 2).toInt ∧ (eA g' 234 5513).toInt = (eA g0 233 3).toInt) ∧ (a1.toInt ≠ 1 → (eA g' 235 1).toInt = (eA g0 235 1).toInt ∧ (eA g' 234 5510).toInt = (eA g0 234 5510).toInt ∧ (eA g' 234 5514).toInt = (eA g0 234 5514).toInt ∧ (eA g' 234 5515).toInt = (eA g0 234 5515).toInt ∧ (eA g' 234 5516).toInt = (eA g0 234 5516).toInt ∧ (eA g' 234 5511).toInt = (eA g0 234 5511).toInt ∧ (eA g' 234 5512).toInt = (eA g0 234 5512).toInt ∧ (eA g' 234 5513).toInt = (eA g0 234 5513).toInt) ∧ (a1.toInt < 0 ∨ 1 < a1.toInt → r.toInt = -1)) ∧ (∀ i : Int, 10 ≤ i → i < 5510 → (eA g' 234 (i)).toInt = if a1.toInt = 0 then (eA g0 233 (i)).toInt else (eA g0 234 (i)).toInt) ∧ (∀ i : Int, 10 ≤ i → i < 5510 → (eA g' 234 (5510 + i)).toInt = if a1.toInt = 1 then (eA g0 233 (i)).toInt else (eA g0 234 (5510 + i)).toInt))) := by
  have hF0 : Fr F_X11_image_231 A_X11_image_231 g0 g0 := Fr.rf
  refine Ev.mk rfl rfl ⟨Nat.le_of_ble_eq_true rfl, Or.inr (q_rc hI0.1 kx_231 rfl)⟩ ?_
  show At _ none _ _ (0, [(0, .ref 231), (1, .int a1)], [], (_, _)) _
  refine At.enter rfl ?_
  refine r_aload_n rfl ?_
  refine r_iconst 0 rfl ?_
  refine q_putI (Sh.int hI0.1 kx_231 rfl) rfl ?_
  have hI77 := HI.wI0 hI0 kx_231 rfl (p := 231) (b := 0) (v := 0) rfl
  have hF78 := Fr.wI (p := 231) (b := 0) (v := 0) hF0 rfl
  refine r_iload_n rfl ?_
  refine q_i2l (fun v79 hv79 => ?_)
  refine r_lconst 0 rfl ?_
  refine r_lconst 1 rfl ?_
  refine q_inlS 12 rfl [.long v79, .long 0, .long 1] [] (Nat.le_of_ble_eq_true rfl) rfl ?_
  refine Ev.mk rfl rfl ⟨Nat.le_of_ble_eq_true rfl, Or.inl rfl⟩ ?_
  show At _ none _ _ (0, [(0, .long v79), (2, .long 0), (4, .long 1)], [], (_, _)) _
  refine At.enter rfl ?_
  refine r_lload_n rfl ?_
  refine r_lload_n rfl ?_
  refine r_lcmp _ rfl ?_
  refine r_ifs 6 rfl (fun c80 => ?_) (fun c80 => ?_)
  · have c80_ : v79.toInt < 0 := en_j_lt_t c80
    refine At.enter rfl ?_
    refine r_iconst 0 rfl ?_
    refine Ar.fall 18 rfl ?_
    refine At.enter rfl ?_
    refine q_iretz (by decide) ?_
    refine At.enter rfl ?_
    refine r_iff 15 rfl (by decide) ?_
    refine At.enter rfl ?_
    refine r_aload_n rfl ?_
    refine r_iconst (-1) rfl ?_
    refine r_callV 20 rfl [.ref 231, .int (-1)] [] (Nat.le_of_ble_eq_true rfl) rfl (T_X11_tell_231 _ hI77 (-1) (by decide)) ?_
    rintro _ _ ⟨g81, rfl, hI82, hF83, v84, rfl, hr85⟩
    refine At.sti ?_
    have hF86 := Fr.tr hF78 hF83 rfl rfl
    have zv87 : ((-1) : Int32).toInt = (-1) := rfl
    refine At.enter rfl ?_
    refine r_ireti ?_
    obtain ⟨v88, hv88⟩ : ∃ v, eA g0 233 0 = v := ⟨_, rfl⟩
    have tv88 := congrArg Int32.toInt hv88
    have wv88 := HI.t0 hI0
    rw [hv88] at wv88
    have tv88 := congrArg Int32.toInt hv88
    have x89 := HI.eqA hI0 (p := 233) (j := 0) (hv88)
    obtain ⟨v90, hv90⟩ : ∃ v, eA g0 233 4 = v := ⟨_, rfl⟩
    have wv90 := HI.t4 hI0
    rw [hv90] at wv90
    have tv90 := congrArg Int32.toInt hv90
    have x91 := HI.eqA hI0 (p := 233) (j := 4) (hv90)
    obtain ⟨v92, hv92⟩ : ∃ v, eA g0 233 5 = v := ⟨_, rfl⟩
    have wv92 := HI.t5 hI0
    rw [hv92] at wv92
    have tv92 := congrArg Int32.toInt hv92
    have x93 := HI.eqA hI0 (p := 233) (j := 5) (hv92)
    obtain ⟨v94, hv94⟩ : ∃ v, eA g0 233 6 = v := ⟨_, rfl⟩
    have wv94 := HI.t6 hI0
    rw [hv94] at wv94
    have tv94 := congrArg Int32.toInt hv94
    have x95 := HI.eqA hI0 (p := 233) (j := 6) (hv94)
    obtain ⟨v96, hv96⟩ : ∃ v, eA g0 233 1 = v := ⟨_, rfl⟩
    have tv96 := congrArg Int32.toInt hv96
    have wv96 := HI.t1 hI0
    rw [hv96] at wv96
    have tv96 := congrArg Int32.toInt hv96
    have x97 := HI.eqA hI0 (p := 233) (j := 1) (hv96)
    obtain ⟨v98, hv98⟩ : ∃ v, eA g0 233 2 = v := ⟨_, rfl⟩
    have tv98 := congrArg Int32.toInt hv98
    have wv98 := HI.t2 hI0
    rw [hv98] at wv98
    have tv98 := congrArg Int32.toInt hv98
    have x99 := HI.eqA hI0 (p := 233) (j := 2) (hv98)
    obtain ⟨v100, hv100⟩ : ∃ v, eA g0 233 3 = v := ⟨_, rfl⟩
    have wv100 := HI.t3 hI0
    rw [hv100] at wv100
    have tv100 := congrArg Int32.toInt hv100
    have x101 := HI.eqA hI0 (p := 233) (j := 3) (hv100)
    obtain ⟨v102, hv102⟩ : ∃ v, eA g0 234 0 = v := ⟨_, rfl⟩
    have tv102 := congrArg Int32.toInt hv102
    have x103 := HI.eqA hI0 (p := 234) (j := 0) (hv102)
    obtain ⟨v104, hv104⟩ : ∃ v, eA g0 234 4 = v := ⟨_, rfl⟩
    have tv104 := congrArg Int32.toInt hv104
    have x105 := HI.eqA hI0 (p := 234) (j := 4) (hv104)
    obtain ⟨v106, hv106⟩ : ∃ v, eA g0 234 5 = v := ⟨_, rfl⟩
    have tv106 := congrArg Int32.toInt hv106
    have x107 := HI.eqA hI0 (p := 234) (j := 5) (hv106)
    obtain ⟨v108, hv108⟩ : ∃ v, eA g0 234 6 = v := ⟨_, rfl⟩
    have tv108 := congrArg Int32.toInt hv108
    have x109 := HI.eqA hI0 (p := 234) (j := 6) (hv108)
    obtain ⟨v110, hv110⟩ : ∃ v, eA g0 234 1 = v := ⟨_, rfl⟩
    have tv110 := congrArg Int32.toInt hv110
    have x111 := HI.eqA hI0 (p := 234) (j := 1) (hv110)
    obtain ⟨v112, hv112⟩ : ∃ v, eA g0 234 2 = v := ⟨_, rfl⟩
    have tv112 := congrArg Int32.toInt hv112
    have x113 := HI.eqA hI0 (p := 234) (j := 2) (hv112)
    obtain ⟨v114, hv114⟩ : ∃ v, eA g0 234 3 = v := ⟨_, rfl⟩
    have tv114 := congrArg Int32.toInt hv114
    have x115 := HI.eqA hI0 (p := 234) (j := 3) (hv114)
    obtain ⟨v116, hv116⟩ : ∃ v, eA g0 234 5510 = v := ⟨_, rfl⟩
    have tv116 := congrArg Int32.toInt hv116
    have x117 := HI.eqA hI0 (p := 234) (j := 5510) (hv116)
    obtain ⟨v118, hv118⟩ : ∃ v, eA g0 234 5514 = v := ⟨_, rfl⟩
    have tv118 := congrArg Int32.toInt hv118
    have x119 := HI.eqA hI0 (p := 234) (j := 5514) (hv118)
    obtain ⟨v120, hv120⟩ : ∃ v, eA g0 234 5515 = v := ⟨_, rfl⟩
    have tv120 := congrArg Int32.toInt hv120
    have x121 := HI.eqA hI0 (p := 234) (j := 5515) (hv120)
    obtain ⟨v122, hv122⟩ : ∃ v, eA g0 234 5516 = v := ⟨_, rfl⟩
    have tv122 := congrArg Int32.toInt hv122
    have x123 := HI.eqA hI0 (p := 234) (j := 5516) (hv122)
    obtain ⟨v124, hv124⟩ : ∃ v, eA g0 234 5511 = v := ⟨_, rfl⟩
    have tv124 := congrArg Int32.toInt hv124
    have x125 := HI.eqA hI0 (p := 234) (j := 5511) (hv124)
    obtain ⟨v126, hv126⟩ : ∃ v, eA g0 234 5512 = v := ⟨_, rfl⟩
    have tv126 := congrArg Int32.toInt hv126
    have x127 := HI.eqA hI0 (p := 234) (j := 5512) (hv126)
    obtain ⟨v128, hv128⟩ : ∃ v, eA g0 234 5513 = v := ⟨_, rfl⟩
    have tv128 := congrArg Int32.toInt hv128
    have x129 := HI.eqA hI0 (p := 234) (j := 5513) (hv128)
    obtain ⟨v130, hv130⟩ : ∃ v, eA g0 235 0 = v := ⟨_, rfl⟩
    have tv130 := congrArg Int32.toInt hv130
    have x131 := HI.eqA hI0 (p := 235) (j := 0) (hv130)
    obtain ⟨v132, hv132⟩ : ∃ v, eA g0 235 1 = v := ⟨_, rfl⟩
    have tv132 := congrArg Int32.toInt hv132
    have x133 := HI.eqA hI0 (p := 235) (j := 1) (hv132)
    have x134 := HI.eqA hI82 (p := 234) (j := 0) ((((eA_c (hF83.2.1 234 ma_X11_tell_231_234)).trans (eA_c gA_sI)).trans hv102))
    have x135 := HI.eqA hI82 (p := 234) (j := 4) ((((eA_c (hF83.2.1 234 ma_X11_tell_231_234)).trans (eA_c gA_sI)).trans hv104))
    have x136 := HI.eqA hI82 (p := 234) (j := 5) ((((eA_c (hF83.2.1 234 ma_X11_tell_231_234)).trans (eA_c gA_sI)).trans hv106))
    have x137 := HI.eqA hI82 (p := 234) (j := 6) ((((eA_c (hF83.2.1 234 ma_X11_tell_231_234)).trans (eA_c gA_sI)).trans hv108))
    have x138 := HI.eqA hI82 (p := 234) (j := 1) ((((eA_c (hF83.2.1 234 ma_X11_tell_231_234)).trans (eA_c gA_sI)).trans hv110))
    have x139 := HI.eqA hI82 (p := 234) (j := 2) ((((eA_c (hF83.2.1 234 ma_X11_tell_231_234)).trans (eA_c gA_sI)).trans hv112))
    have x140 := HI.eqA hI82 (p := 234) (j := 3) ((((eA_c (hF83.2.1 234 ma_X11_tell_231_234)).trans (eA_c gA_sI)).trans hv114))
    have x141 := HI.eqA hI82 (p := 234) (j := 5510) ((((eA_c (hF83.2.1 234 ma_X11_tell_231_234)).trans (eA_c gA_sI)).trans hv116))
    have x142 := HI.eqA hI82 (p := 234) (j := 5514) ((((eA_c (hF83.2.1 234 ma_X11_tell_231_234)).trans (eA_c gA_sI)).trans hv118))
    have x143 := HI.eqA hI82 (p := 234) (j := 5515) ((((eA_c (hF83.2.1 234 ma_X11_tell_231_234)).trans (eA_c gA_sI)).trans hv120))
    have x144 := HI.eqA hI82 (p := 234) (j := 5516) ((((eA_c (hF83.2.1 234 ma_X11_tell_231_234)).trans (eA_c gA_sI)).trans hv122))
    have x145 := HI.eqA hI82 (p := 234) (j := 5511) ((((eA_c (hF83.2.1 234 ma_X11_tell_231_234)).trans (eA_c gA_sI)).trans hv124))
    have x146 := HI.eqA hI82 (p := 234) (j := 5512) ((((eA_c (hF83.2.1 234 ma_X11_tell_231_234)).trans (eA_c gA_sI)).trans hv126))
    have x147 := HI.eqA hI82 (p := 234) (j := 5513) ((((eA_c (hF83.2.1 234 ma_X11_tell_231_234)).trans (eA_c gA_sI)).trans hv128))
    have x148 := HI.eqA hI82 (p := 235) (j := 0) ((((eA_c (hF83.2.1 235 ma_X11_tell_231_235)).trans (eA_c gA_sI)).trans hv130))
    have x149 := HI.eqA hI82 (p := 235) (j := 1) ((((eA_c (hF83.2.1 235 ma_X11_tell_231_235)).trans (eA_c gA_sI)).trans hv132))
    exact ⟨_, rfl, hI82, hF86, _, rfl, by omega, ⟨⟨by omega, by omega, by omega, by omega, by omega⟩, (by intro i i0 i1; refine Eq.trans ?_ (if_neg (show ¬ (a1.toInt = 0) from by omega)).symm; refine (eA_ti (((hF83.2.1 234 ma_X11_tell_231_234).trans (gA_sI)))).trans ?_; (first | with_reducible rfl | omega | exact eA_ix (by omega) | rfl)), (by intro i i0 i1; refine Eq.trans ?_ (if_neg (show ¬ (a1.toInt = 1) from by omega)).symm; refine (eA_ti (((hF83.2.1 234 ma_X11_tell_231_234).trans (gA_sI)))).trans ?_; (first | with_reducible rfl | omega | exact eA_ix (by omega) | rfl))⟩⟩
  · have c80_ : v79.toInt ≥ 0 := en_j_lt_f c80
    refine At.enter rfl ?_
    refine r_lload_n rfl ?_
    refine r_lload rfl ?_
    refine r_lcmp _ rfl ?_
    refine r_ifs 13 rfl (fun c150 => ?_) (fun c150 => ?_)
    · have c150_ : v79.toInt > 1 := en_j_gt_t c150
      refine At.enter rfl ?_
      refine r_iconst 0 rfl ?_
      refine Ar.fall 18 rfl ?_
      refine At.enter rfl ?_
      refine q_iretz (by decide) ?_
      refine At.enter rfl ?_
      refine r_iff 15 rfl (by decide) ?_
      refine At.enter rfl ?_
      refine r_aload_n rfl ?_
      refine r_iconst (-1) rfl ?_
      refine r_callV 20 rfl [.ref 231, .int (-1)] [] (Nat.le_of_ble_eq_true rfl) rfl (T_X11_tell_231 _ hI77 (-1) (by decide)) ?_
      rintro _ _ ⟨g151, rfl, hI152, hF153, v154, rfl, hr155⟩
      refine At.sti ?_
      have hF156 := Fr.tr hF78 hF153 rfl rfl
      have zv157 : ((-1) : Int32).toInt = (-1) := rfl
      refine At.enter rfl ?_
      refine r_ireti ?_
      obtain ⟨v158, hv158⟩ : ∃ v, eA g0 233 0 = v := ⟨_, rfl⟩
      have tv158 := congrArg Int32.toInt hv158
      have wv158 := HI.t0 hI0
      rw [hv158] at wv158
      have tv158 := congrArg Int32.toInt hv158
      have x159 := HI.eqA hI0 (p := 233) (j := 0) (hv158)
      obtain ⟨v160, hv160⟩ : ∃ v, eA g0 233 4 = v := ⟨_, rfl⟩
      have wv160 := HI.t4 hI0
      rw [hv160] at wv160
      have tv160 := congrArg Int32.toInt hv160
      have x161 := HI.eqA hI0 (p := 233) (j := 4) (hv160)
      obtain ⟨v162, hv162⟩ : ∃ v, eA g0 233 5 = v := ⟨_, rfl⟩
      have wv162 := HI.t5 hI0
      rw [hv162] at wv162
      have tv162 := congrArg Int32.toInt hv162
      have x163 := HI.eqA hI0 (p := 233) (j := 5) (hv162)
      obtain ⟨v164, hv164⟩ : ∃ v, eA g0 233 6 = v := ⟨_, rfl⟩
      have wv164 := HI.t6 hI0
      rw [hv164] at wv164
      have tv164 := congrArg Int32.toInt hv164
      have x165 := HI.eqA hI0 (p := 233) (j := 6) (hv164)
      obtain ⟨v166, hv166⟩ : ∃ v, eA g0 233 1 = v := ⟨_, rfl⟩
      have tv166 := congrArg Int32.toInt hv166
      have wv166 := HI.t1 hI0
      rw [hv166] at wv166
      have tv166 := congrArg Int32.toInt hv166
      have x167 := HI.eqA hI0 (p := 233) (j := 1) (hv166)
      obtain ⟨v168, hv168⟩ : ∃ v, eA g0 233 2 = v := ⟨_, rfl⟩
      have tv168 := congrArg Int32.toInt hv168
      have wv168 := HI.t2 hI0
      rw [hv168] at wv168
      have tv168 := congrArg Int32.toInt hv168
      have x169 := HI.eqA hI0 (p := 233) (j := 2) (hv168)
      obtain ⟨v170, hv170⟩ : ∃ v, eA g0 233 3 = v := ⟨_, rfl⟩
      have wv170 := HI.t3 hI0
      rw [hv170] at wv170
      have tv170 := congrArg Int32.toInt hv170
      have x171 := HI.eqA hI0 (p := 233) (j := 3) (hv170)
      obtain ⟨v172, hv172⟩ : ∃ v, eA g0 234 0 = v := ⟨_, rfl⟩
      have tv172 := congrArg Int32.toInt hv172
      have x173 := HI.eqA hI0 (p := 234) (j := 0) (hv172)
      obtain ⟨v174, hv174⟩ : ∃ v, eA g0 234 4 = v := ⟨_, rfl⟩
      have tv174 := congrArg Int32.toInt hv174
      have x175 := HI.eqA hI0 (p := 234) (j := 4) (hv174)
      obtain ⟨v176, hv176⟩ : ∃ v, eA g0 234 5 = v := ⟨_, rfl⟩
      have tv176 := congrArg Int32.toInt hv176
      have x177 := HI.eqA hI0 (p := 234) (j := 5) (hv176)
      obtain ⟨v178, hv178⟩ : ∃ v, eA g0 234 6 = v := ⟨_, rfl⟩
      have tv178 := congrArg Int32.toInt hv178
      have x179 := HI.eqA hI0 (p := 234) (j := 6) (hv178)
      obtain ⟨v180, hv180⟩ : ∃ v, eA g0 234 1 = v := ⟨_, rfl⟩
      have tv180 := congrArg Int32.toInt hv180
      have x181 := HI.eqA hI0 (p := 234) (j := 1) (hv180)
      obtain ⟨v182, hv182⟩ : ∃ v, eA g0 234 2 = v := ⟨_, rfl⟩
      have tv182 := congrArg Int32.toInt hv182
      have x183 := HI.eqA hI0 (p := 234) (j := 2) (hv182)
      obtain ⟨v184, hv184⟩ : ∃ v, eA g0 234 3 = v := ⟨_, rfl⟩
      have tv184 := congrArg Int32.toInt hv184
      have x185 := HI.eqA hI0 (p := 234) (j := 3) (hv184)
      obtain ⟨v186, hv186⟩ : ∃ v, eA g0 234 5510 = v := ⟨_, rfl⟩
      have tv186 := congrArg Int32.toInt hv186
      have x187 := HI.eqA hI0 (p := 234) (j := 5510) (hv186)
      obtain ⟨v188, hv188⟩ : ∃ v, eA g0 234 5514 = v := ⟨_, rfl⟩
      have tv188 := congrArg Int32.toInt hv188
      have x189 := HI.eqA hI0 (p := 234) (j := 5514) (hv188)
      obtain ⟨v190, hv190⟩ : ∃ v, eA g0 234 5515 = v := ⟨_, rfl⟩
      have tv190 := congrArg Int32.toInt hv190
      have x191 := HI.eqA hI0 (p := 234) (j := 5515) (hv190)
      obtain ⟨v192, hv192⟩ : ∃ v, eA g0 234 5516 = v := ⟨_, rfl⟩
      have tv192 := congrArg Int32.toInt hv192
      have x193 := HI.eqA hI0 (p := 234) (j := 5516) (hv192)
      obtain ⟨v194, hv194⟩ : ∃ v, eA g0 234 5511 = v := ⟨_, rfl⟩
      have tv194 := congrArg Int32.toInt hv194
      have x195 := HI.eqA hI0 (p := 234) (j := 5511) (hv194)
      obtain ⟨v196, hv196⟩ : ∃ v, eA g0 234 5512 = v := ⟨_, rfl⟩
      have tv196 := congrArg Int32.toInt hv196
      have x197 := HI.eqA hI0 (p := 234) (j := 5512) (hv196)
      obtain ⟨v198, hv198⟩ : ∃ v, eA g0 234 5513 = v := ⟨_, rfl⟩
      have tv198 := congrArg Int32.toInt hv198
      have x199 := HI.eqA hI0 (p := 234) (j := 5513) (hv198)
      obtain ⟨v200, hv200⟩ : ∃ v, eA g0 235 0 = v := ⟨_, rfl⟩
      have tv200 := congrArg Int32.toInt hv200
      have x201 := HI.eqA hI0 (p := 235) (j := 0) (hv200)
      obtain ⟨v202, hv202⟩ : ∃ v, eA g0 235 1 = v := ⟨_, rfl⟩
      have tv202 := congrArg Int32.toInt hv202
      have x203 := HI.eqA hI0 (p := 235) (j := 1) (hv202)
      have x204 := HI.eqA hI152 (p := 234) (j := 0) ((((eA_c (hF153.2.1 234 ma_X11_tell_231_234)).trans (eA_c gA_sI)).trans hv172))
      have x205 := HI.eqA hI152 (p := 234) (j := 4) ((((eA_c (hF153.2.1 234 ma_X11_tell_231_234)).trans (eA_c gA_sI)).trans hv174))
      have x206 := HI.eqA hI152 (p := 234) (j := 5) ((((eA_c (hF153.2.1 234 ma_X11_tell_231_234)).trans (eA_c gA_sI)).trans hv176))
      have x207 := HI.eqA hI152 (p := 234) (j := 6) ((((eA_c (hF153.2.1 234 ma_X11_tell_231_234)).trans (eA_c gA_sI)).trans hv178))
      have x208 := HI.eqA hI152 (p := 234) (j := 1) ((((eA_c (hF153.2.1 234 ma_X11_tell_231_234)).trans (eA_c gA_sI)).trans hv180))
      have x209 := HI.eqA hI152 (p := 234) (j := 2) ((((eA_c (hF153.2.1 234 ma_X11_tell_231_234)).trans (eA_c gA_sI)).trans hv182))
      have x210 := HI.eqA hI152 (p := 234) (j := 3) ((((eA_c (hF153.2.1 234 ma_X11_tell_231_234)).trans (eA_c gA_sI)).trans hv184))
      have x211 := HI.eqA hI152 (p := 234) (j := 5510) ((((eA_c (hF153.2.1 234 ma_X11_tell_231_234)).trans (eA_c gA_sI)).trans hv186))
      have x212 := HI.eqA hI152 (p := 234) (j := 5514) ((((eA_c (hF153.2.1 234 ma_X11_tell_231_234)).trans (eA_c gA_sI)).trans hv188))
      have x213 := HI.eqA hI152 (p := 234) (j := 5515) ((((eA_c (hF153.2.1 234 ma_X11_tell_231_234)).trans (eA_c gA_sI)).trans hv190))
      have x214 := HI.eqA hI152 (p := 234) (j := 5516) ((((eA_c (hF153.2.1 234 ma_X11_tell_231_234)).trans (eA_c gA_sI)).trans hv192))
      have x215 := HI.eqA hI152 (p := 234) (j := 5511) ((((eA_c (hF153.2.1 234 ma_X11_tell_231_234)).trans (eA_c gA_sI)).trans hv194))
      have x216 := HI.eqA hI152 (p := 234) (j := 5512) ((((eA_c (hF153.2.1 234 ma_X11_tell_231_234)).trans (eA_c gA_sI)).trans hv196))
      have x217 := HI.eqA hI152 (p := 234) (j := 5513) ((((eA_c (hF153.2.1 234 ma_X11_tell_231_234)).trans (eA_c gA_sI)).trans hv198))
      have x218 := HI.eqA hI152 (p := 235) (j := 0) ((((eA_c (hF153.2.1 235 ma_X11_tell_231_235)).trans (eA_c gA_sI)).trans hv200))
      have x219 := HI.eqA hI152 (p := 235) (j := 1) ((((eA_c (hF153.2.1 235 ma_X11_tell_231_235)).trans (eA_c gA_sI)).trans hv202))
      exact ⟨_, rfl, hI152, hF156, _, rfl, by omega, ⟨⟨by omega, by omega, by omega, by omega, by omega⟩, (by intro i i0 i1; refine Eq.trans ?_ (if_neg (show ¬ (a1.toInt = 0) from by omega)).symm; refine (eA_ti (((hF153.2.1 234 ma_X11_tell_231_234).trans (gA_sI)))).trans ?_; (first | with_reducible rfl | omega | exact eA_ix (by omega) | rfl)), (by intro i i0 i1; refine Eq.trans ?_ (if_neg (show ¬ (a1.toInt = 1) from by omega)).symm; refine (eA_ti (((hF153.2.1 234 ma_X11_tell_231_234).trans (gA_sI)))).trans ?_; (first | with_reducible rfl | omega | exact eA_ix (by omega) | rfl))⟩⟩
    · have c150_ : v79.toInt ≤ 1 := en_j_gt_f c150
      refine At.enter rfl ?_
      refine r_iconst 1 rfl ?_
      refine r_goto ?_
      refine At.enter rfl ?_
      refine q_iretz (by decide) ?_
      refine At.enter rfl ?_
      refine r_ift (by decide) ?_
      refine At.enter rfl ?_
      refine r_iconst 0 rfl ?_
      refine r_istore_n ([(2, .int 0), (0, .ref 231), (1, .int a1)]) rfl ?_
      refine Ar.fall 23 rfl ?_
      refine zi_loopG hI77 ⟨by omega, by omega⟩ rfl rfl rfl (fun ys220 l221 hI227 hW228 hl222 hc223 hf224 e225 e226 => ?_)
      have hF229 := Fr.tr hF78 hl222 rfl rfl
      refine At.enter rfl ?_
      refine r_aload_n e225 ?_
      refine q_getR (Sh.ref hI227.1 kx_231 rfl) ?_
      refine r_iload_n e226 ?_
      refine r_iconst 1 rfl ?_
      refine q_bast (Sh.arr hI227.1 ka_235) (a1.toInt) rfl (by omega) rfl ?_
      have hI230 := HI.kept hI227 (k := a1.toInt) (v := 1) ⟨by omega, by omega⟩ hW228
      have hF231 := Fr.wA (p := 235) (j := a1.toInt) (v := 1) hF229 rfl
      refine r_aload_n e225 ?_
      refine r_iconst 0 rfl ?_
      refine r_callV 66 rfl [.ref 231, .int 0] [] (Nat.le_of_ble_eq_true rfl) rfl (T_X11_tell_231 _ hI230 0 (by decide)) ?_
      rintro _ _ ⟨g232, rfl, hI233, hF234, v235, rfl, hr236⟩
      refine At.sti ?_
      have hF237 := Fr.tr hF231 hF234 rfl rfl
      have zv238 : (0 : Int32).toInt = 0 := rfl
      refine At.enter rfl ?_
      refine r_ireti ?_
      obtain ⟨v239, hv239⟩ : ∃ v, eA g0 233 0 = v := ⟨_, rfl⟩
      have tv239 := congrArg Int32.toInt hv239
      have wv239 := HI.t0 hI0
      rw [hv239] at wv239
      have tv239 := congrArg Int32.toInt hv239
      have x240 := HI.eqA hI0 (p := 233) (j := 0) (hv239)
      obtain ⟨v241, hv241⟩ : ∃ v, eA g0 233 4 = v := ⟨_, rfl⟩
      have wv241 := HI.t4 hI0
      rw [hv241] at wv241
      have tv241 := congrArg Int32.toInt hv241
      have x242 := HI.eqA hI0 (p := 233) (j := 4) (hv241)
      obtain ⟨v243, hv243⟩ : ∃ v, eA g0 233 5 = v := ⟨_, rfl⟩
      have wv243 := HI.t5 hI0
      rw [hv243] at wv243
      have tv243 := congrArg Int32.toInt hv243
      have x244 := HI.eqA hI0 (p := 233) (j := 5) (hv243)
      obtain ⟨v245, hv245⟩ : ∃ v, eA g0 233 6 = v := ⟨_, rfl⟩
      have wv245 := HI.t6 hI0
      rw [hv245] at wv245
      have tv245 := congrArg Int32.toInt hv245
      have x246 := HI.eqA hI0 (p := 233) (j := 6) (hv245)
      obtain ⟨v247, hv247⟩ : ∃ v, eA g0 233 1 = v := ⟨_, rfl⟩
      have tv247 := congrArg Int32.toInt hv247
      have wv247 := HI.t1 hI0
      rw [hv247] at wv247
      have tv247 := congrArg Int32.toInt hv247
      have x248 := HI.eqA hI0 (p := 233) (j := 1) (hv247)
      obtain ⟨v249, hv249⟩ : ∃ v, eA g0 233 2 = v := ⟨_, rfl⟩
      have tv249 := congrArg Int32.toInt hv249
      have wv249 := HI.t2 hI0
      rw [hv249] at wv249
      have tv249 := congrArg Int32.toInt hv249
      have x250 := HI.eqA hI0 (p := 233) (j := 2) (hv249)
      obtain ⟨v251, hv251⟩ : ∃ v, eA g0 233 3 = v := ⟨_, rfl⟩
      have wv251 := HI.t3 hI0
      rw [hv251] at wv251
      have tv251 := congrArg Int32.toInt hv251
      have x252 := HI.eqA hI0 (p := 233) (j := 3) (hv251)
      obtain ⟨v253, hv253⟩ : ∃ v, eA g0 234 0 = v := ⟨_, rfl⟩
      have tv253 := congrArg Int32.toInt hv253
      have x254 := HI.eqA hI0 (p := 234) (j := 0) (hv253)
      obtain ⟨v255, hv255⟩ : ∃ v, eA g0 234 4 = v := ⟨_, rfl⟩
      have tv255 := congrArg Int32.toInt hv255
      have x256 := HI.eqA hI0 (p := 234) (j := 4) (hv255)
      obtain ⟨v257, hv257⟩ : ∃ v, eA g0 234 5 = v := ⟨_, rfl⟩
      have tv257 := congrArg Int32.toInt hv257
      have x258 := HI.eqA hI0 (p := 234) (j := 5) (hv257)
      obtain ⟨v259, hv259⟩ : ∃ v, eA g0 234 6 = v := ⟨_, rfl⟩
      have tv259 := congrArg Int32.toInt hv259
      have x260 := HI.eqA hI0 (p := 234) (j := 6) (hv259)
      obtain ⟨v261, hv261⟩ : ∃ v, eA g0 234 1 = v := ⟨_, rfl⟩
      have tv261 := congrArg Int32.toInt hv261
      have x262 := HI.eqA hI0 (p := 234) (j := 1) (hv261)
      obtain ⟨v263, hv263⟩ : ∃ v, eA g0 234 2 = v := ⟨_, rfl⟩
      have tv263 := congrArg Int32.toInt hv263
      have x264 := HI.eqA hI0 (p := 234) (j := 2) (hv263)
      obtain ⟨v265, hv265⟩ : ∃ v, eA g0 234 3 = v := ⟨_, rfl⟩
      have tv265 := congrArg Int32.toInt hv265
      have x266 := HI.eqA hI0 (p := 234) (j := 3) (hv265)
      obtain ⟨v267, hv267⟩ : ∃ v, eA g0 234 5510 = v := ⟨_, rfl⟩
      have tv267 := congrArg Int32.toInt hv267
      have x268 := HI.eqA hI0 (p := 234) (j := 5510) (hv267)
      obtain ⟨v269, hv269⟩ : ∃ v, eA g0 234 5514 = v := ⟨_, rfl⟩
      have tv269 := congrArg Int32.toInt hv269
      have x270 := HI.eqA hI0 (p := 234) (j := 5514) (hv269)
      obtain ⟨v271, hv271⟩ : ∃ v, eA g0 234 5515 = v := ⟨_, rfl⟩
      have tv271 := congrArg Int32.toInt hv271
      have x272 := HI.eqA hI0 (p := 234) (j := 5515) (hv271)
      obtain ⟨v273, hv273⟩ : ∃ v, eA g0 234 5516 = v := ⟨_, rfl⟩
      have tv273 := congrArg Int32.toInt hv273
      have x274 := HI.eqA hI0 (p := 234) (j := 5516) (hv273)
      obtain ⟨v275, hv275⟩ : ∃ v, eA g0 234 5511 = v := ⟨_, rfl⟩
      have tv275 := congrArg Int32.toInt hv275
      have x276 := HI.eqA hI0 (p := 234) (j := 5511) (hv275)
      obtain ⟨v277, hv277⟩ : ∃ v, eA g0 234 5512 = v := ⟨_, rfl⟩
      have tv277 := congrArg Int32.toInt hv277
      have x278 := HI.eqA hI0 (p := 234) (j := 5512) (hv277)
      obtain ⟨v279, hv279⟩ : ∃ v, eA g0 234 5513 = v := ⟨_, rfl⟩
      have tv279 := congrArg Int32.toInt hv279
      have x280 := HI.eqA hI0 (p := 234) (j := 5513) (hv279)
      obtain ⟨v281, hv281⟩ : ∃ v, eA g0 235 0 = v := ⟨_, rfl⟩
      have tv281 := congrArg Int32.toInt hv281
      have x282 := HI.eqA hI0 (p := 235) (j := 0) (hv281)
      obtain ⟨v283, hv283⟩ : ∃ v, eA g0 235 1 = v := ⟨_, rfl⟩
      have tv283 := congrArg Int32.toInt hv283
      have x284 := HI.eqA hI0 (p := 235) (j := 1) (hv283)
      obtain ⟨v285, hv285⟩ : ∃ v, eA ys220 234 0 = v := ⟨_, rfl⟩
      have tv285 := congrArg Int32.toInt hv285
      obtain ⟨v286, hv286⟩ : ∃ v, eA ys220 234 4 = v := ⟨_, rfl⟩
      have tv286 := congrArg Int32.toInt hv286
      obtain ⟨v287, hv287⟩ : ∃ v, eA ys220 234 5 = v := ⟨_, rfl⟩
      have tv287 := congrArg Int32.toInt hv287
      obtain ⟨v288, hv288⟩ : ∃ v, eA ys220 234 6 = v := ⟨_, rfl⟩
      have tv288 := congrArg Int32.toInt hv288
      obtain ⟨v289, hv289⟩ : ∃ v, eA ys220 234 1 = v := ⟨_, rfl⟩
      have tv289 := congrArg Int32.toInt hv289
      obtain ⟨v290, hv290⟩ : ∃ v, eA ys220 234 2 = v := ⟨_, rfl⟩
      have tv290 := congrArg Int32.toInt hv290
      obtain ⟨v291, hv291⟩ : ∃ v, eA ys220 234 3 = v := ⟨_, rfl⟩
      have tv291 := congrArg Int32.toInt hv291
      obtain ⟨v292, hv292⟩ : ∃ v, eA ys220 234 5510 = v := ⟨_, rfl⟩
      have tv292 := congrArg Int32.toInt hv292
      obtain ⟨v293, hv293⟩ : ∃ v, eA ys220 234 5514 = v := ⟨_, rfl⟩
      have tv293 := congrArg Int32.toInt hv293
      obtain ⟨v294, hv294⟩ : ∃ v, eA ys220 234 5515 = v := ⟨_, rfl⟩
      have tv294 := congrArg Int32.toInt hv294
      obtain ⟨v295, hv295⟩ : ∃ v, eA ys220 234 5516 = v := ⟨_, rfl⟩
      have tv295 := congrArg Int32.toInt hv295
      obtain ⟨v296, hv296⟩ : ∃ v, eA ys220 234 5511 = v := ⟨_, rfl⟩
      have tv296 := congrArg Int32.toInt hv296
      obtain ⟨v297, hv297⟩ : ∃ v, eA ys220 234 5512 = v := ⟨_, rfl⟩
      have tv297 := congrArg Int32.toInt hv297
      obtain ⟨v298, hv298⟩ : ∃ v, eA ys220 234 5513 = v := ⟨_, rfl⟩
      have tv298 := congrArg Int32.toInt hv298
      have zv299 : (1 : Int32).toInt = 1 := rfl
      have zv300 : (1 : Int32).toInt = 1 := rfl
      exact ⟨_, rfl, hI233, hF237, _, rfl, by omega, ⟨⟨(fun e => by have z0 := HI.eqA hI233 (p := 234) (j := 0) ((((eA_c (hF234.2.1 234 ma_X11_tell_231_234)).trans (eA_c (gA_sA_ne (by decide)))).trans hv285)); have z1 := HI.eqA hI233 (p := 234) (j := 4) ((((eA_c (hF234.2.1 234 ma_X11_tell_231_234)).trans (eA_c (gA_sA_ne (by decide)))).trans hv286)); have z2 := HI.eqA hI233 (p := 234) (j := 5) ((((eA_c (hF234.2.1 234 ma_X11_tell_231_234)).trans (eA_c (gA_sA_ne (by decide)))).trans hv287)); have z3 := HI.eqA hI233 (p := 234) (j := 6) ((((eA_c (hF234.2.1 234 ma_X11_tell_231_234)).trans (eA_c (gA_sA_ne (by decide)))).trans hv288)); have z4 := HI.eqA hI233 (p := 234) (j := 1) ((((eA_c (hF234.2.1 234 ma_X11_tell_231_234)).trans (eA_c (gA_sA_ne (by decide)))).trans hv289)); have z5 := HI.eqA hI233 (p := 234) (j := 2) ((((eA_c (hF234.2.1 234 ma_X11_tell_231_234)).trans (eA_c (gA_sA_ne (by decide)))).trans hv290)); have z6 := HI.eqA hI233 (p := 234) (j := 3) ((((eA_c (hF234.2.1 234 ma_X11_tell_231_234)).trans (eA_c (gA_sA_ne (by decide)))).trans hv291)); have z7 := HI.eqA hI233 (p := 234) (j := 5510) ((((eA_c (hF234.2.1 234 ma_X11_tell_231_234)).trans (eA_c (gA_sA_ne (by decide)))).trans hv292)); have z8 := HI.eqA hI233 (p := 234) (j := 5514) ((((eA_c (hF234.2.1 234 ma_X11_tell_231_234)).trans (eA_c (gA_sA_ne (by decide)))).trans hv293)); have z9 := HI.eqA hI233 (p := 234) (j := 5515) ((((eA_c (hF234.2.1 234 ma_X11_tell_231_234)).trans (eA_c (gA_sA_ne (by decide)))).trans hv294)); have z10 := HI.eqA hI233 (p := 234) (j := 5516) ((((eA_c (hF234.2.1 234 ma_X11_tell_231_234)).trans (eA_c (gA_sA_ne (by decide)))).trans hv295)); have z11 := HI.eqA hI233 (p := 234) (j := 5511) ((((eA_c (hF234.2.1 234 ma_X11_tell_231_234)).trans (eA_c (gA_sA_ne (by decide)))).trans hv296)); have z12 := HI.eqA hI233 (p := 234) (j := 5512) ((((eA_c (hF234.2.1 234 ma_X11_tell_231_234)).trans (eA_c (gA_sA_ne (by decide)))).trans hv297)); have z13 := HI.eqA hI233 (p := 234) (j := 5513) ((((eA_c (hF234.2.1 234 ma_X11_tell_231_234)).trans (eA_c (gA_sA_ne (by decide)))).trans hv298)); have z14 := HI.eqA hI233 (p := 235) (j := 0) (((eA_c (hF234.2.1 235 ma_X11_tell_231_235)).trans (eA_sA_eq hI227.1 ka_235 (by omega) (by first | decide | omega) (by first | decide | omega)))); have z15 := HI.eqA hI233 (p := 235) (j := 1) ((((eA_c (hF234.2.1 235 ma_X11_tell_231_235)).trans ((eA_sA_ne hI227.1 ka_235 (by first | decide | omega) (by first | decide | omega) (by first | decide | omega)).trans ((eA_c (hl222.2.1 235 (by decide))).trans (eA_c gA_sI)))).trans hv283)); have z16 := (show (eA ys220 234 0).toInt = (eA g0 233 0).toInt from by have z := hc223 0 (by decide) (by decide); rw [show 5510 * a1.toInt + 0 = 0 by omega, eA_c (gA_sI)] at z; exact congrArg Int32.toInt z); have z17 := (show (eA ys220 234 5510).toInt = (eA g0 234 5510).toInt from by have z := hf224 5510 (by decide) (by omega); rw [eA_c (gA_sI)] at z; exact congrArg Int32.toInt z); have z18 := (show (eA ys220 234 4).toInt = (eA g0 233 4).toInt from by have z := hc223 4 (by decide) (by decide); rw [show 5510 * a1.toInt + 4 = 4 by omega, eA_c (gA_sI)] at z; exact congrArg Int32.toInt z); have z19 := (show (eA ys220 234 5514).toInt = (eA g0 234 5514).toInt from by have z := hf224 5514 (by decide) (by omega); rw [eA_c (gA_sI)] at z; exact congrArg Int32.toInt z); have z20 := (show (eA ys220 234 5).toInt = (eA g0 233 5).toInt from by have z := hc223 5 (by decide) (by decide); rw [show 5510 * a1.toInt + 5 = 5 by omega, eA_c (gA_sI)] at z; exact congrArg Int32.toInt z); have z21 := (show (eA ys220 234 5515).toInt = (eA g0 234 5515).toInt from by have z := hf224 5515 (by decide) (by omega); rw [eA_c (gA_sI)] at z; exact congrArg Int32.toInt z); have z22 := (show (eA ys220 234 6).toInt = (eA g0 233 6).toInt from by have z := hc223 6 (by decide) (by decide); rw [show 5510 * a1.toInt + 6 = 6 by omega, eA_c (gA_sI)] at z; exact congrArg Int32.toInt z); have z23 := (show (eA ys220 234 5516).toInt = (eA g0 234 5516).toInt from by have z := hf224 5516 (by decide) (by omega); rw [eA_c (gA_sI)] at z; exact congrArg Int32.toInt z); have z24 := (show (eA ys220 234 1).toInt = (eA g0 233 1).toInt from by have z := hc223 1 (by decide) (by decide); rw [show 5510 * a1.toInt + 1 = 1 by omega, eA_c (gA_sI)] at z; exact congrArg Int32.toInt z); have z25 := (show (eA ys220 234 5511).toInt = (eA g0 234 5511).toInt from by have z := hf224 5511 (by decide) (by omega); rw [eA_c (gA_sI)] at z; exact congrArg Int32.toInt z); have z26 := (show (eA ys220 234 2).toInt = (eA g0 233 2).toInt from by have z := hc223 2 (by decide) (by decide); rw [show 5510 * a1.toInt + 2 = 2 by omega, eA_c (gA_sI)] at z; exact congrArg Int32.toInt z); have z27 := (show (eA ys220 234 5512).toInt = (eA g0 234 5512).toInt from by have z := hf224 5512 (by decide) (by omega); rw [eA_c (gA_sI)] at z; exact congrArg Int32.toInt z); have z28 := (show (eA ys220 234 3).toInt = (eA g0 233 3).toInt from by have z := hc223 3 (by decide) (by decide); rw [show 5510 * a1.toInt + 3 = 3 by omega, eA_c (gA_sI)] at z; exact congrArg Int32.toInt z); have z29 := (show (eA ys220 234 5513).toInt = (eA g0 234 5513).toInt from by have z := hf224 5513 (by decide) (by omega); rw [eA_c (gA_sI)] at z; exact congrArg Int32.toInt z); omega), (fun e_ => by have e : a1.toInt = 1 := (by omega); have z0 := HI.eqA hI233 (p := 234) (j := 0) ((((eA_c (hF234.2.1 234 ma_X11_tell_231_234)).trans (eA_c (gA_sA_ne (by decide)))).trans hv285)); have z1 := HI.eqA hI233 (p := 234) (j := 4) ((((eA_c (hF234.2.1 234 ma_X11_tell_231_234)).trans (eA_c (gA_sA_ne (by decide)))).trans hv286)); have z2 := HI.eqA hI233 (p := 234) (j := 5) ((((eA_c (hF234.2.1 234 ma_X11_tell_231_234)).trans (eA_c (gA_sA_ne (by decide)))).trans hv287)); have z3 := HI.eqA hI233 (p := 234) (j := 6) ((((eA_c (hF234.2.1 234 ma_X11_tell_231_234)).trans (eA_c (gA_sA_ne (by decide)))).trans hv288)); have z4 := HI.eqA hI233 (p := 234) (j := 1) ((((eA_c (hF234.2.1 234 ma_X11_tell_231_234)).trans (eA_c (gA_sA_ne (by decide)))).trans hv289)); have z5 := HI.eqA hI233 (p := 234) (j := 2) ((((eA_c (hF234.2.1 234 ma_X11_tell_231_234)).trans (eA_c (gA_sA_ne (by decide)))).trans hv290)); have z6 := HI.eqA hI233 (p := 234) (j := 3) ((((eA_c (hF234.2.1 234 ma_X11_tell_231_234)).trans (eA_c (gA_sA_ne (by decide)))).trans hv291)); have z7 := HI.eqA hI233 (p := 234) (j := 5510) ((((eA_c (hF234.2.1 234 ma_X11_tell_231_234)).trans (eA_c (gA_sA_ne (by decide)))).trans hv292)); have z8 := HI.eqA hI233 (p := 234) (j := 5514) ((((eA_c (hF234.2.1 234 ma_X11_tell_231_234)).trans (eA_c (gA_sA_ne (by decide)))).trans hv293)); have z9 := HI.eqA hI233 (p := 234) (j := 5515) ((((eA_c (hF234.2.1 234 ma_X11_tell_231_234)).trans (eA_c (gA_sA_ne (by decide)))).trans hv294)); have z10 := HI.eqA hI233 (p := 234) (j := 5516) ((((eA_c (hF234.2.1 234 ma_X11_tell_231_234)).trans (eA_c (gA_sA_ne (by decide)))).trans hv295)); have z11 := HI.eqA hI233 (p := 234) (j := 5511) ((((eA_c (hF234.2.1 234 ma_X11_tell_231_234)).trans (eA_c (gA_sA_ne (by decide)))).trans hv296)); have z12 := HI.eqA hI233 (p := 234) (j := 5512) ((((eA_c (hF234.2.1 234 ma_X11_tell_231_234)).trans (eA_c (gA_sA_ne (by decide)))).trans hv297)); have z13 := HI.eqA hI233 (p := 234) (j := 5513) ((((eA_c (hF234.2.1 234 ma_X11_tell_231_234)).trans (eA_c (gA_sA_ne (by decide)))).trans hv298)); have z14 := HI.eqA hI233 (p := 235) (j := 0) ((((eA_c (hF234.2.1 235 ma_X11_tell_231_235)).trans ((eA_sA_ne hI227.1 ka_235 (by first | decide | omega) (by first | decide | omega) (by first | decide | omega)).trans ((eA_c (hl222.2.1 235 (by decide))).trans (eA_c gA_sI)))).trans hv281)); have z15 := HI.eqA hI233 (p := 235) (j := 1) (((eA_c (hF234.2.1 235 ma_X11_tell_231_235)).trans (eA_sA_eq hI227.1 ka_235 (by omega) (by first | decide | omega) (by first | decide | omega)))); have z16 := (show (eA ys220 234 5510).toInt = (eA g0 233 0).toInt from by have z := hc223 0 (by decide) (by decide); rw [show 5510 * a1.toInt + 0 = 5510 by omega, eA_c (gA_sI)] at z; exact congrArg Int32.toInt z); have z17 := (show (eA ys220 234 0).toInt = (eA g0 234 0).toInt from by have z := hf224 0 (by decide) (by omega); rw [eA_c (gA_sI)] at z; exact congrArg Int32.toInt z); have z18 := (show (eA ys220 234 5514).toInt = (eA g0 233 4).toInt from by have z := hc223 4 (by decide) (by decide); rw [show 5510 * a1.toInt + 4 = 5514 by omega, eA_c (gA_sI)] at z; exact congrArg Int32.toInt z); have z19 := (show (eA ys220 234 4).toInt = (eA g0 234 4).toInt from by have z := hf224 4 (by decide) (by omega); rw [eA_c (gA_sI)] at z; exact congrArg Int32.toInt z); have z20 := (show (eA ys220 234 5515).toInt = (eA g0 233 5).toInt from by have z := hc223 5 (by decide) (by decide); rw [show 5510 * a1.toInt + 5 = 5515 by omega, eA_c (gA_sI)] at z; exact congrArg Int32.toInt z); have z21 := (show (eA ys220 234 5).toInt = (eA g0 234 5).toInt from by have z := hf224 5 (by decide) (by omega); rw [eA_c (gA_sI)] at z; exact congrArg Int32.toInt z); have z22 := (show (eA ys220 234 5516).toInt = (eA g0 233 6).toInt from by have z := hc223 6 (by decide) (by decide); rw [show 5510 * a1.toInt + 6 = 5516 by omega, eA_c (gA_sI)] at z; exact congrArg Int32.toInt z); have z23 := (show (eA ys220 234 6).toInt = (eA g0 234 6).toInt from by have z := hf224 6 (by decide) (by omega); rw [eA_c (gA_sI)] at z; exact congrArg Int32.toInt z); have z24 := (show (eA ys220 234 5511).toInt = (eA g0 233 1).toInt from by have z := hc223 1 (by decide) (by decide); rw [show 5510 * a1.toInt + 1 = 5511 by omega, eA_c (gA_sI)] at z; exact congrArg Int32.toInt z); have z25 := (show (eA ys220 234 1).toInt = (eA g0 234 1).toInt from by have z := hf224 1 (by decide) (by omega); rw [eA_c (gA_sI)] at z; exact congrArg Int32.toInt z); have z26 := (show (eA ys220 234 5512).toInt = (eA g0 233 2).toInt from by have z := hc223 2 (by decide) (by decide); rw [show 5510 * a1.toInt + 2 = 5512 by omega, eA_c (gA_sI)] at z; exact congrArg Int32.toInt z); have z27 := (show (eA ys220 234 2).toInt = (eA g0 234 2).toInt from by have z := hf224 2 (by decide) (by omega); rw [eA_c (gA_sI)] at z; exact congrArg Int32.toInt z); have z28 := (show (eA ys220 234 5513).toInt = (eA g0 233 3).toInt from by have z := hc223 3 (by decide) (by decide); rw [show 5510 * a1.toInt + 3 = 5513 by omega, eA_c (gA_sI)] at z; exact congrArg Int32.toInt z); have z29 := (show (eA ys220 234 3).toInt = (eA g0 234 3).toInt from by have z := hf224 3 (by decide) (by omega); rw [eA_c (gA_sI)] at z; exact congrArg Int32.toInt z); omega), (fun e => by have z0 := HI.eqA hI233 (p := 234) (j := 0) ((((eA_c (hF234.2.1 234 ma_X11_tell_231_234)).trans (eA_c (gA_sA_ne (by decide)))).trans hv285)); have z1 := HI.eqA hI233 (p := 234) (j := 4) ((((eA_c (hF234.2.1 234 ma_X11_tell_231_234)).trans (eA_c (gA_sA_ne (by decide)))).trans hv286)); have z2 := HI.eqA hI233 (p := 234) (j := 5) ((((eA_c (hF234.2.1 234 ma_X11_tell_231_234)).trans (eA_c (gA_sA_ne (by decide)))).trans hv287)); have z3 := HI.eqA hI233 (p := 234) (j := 6) ((((eA_c (hF234.2.1 234 ma_X11_tell_231_234)).trans (eA_c (gA_sA_ne (by decide)))).trans hv288)); have z4 := HI.eqA hI233 (p := 234) (j := 1) ((((eA_c (hF234.2.1 234 ma_X11_tell_231_234)).trans (eA_c (gA_sA_ne (by decide)))).trans hv289)); have z5 := HI.eqA hI233 (p := 234) (j := 2) ((((eA_c (hF234.2.1 234 ma_X11_tell_231_234)).trans (eA_c (gA_sA_ne (by decide)))).trans hv290)); have z6 := HI.eqA hI233 (p := 234) (j := 3) ((((eA_c (hF234.2.1 234 ma_X11_tell_231_234)).trans (eA_c (gA_sA_ne (by decide)))).trans hv291)); have z7 := HI.eqA hI233 (p := 234) (j := 5510) ((((eA_c (hF234.2.1 234 ma_X11_tell_231_234)).trans (eA_c (gA_sA_ne (by decide)))).trans hv292)); have z8 := HI.eqA hI233 (p := 234) (j := 5514) ((((eA_c (hF234.2.1 234 ma_X11_tell_231_234)).trans (eA_c (gA_sA_ne (by decide)))).trans hv293)); have z9 := HI.eqA hI233 (p := 234) (j := 5515) ((((eA_c (hF234.2.1 234 ma_X11_tell_231_234)).trans (eA_c (gA_sA_ne (by decide)))).trans hv294)); have z10 := HI.eqA hI233 (p := 234) (j := 5516) ((((eA_c (hF234.2.1 234 ma_X11_tell_231_234)).trans (eA_c (gA_sA_ne (by decide)))).trans hv295)); have z11 := HI.eqA hI233 (p := 234) (j := 5511) ((((eA_c (hF234.2.1 234 ma_X11_tell_231_234)).trans (eA_c (gA_sA_ne (by decide)))).trans hv296)); have z12 := HI.eqA hI233 (p := 234) (j := 5512) ((((eA_c (hF234.2.1 234 ma_X11_tell_231_234)).trans (eA_c (gA_sA_ne (by decide)))).trans hv297)); have z13 := HI.eqA hI233 (p := 234) (j := 5513) ((((eA_c (hF234.2.1 234 ma_X11_tell_231_234)).trans (eA_c (gA_sA_ne (by decide)))).trans hv298)); have z14 := HI.eqA hI233 (p := 235) (j := 0) ((((eA_c (hF234.2.1 235 ma_X11_tell_231_235)).trans ((eA_sA_ne hI227.1 ka_235 (by first | decide | omega) (by first | decide | omega) (by first | decide | omega)).trans ((eA_c (hl222.2.1 235 (by decide))).trans (eA_c gA_sI)))).trans hv281)); have z15 := HI.eqA hI233 (p := 235) (j := 1) (((eA_c (hF234.2.1 235 ma_X11_tell_231_235)).trans (eA_sA_eq hI227.1 ka_235 (by omega) (by first | decide | omega) (by first | decide | omega)))); have z16 := (show (eA ys220 234 5510).toInt = (eA g0 233 0).toInt from by have z := hc223 0 (by decide) (by decide); rw [show 5510 * a1.toInt + 0 = 5510 by omega, eA_c (gA_sI)] at z; exact congrArg Int32.toInt z); have z17 := (show (eA ys220 234 0).toInt = (eA g0 234 0).toInt from by have z := hf224 0 (by decide) (by omega); rw [eA_c (gA_sI)] at z; exact congrArg Int32.toInt z); have z18 := (show (eA ys220 234 5514).toInt = (eA g0 233 4).toInt from by have z := hc223 4 (by decide) (by decide); rw [show 5510 * a1.toInt + 4 = 5514 by omega, eA_c (gA_sI)] at z; exact congrArg Int32.toInt z); have z19 := (show (eA ys220 234 4).toInt = (eA g0 234 4).toInt from by have z := hf224 4 (by decide) (by omega); rw [eA_c (gA_sI)] at z; exact congrArg Int32.toInt z); have z20 := (show (eA ys220 234 5515).toInt = (eA g0 233 5).toInt from by have z := hc223 5 (by decide) (by decide); rw [show 5510 * a1.toInt + 5 = 5515 by omega, eA_c (gA_sI)] at z; exact congrArg Int32.toInt z); have z21 := (show (eA ys220 234 5).toInt = (eA g0 234 5).toInt from by have z := hf224 5 (by decide) (by omega); rw [eA_c (gA_sI)] at z; exact congrArg Int32.toInt z); have z22 := (show (eA ys220 234 5516).toInt = (eA g0 233 6).toInt from by have z := hc223 6 (by decide) (by decide); rw [show 5510 * a1.toInt + 6 = 5516 by omega, eA_c (gA_sI)] at z; exact congrArg Int32.toInt z); have z23 := (show (eA ys220 234 6).toInt = (eA g0 234 6).toInt from by have z := hf224 6 (by decide) (by omega); rw [eA_c (gA_sI)] at z; exact congrArg Int32.toInt z); have z24 := (show (eA ys220 234 5511).toInt = (eA g0 233 1).toInt from by have z := hc223 1 (by decide) (by decide); rw [show 5510 * a1.toInt + 1 = 5511 by omega, eA_c (gA_sI)] at z; exact congrArg Int32.toInt z); have z25 := (show (eA ys220 234 1).toInt = (eA g0 234 1).toInt from by have z := hf224 1 (by decide) (by omega); rw [eA_c (gA_sI)] at z; exact congrArg Int32.toInt z); have z26 := (show (eA ys220 234 5512).toInt = (eA g0 233 2).toInt from by have z := hc223 2 (by decide) (by decide); rw [show 5510 * a1.toInt + 2 = 5512 by omega, eA_c (gA_sI)] at z; exact congrArg Int32.toInt z); have z27 := (show (eA ys220 234 2).toInt = (eA g0 234 2).toInt from by have z := hf224 2 (by decide) (by omega); rw [eA_c (gA_sI)] at z; exact congrArg Int32.toInt z); have z28 := (show (eA ys220 234 5513).toInt = (eA g0 233 3).toInt from by have z := hc223 3 (by decide) (by decide); rw [show 5510 * a1.toInt + 3 = 5513 by omega, eA_c (gA_sI)] at z; exact congrArg Int32.toInt z); have z29 := (show (eA ys220 234 3).toInt = (eA g0 234 3).toInt from by have z := hf224 3 (by decide) (by omega); rw [eA_c (gA_sI)] at z; exact congrArg Int32.toInt z); omega), (fun e_ => by have e : a1.toInt = 0 := (by omega); have z0 := HI.eqA hI233 (p := 234) (j := 0) ((((eA_c (hF234.2.1 234 ma_X11_tell_231_234)).trans (eA_c (gA_sA_ne (by decide)))).trans hv285)); have z1 := HI.eqA hI233 (p := 234) (j := 4) ((((eA_c (hF234.2.1 234 ma_X11_tell_231_234)).trans (eA_c (gA_sA_ne (by decide)))).trans hv286)); have z2 := HI.eqA hI233 (p := 234) (j := 5) ((((eA_c (hF234.2.1 234 ma_X11_tell_231_234)).trans (eA_c (gA_sA_ne (by decide)))).trans hv287)); have z3 := HI.eqA hI233 (p := 234) (j := 6) ((((eA_c (hF234.2.1 234 ma_X11_tell_231_234)).trans (eA_c (gA_sA_ne (by decide)))).trans hv288)); have z4 := HI.eqA hI233 (p := 234) (j := 1) ((((eA_c (hF234.2.1 234 ma_X11_tell_231_234)).trans (eA_c (gA_sA_ne (by decide)))).trans hv289)); have z5 := HI.eqA hI233 (p := 234) (j := 2) ((((eA_c (hF234.2.1 234 ma_X11_tell_231_234)).trans (eA_c (gA_sA_ne (by decide)))).trans hv290)); have z6 := HI.eqA hI233 (p := 234) (j := 3) ((((eA_c (hF234.2.1 234 ma_X11_tell_231_234)).trans (eA_c (gA_sA_ne (by decide)))).trans hv291)); have z7 := HI.eqA hI233 (p := 234) (j := 5510) ((((eA_c (hF234.2.1 234 ma_X11_tell_231_234)).trans (eA_c (gA_sA_ne (by decide)))).trans hv292)); have z8 := HI.eqA hI233 (p := 234) (j := 5514) ((((eA_c (hF234.2.1 234 ma_X11_tell_231_234)).trans (eA_c (gA_sA_ne (by decide)))).trans hv293)); have z9 := HI.eqA hI233 (p := 234) (j := 5515) ((((eA_c (hF234.2.1 234 ma_X11_tell_231_234)).trans (eA_c (gA_sA_ne (by decide)))).trans hv294)); have z10 := HI.eqA hI233 (p := 234) (j := 5516) ((((eA_c (hF234.2.1 234 ma_X11_tell_231_234)).trans (eA_c (gA_sA_ne (by decide)))).trans hv295)); have z11 := HI.eqA hI233 (p := 234) (j := 5511) ((((eA_c (hF234.2.1 234 ma_X11_tell_231_234)).trans (eA_c (gA_sA_ne (by decide)))).trans hv296)); have z12 := HI.eqA hI233 (p := 234) (j := 5512) ((((eA_c (hF234.2.1 234 ma_X11_tell_231_234)).trans (eA_c (gA_sA_ne (by decide)))).trans hv297)); have z13 := HI.eqA hI233 (p := 234) (j := 5513) ((((eA_c (hF234.2.1 234 ma_X11_tell_231_234)).trans (eA_c (gA_sA_ne (by decide)))).trans hv298)); have z14 := HI.eqA hI233 (p := 235) (j := 0) (((eA_c (hF234.2.1 235 ma_X11_tell_231_235)).trans (eA_sA_eq hI227.1 ka_235 (by omega) (by first | decide | omega) (by first | decide | omega)))); have z15 := HI.eqA hI233 (p := 235) (j := 1) ((((eA_c (hF234.2.1 235 ma_X11_tell_231_235)).trans ((eA_sA_ne hI227.1 ka_235 (by first | decide | omega) (by first | decide | omega) (by first | decide | omega)).trans ((eA_c (hl222.2.1 235 (by decide))).trans (eA_c gA_sI)))).trans hv283)); have z16 := (show (eA ys220 234 0).toInt = (eA g0 233 0).toInt from by have z := hc223 0 (by decide) (by decide); rw [show 5510 * a1.toInt + 0 = 0 by omega, eA_c (gA_sI)] at z; exact congrArg Int32.toInt z); have z17 := (show (eA ys220 234 5510).toInt = (eA g0 234 5510).toInt from by have z := hf224 5510 (by decide) (by omega); rw [eA_c (gA_sI)] at z; exact congrArg Int32.toInt z); have z18 := (show (eA ys220 234 4).toInt = (eA g0 233 4).toInt from by have z := hc223 4 (by decide) (by decide); rw [show 5510 * a1.toInt + 4 = 4 by omega, eA_c (gA_sI)] at z; exact congrArg Int32.toInt z); have z19 := (show (eA ys220 234 5514).toInt = (eA g0 234 5514).toInt from by have z := hf224 5514 (by decide) (by omega); rw [eA_c (gA_sI)] at z; exact congrArg Int32.toInt z); have z20 := (show (eA ys220 234 5).toInt = (eA g0 233 5).toInt from by have z := hc223 5 (by decide) (by decide); rw [show 5510 * a1.toInt + 5 = 5 by omega, eA_c (gA_sI)] at z; exact congrArg Int32.toInt z); have z21 := (show (eA ys220 234 5515).toInt = (eA g0 234 5515).toInt from by have z := hf224 5515 (by decide) (by omega); rw [eA_c (gA_sI)] at z; exact congrArg Int32.toInt z); have z22 := (show (eA ys220 234 6).toInt = (eA g0 233 6).toInt from by have z := hc223 6 (by decide) (by decide); rw [show 5510 * a1.toInt + 6 = 6 by omega, eA_c (gA_sI)] at z; exact congrArg Int32.toInt z); have z23 := (show (eA ys220 234 5516).toInt = (eA g0 234 5516).toInt from by have z := hf224 5516 (by decide) (by omega); rw [eA_c (gA_sI)] at z; exact congrArg Int32.toInt z); have z24 := (show (eA ys220 234 1).toInt = (eA g0 233 1).toInt from by have z := hc223 1 (by decide) (by decide); rw [show 5510 * a1.toInt + 1 = 1 by omega, eA_c (gA_sI)] at z; exact congrArg Int32.toInt z); have z25 := (show (eA ys220 234 5511).toInt = (eA g0 234 5511).toInt from by have z := hf224 5511 (by decide) (by omega); rw [eA_c (gA_sI)] at z; exact congrArg Int32.toInt z); have z26 := (show (eA ys220 234 2).toInt = (eA g0 233 2).toInt from by have z := hc223 2 (by decide) (by decide); rw [show 5510 * a1.toInt + 2 = 2 by omega, eA_c (gA_sI)] at z; exact congrArg Int32.toInt z); have z27 := (show (eA ys220 234 5512).toInt = (eA g0 234 5512).toInt from by have z := hf224 5512 (by decide) (by omega); rw [eA_c (gA_sI)] at z; exact congrArg Int32.toInt z); have z28 := (show (eA ys220 234 3).toInt = (eA g0 233 3).toInt from by have z := hc223 3 (by decide) (by decide); rw [show 5510 * a1.toInt + 3 = 3 by omega, eA_c (gA_sI)] at z; exact congrArg Int32.toInt z); have z29 := (show (eA ys220 234 5513).toInt = (eA g0 234 5513).toInt from by have z := hf224 5513 (by decide) (by omega); rw [eA_c (gA_sI)] at z; exact congrArg Int32.toInt z); omega), by omega⟩, (by intro i i0 i1; exact (Decidable.em (a1.toInt = 0)).elim (fun k0 => by rw [if_pos k0]; exact (by refine (eA_ti (((hF234.2.1 234 ma_X11_tell_231_234).trans (gA_sA_ne (by decide))))).trans ?_; refine (eA_ix (show i = 5510 * a1.toInt + i from by omega)).trans ?_; exact (congrArg Int32.toInt (hc223 i (by omega) (by omega))).trans (eA_ti ((gA_sI))))) (fun k0 => by rw [if_neg k0]; exact (by refine (eA_ti (((hF234.2.1 234 ma_X11_tell_231_234).trans (gA_sA_ne (by decide))))).trans ?_; exact (congrArg Int32.toInt (hf224 (i) (by omega) (by omega))).trans (eA_ti ((gA_sI)))))), (by intro i i0 i1; exact (Decidable.em (a1.toInt = 1)).elim (fun k0 => by rw [if_pos k0]; exact (by refine (eA_ti (((hF234.2.1 234 ma_X11_tell_231_234).trans (gA_sA_ne (by decide))))).trans ?_; refine (eA_ix (show 5510 + i = 5510 * a1.toInt + i from by omega)).trans ?_; exact (congrArg Int32.toInt (hc223 i (by omega) (by omega))).trans (eA_ti ((gA_sI))))) (fun k0 => by rw [if_neg k0]; exact (by refine (eA_ti (((hF234.2.1 234 ma_X11_tell_231_234).trans (gA_sA_ne (by decide))))).trans ?_; exact (congrArg Int32.toInt (hf224 (5510 + i) (by omega) (by omega))).trans (eA_ti ((gA_sI))))))⟩⟩
