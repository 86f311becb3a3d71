def F_X11_image_231 : List (Nat × Nat) := [(231, 0), (231, 1)]
def A_X11_image_231 : List Nat := [232, 234, 235]
set_option maxRecDepth 100000 in
set_option maxHeartbeats 4000000 in
theorem T_X11_image_231 (d : Nat) {N : Nat} {g0 : List en_E} (hI0 : HI g0) (a1 : Int32) : Ev (d + 2) 165 [.ref 231, .int a1] (g0, N) (fun w h' => ∃ g', h' = (g', N) ∧ HI g' ∧ Fr F_X11_image_231 A_X11_image_231 g0 g' ∧ ∃ r : Int32, w = some (.int r) ∧ ((-1) ≤ r.toInt ∧ r.toInt ≤ 0) ∧ (((a1.toInt = 0 → (eA g' 235 0).toInt = 1 ∧ r.toInt = 0 ∧ (eA g' 234 0).toInt = (eA g0 233 0).toInt ∧ (eA g' 234 4).toInt = (eA g0 233 4).toInt ∧ (eA g' 234 5).toInt = (eA g0 233 5).toInt ∧ (eA g' 234 6).toInt = (eA g0 233 6).toInt) ∧ (a1.toInt ≠ 0 → (eA g' 235 0).toInt = (eA g0 235 0).toInt ∧ (eA g' 234 0).toInt = (eA g0 234 0).toInt ∧ (eA g' 234 4).toInt = (eA g0 234 4).toInt ∧ (eA g' 234 5).toInt = (eA g0 234 5).toInt ∧ (eA g' 234 6).toInt = (eA g0 234 6).toInt) ∧ (a1.toInt = 1 → (eA g' 235 1).toInt = 1 ∧ r.toInt = 0 ∧ (eA g' 234 5510).toInt = (eA g0 233 0).toInt ∧ (eA g' 234 5514).toInt = (eA g0 233 4).toInt ∧ (eA g' 234 5515).toInt = (eA g0 233 5).toInt ∧ (eA g' 234 5516).toInt = (eA g0 233 6).toInt) ∧ (a1.toInt ≠ 1 → (eA g' 235 1).toInt = (eA g0 235 1).toInt ∧ (eA g' 234 5510).toInt = (eA g0 234 5510).toInt ∧ (eA g' 234 5514).toInt = (eA g0 234 5514).toInt ∧ (eA g' 234 5515).toInt = (eA g0 234 5515).toInt ∧ (eA g' 234 5516).toInt = (eA g0 234 5516).toInt) ∧ (a1.toInt < 0 ∨ 1 < a1.toInt → r.toInt = -1)) ∧ (∀ i : Int, 10 ≤ i → i < 110 → (eA g' 234 (i)).toInt = if a1.toInt = 0 then (eA g0 233 (i)).toInt else (eA g0 234 (i)).toInt) ∧ (∀ i : Int, 10 ≤ i → i < 110 → (eA g' 234 (5510 + i)).toInt = if a1.toInt = 1 then (eA g0 233 (i)).toInt else (eA g0 234 (5510 + i)).toInt))) := by
  have hF0 : Fr F_X11_image_231 A_X11_image_231 g0 g0 := Fr.rf
  refine Ev.mk rfl rfl ⟨Nat.le_of_ble_eq_true rfl, Or.inr (q_rc hI0.1 kx_231 rfl)⟩ ?_
  show At _ none _ _ (0, [(0, .ref 231), (1, .int a1)], [], (_, _)) _
  refine At.enter rfl ?_
  refine r_aload_n rfl ?_
  refine r_iconst 0 rfl ?_
  refine q_putI (Sh.int hI0.1 kx_231 rfl) rfl ?_
  have hI77 := HI.wI0 hI0 kx_231 rfl (p := 231) (b := 0) (v := 0) rfl
  have hF78 := Fr.wI (p := 231) (b := 0) (v := 0) hF0 rfl
  refine r_iload_n rfl ?_
  refine q_i2l (fun v79 hv79 => ?_)
  refine r_lconst 0 rfl ?_
  refine r_lconst 1 rfl ?_
  refine q_inlS 12 rfl [.long v79, .long 0, .long 1] [] (Nat.le_of_ble_eq_true rfl) rfl ?_
  refine Ev.mk rfl rfl ⟨Nat.le_of_ble_eq_true rfl, Or.inl rfl⟩ ?_
  show At _ none _ _ (0, [(0, .long v79), (2, .long 0), (4, .long 1)], [], (_, _)) _
  refine At.enter rfl ?_
  refine r_lload_n rfl ?_
  refine r_lload_n rfl ?_
  refine r_lcmp _ rfl ?_
  refine r_ifs 6 rfl (fun c80 => ?_) (fun c80 => ?_)
  · have c80_ : v79.toInt < 0 := en_j_lt_t c80
    refine At.enter rfl ?_
    refine r_iconst 0 rfl ?_
    refine Ar.fall 18 rfl ?_
    refine At.enter rfl ?_
    refine q_iretz (by decide) ?_
    refine At.enter rfl ?_
    refine r_iff 15 rfl (by decide) ?_
    refine At.enter rfl ?_
    refine r_aload_n rfl ?_
    refine r_iconst (-1) rfl ?_
    refine r_callV 20 rfl [.ref 231, .int (-1)] [] (Nat.le_of_ble_eq_true rfl) rfl (T_X11_tell_231 _ hI77 (-1) (by decide)) ?_
    rintro _ _ ⟨g81, rfl, hI82, hF83, v84, rfl, hr85⟩
    refine At.sti ?_
    have hF86 := Fr.tr hF78 hF83 rfl rfl
    have zv87 : ((-1) : Int32).toInt = (-1) := rfl
    refine At.enter rfl ?_
    refine r_ireti ?_
    obtain ⟨v88, hv88⟩ : ∃ v, eA g0 233 0 = v := ⟨_, rfl⟩
    have tv88 := congrArg Int32.toInt hv88
    have wv88 := HI.t0 hI0
    rw [hv88] at wv88
    have tv88 := congrArg Int32.toInt hv88
    have x89 := HI.eqA hI0 (p := 233) (j := 0) (hv88)
    obtain ⟨v90, hv90⟩ : ∃ v, eA g0 233 4 = v := ⟨_, rfl⟩
    have wv90 := HI.t4 hI0
    rw [hv90] at wv90
    have tv90 := congrArg Int32.toInt hv90
    have x91 := HI.eqA hI0 (p := 233) (j := 4) (hv90)
    obtain ⟨v92, hv92⟩ : ∃ v, eA g0 233 5 = v := ⟨_, rfl⟩
    have wv92 := HI.t5 hI0
    rw [hv92] at wv92
    have tv92 := congrArg Int32.toInt hv92
    have x93 := HI.eqA hI0 (p := 233) (j := 5) (hv92)
    obtain ⟨v94, hv94⟩ : ∃ v, eA g0 233 6 = v := ⟨_, rfl⟩
    have wv94 := HI.t6 hI0
    rw [hv94] at wv94
    have tv94 := congrArg Int32.toInt hv94
    have x95 := HI.eqA hI0 (p := 233) (j := 6) (hv94)
    obtain ⟨v96, hv96⟩ : ∃ v, eA g0 234 0 = v := ⟨_, rfl⟩
    have tv96 := congrArg Int32.toInt hv96
    have x97 := HI.eqA hI0 (p := 234) (j := 0) (hv96)
    obtain ⟨v98, hv98⟩ : ∃ v, eA g0 234 4 = v := ⟨_, rfl⟩
    have tv98 := congrArg Int32.toInt hv98
    have x99 := HI.eqA hI0 (p := 234) (j := 4) (hv98)
    obtain ⟨v100, hv100⟩ : ∃ v, eA g0 234 5 = v := ⟨_, rfl⟩
    have tv100 := congrArg Int32.toInt hv100
    have x101 := HI.eqA hI0 (p := 234) (j := 5) (hv100)
    obtain ⟨v102, hv102⟩ : ∃ v, eA g0 234 6 = v := ⟨_, rfl⟩
    have tv102 := congrArg Int32.toInt hv102
    have x103 := HI.eqA hI0 (p := 234) (j := 6) (hv102)
    obtain ⟨v104, hv104⟩ : ∃ v, eA g0 234 5510 = v := ⟨_, rfl⟩
    have tv104 := congrArg Int32.toInt hv104
    have x105 := HI.eqA hI0 (p := 234) (j := 5510) (hv104)
    obtain ⟨v106, hv106⟩ : ∃ v, eA g0 234 5514 = v := ⟨_, rfl⟩
    have tv106 := congrArg Int32.toInt hv106
    have x107 := HI.eqA hI0 (p := 234) (j := 5514) (hv106)
    obtain ⟨v108, hv108⟩ : ∃ v, eA g0 234 5515 = v := ⟨_, rfl⟩
    have tv108 := congrArg Int32.toInt hv108
    have x109 := HI.eqA hI0 (p := 234) (j := 5515) (hv108)
    obtain ⟨v110, hv110⟩ : ∃ v, eA g0 234 5516 = v := ⟨_, rfl⟩
    have tv110 := congrArg Int32.toInt hv110
    have x111 := HI.eqA hI0 (p := 234) (j := 5516) (hv110)
    obtain ⟨v112, hv112⟩ : ∃ v, eA g0 235 0 = v := ⟨_, rfl⟩
    have tv112 := congrArg Int32.toInt hv112
    have x113 := HI.eqA hI0 (p := 235) (j := 0) (hv112)
    obtain ⟨v114, hv114⟩ : ∃ v, eA g0 235 1 = v := ⟨_, rfl⟩
    have tv114 := congrArg Int32.toInt hv114
    have x115 := HI.eqA hI0 (p := 235) (j := 1) (hv114)
    have x116 := HI.eqA hI82 (p := 234) (j := 0) ((((eA_c (hF83.2.1 234 (by decide))).trans (eA_c gA_sI)).trans hv96))
    have x117 := HI.eqA hI82 (p := 234) (j := 4) ((((eA_c (hF83.2.1 234 (by decide))).trans (eA_c gA_sI)).trans hv98))
    have x118 := HI.eqA hI82 (p := 234) (j := 5) ((((eA_c (hF83.2.1 234 (by decide))).trans (eA_c gA_sI)).trans hv100))
    have x119 := HI.eqA hI82 (p := 234) (j := 6) ((((eA_c (hF83.2.1 234 (by decide))).trans (eA_c gA_sI)).trans hv102))
    have x120 := HI.eqA hI82 (p := 234) (j := 5510) ((((eA_c (hF83.2.1 234 (by decide))).trans (eA_c gA_sI)).trans hv104))
    have x121 := HI.eqA hI82 (p := 234) (j := 5514) ((((eA_c (hF83.2.1 234 (by decide))).trans (eA_c gA_sI)).trans hv106))
    have x122 := HI.eqA hI82 (p := 234) (j := 5515) ((((eA_c (hF83.2.1 234 (by decide))).trans (eA_c gA_sI)).trans hv108))
    have x123 := HI.eqA hI82 (p := 234) (j := 5516) ((((eA_c (hF83.2.1 234 (by decide))).trans (eA_c gA_sI)).trans hv110))
    have x124 := HI.eqA hI82 (p := 235) (j := 0) ((((eA_c (hF83.2.1 235 (by decide))).trans (eA_c gA_sI)).trans hv112))
    have x125 := HI.eqA hI82 (p := 235) (j := 1) ((((eA_c (hF83.2.1 235 (by decide))).trans (eA_c gA_sI)).trans hv114))
    exact ⟨_, rfl, hI82, hF86, _, rfl, by omega, ⟨⟨by omega, by omega, by omega, by omega, by omega⟩, (by intro i i0 i1; refine Eq.trans ?_ (if_neg (show ¬ (a1.toInt = 0) from by omega)).symm; refine (eA_ti (((hF83.2.1 234 (by decide)).trans (gA_sI)))).trans ?_; (first | rfl | exact eA_ix (by omega) | omega)), (by intro i i0 i1; refine Eq.trans ?_ (if_neg (show ¬ (a1.toInt = 1) from by omega)).symm; refine (eA_ti (((hF83.2.1 234 (by decide)).trans (gA_sI)))).trans ?_; (first | rfl | exact eA_ix (by omega) | omega))⟩⟩
  · have c80_ : v79.toInt ≥ 0 := en_j_lt_f c80
    refine At.enter rfl ?_
    refine r_lload_n rfl ?_
    refine r_lload rfl ?_
    refine r_lcmp _ rfl ?_
    refine r_ifs 13 rfl (fun c126 => ?_) (fun c126 => ?_)
    · have c126_ : v79.toInt > 1 := en_j_gt_t c126
      refine At.enter rfl ?_
      refine r_iconst 0 rfl ?_
      refine Ar.fall 18 rfl ?_
      refine At.enter rfl ?_
      refine q_iretz (by decide) ?_
      refine At.enter rfl ?_
      refine r_iff 15 rfl (by decide) ?_
      refine At.enter rfl ?_
      refine r_aload_n rfl ?_
      refine r_iconst (-1) rfl ?_
      refine r_callV 20 rfl [.ref 231, .int (-1)] [] (Nat.le_of_ble_eq_true rfl) rfl (T_X11_tell_231 _ hI77 (-1) (by decide)) ?_
      rintro _ _ ⟨g127, rfl, hI128, hF129, v130, rfl, hr131⟩
      refine At.sti ?_
      have hF132 := Fr.tr hF78 hF129 rfl rfl
      have zv133 : ((-1) : Int32).toInt = (-1) := rfl
      refine At.enter rfl ?_
      refine r_ireti ?_
      obtain ⟨v134, hv134⟩ : ∃ v, eA g0 233 0 = v := ⟨_, rfl⟩
      have tv134 := congrArg Int32.toInt hv134
      have wv134 := HI.t0 hI0
      rw [hv134] at wv134
      have tv134 := congrArg Int32.toInt hv134
      have x135 := HI.eqA hI0 (p := 233) (j := 0) (hv134)
      obtain ⟨v136, hv136⟩ : ∃ v, eA g0 233 4 = v := ⟨_, rfl⟩
      have wv136 := HI.t4 hI0
      rw [hv136] at wv136
      have tv136 := congrArg Int32.toInt hv136
      have x137 := HI.eqA hI0 (p := 233) (j := 4) (hv136)
      obtain ⟨v138, hv138⟩ : ∃ v, eA g0 233 5 = v := ⟨_, rfl⟩
      have wv138 := HI.t5 hI0
      rw [hv138] at wv138
      have tv138 := congrArg Int32.toInt hv138
      have x139 := HI.eqA hI0 (p := 233) (j := 5) (hv138)
      obtain ⟨v140, hv140⟩ : ∃ v, eA g0 233 6 = v := ⟨_, rfl⟩
      have wv140 := HI.t6 hI0
      rw [hv140] at wv140
      have tv140 := congrArg Int32.toInt hv140
      have x141 := HI.eqA hI0 (p := 233) (j := 6) (hv140)
      obtain ⟨v142, hv142⟩ : ∃ v, eA g0 234 0 = v := ⟨_, rfl⟩
      have tv142 := congrArg Int32.toInt hv142
      have x143 := HI.eqA hI0 (p := 234) (j := 0) (hv142)
      obtain ⟨v144, hv144⟩ : ∃ v, eA g0 234 4 = v := ⟨_, rfl⟩
      have tv144 := congrArg Int32.toInt hv144
      have x145 := HI.eqA hI0 (p := 234) (j := 4) (hv144)
      obtain ⟨v146, hv146⟩ : ∃ v, eA g0 234 5 = v := ⟨_, rfl⟩
      have tv146 := congrArg Int32.toInt hv146
      have x147 := HI.eqA hI0 (p := 234) (j := 5) (hv146)
      obtain ⟨v148, hv148⟩ : ∃ v, eA g0 234 6 = v := ⟨_, rfl⟩
      have tv148 := congrArg Int32.toInt hv148
      have x149 := HI.eqA hI0 (p := 234) (j := 6) (hv148)
      obtain ⟨v150, hv150⟩ : ∃ v, eA g0 234 5510 = v := ⟨_, rfl⟩
      have tv150 := congrArg Int32.toInt hv150
      have x151 := HI.eqA hI0 (p := 234) (j := 5510) (hv150)
      obtain ⟨v152, hv152⟩ : ∃ v, eA g0 234 5514 = v := ⟨_, rfl⟩
      have tv152 := congrArg Int32.toInt hv152
      have x153 := HI.eqA hI0 (p := 234) (j := 5514) (hv152)
      obtain ⟨v154, hv154⟩ : ∃ v, eA g0 234 5515 = v := ⟨_, rfl⟩
      have tv154 := congrArg Int32.toInt hv154
      have x155 := HI.eqA hI0 (p := 234) (j := 5515) (hv154)
      obtain ⟨v156, hv156⟩ : ∃ v, eA g0 234 5516 = v := ⟨_, rfl⟩
      have tv156 := congrArg Int32.toInt hv156
      have x157 := HI.eqA hI0 (p := 234) (j := 5516) (hv156)
      obtain ⟨v158, hv158⟩ : ∃ v, eA g0 235 0 = v := ⟨_, rfl⟩
      have tv158 := congrArg Int32.toInt hv158
      have x159 := HI.eqA hI0 (p := 235) (j := 0) (hv158)
      obtain ⟨v160, hv160⟩ : ∃ v, eA g0 235 1 = v := ⟨_, rfl⟩
      have tv160 := congrArg Int32.toInt hv160
      have x161 := HI.eqA hI0 (p := 235) (j := 1) (hv160)
      have x162 := HI.eqA hI128 (p := 234) (j := 0) ((((eA_c (hF129.2.1 234 (by decide))).trans (eA_c gA_sI)).trans hv142))
      have x163 := HI.eqA hI128 (p := 234) (j := 4) ((((eA_c (hF129.2.1 234 (by decide))).trans (eA_c gA_sI)).trans hv144))
      have x164 := HI.eqA hI128 (p := 234) (j := 5) ((((eA_c (hF129.2.1 234 (by decide))).trans (eA_c gA_sI)).trans hv146))
      have x165 := HI.eqA hI128 (p := 234) (j := 6) ((((eA_c (hF129.2.1 234 (by decide))).trans (eA_c gA_sI)).trans hv148))
      have x166 := HI.eqA hI128 (p := 234) (j := 5510) ((((eA_c (hF129.2.1 234 (by decide))).trans (eA_c gA_sI)).trans hv150))
      have x167 := HI.eqA hI128 (p := 234) (j := 5514) ((((eA_c (hF129.2.1 234 (by decide))).trans (eA_c gA_sI)).trans hv152))
      have x168 := HI.eqA hI128 (p := 234) (j := 5515) ((((eA_c (hF129.2.1 234 (by decide))).trans (eA_c gA_sI)).trans hv154))
      have x169 := HI.eqA hI128 (p := 234) (j := 5516) ((((eA_c (hF129.2.1 234 (by decide))).trans (eA_c gA_sI)).trans hv156))
      have x170 := HI.eqA hI128 (p := 235) (j := 0) ((((eA_c (hF129.2.1 235 (by decide))).trans (eA_c gA_sI)).trans hv158))
      have x171 := HI.eqA hI128 (p := 235) (j := 1) ((((eA_c (hF129.2.1 235 (by decide))).trans (eA_c gA_sI)).trans hv160))
      exact ⟨_, rfl, hI128, hF132, _, rfl, by omega, ⟨⟨by omega, by omega, by omega, by omega, by omega⟩, (by intro i i0 i1; refine Eq.trans ?_ (if_neg (show ¬ (a1.toInt = 0) from by omega)).symm; refine (eA_ti (((hF129.2.1 234 (by decide)).trans (gA_sI)))).trans ?_; (first | rfl | exact eA_ix (by omega) | omega)), (by intro i i0 i1; refine Eq.trans ?_ (if_neg (show ¬ (a1.toInt = 1) from by omega)).symm; refine (eA_ti (((hF129.2.1 234 (by decide)).trans (gA_sI)))).trans ?_; (first | rfl | exact eA_ix (by omega) | omega))⟩⟩
    · have c126_ : v79.toInt ≤ 1 := en_j_gt_f c126
      refine At.enter rfl ?_
      refine r_iconst 1 rfl ?_
      refine r_goto ?_
      refine At.enter rfl ?_
      refine q_iretz (by decide) ?_
      refine At.enter rfl ?_
      refine r_ift (by decide) ?_
      refine At.enter rfl ?_
      refine r_iconst 0 rfl ?_
      refine r_istore_n ([(2, .int 0), (0, .ref 231), (1, .int a1)]) rfl ?_
      refine Ar.fall 23 rfl ?_
      refine zi_loopG hI77 ⟨by omega, by omega⟩ rfl rfl rfl (fun ys172 l173 hI179 hW180 hl174 hc175 hf176 e177 e178 => ?_)
      have hF181 := Fr.tr hF78 hl174 rfl rfl
      refine At.enter rfl ?_
      refine r_aload_n e177 ?_
      refine q_getR (Sh.ref hI179.1 kx_231 rfl) ?_
      refine r_iload_n e178 ?_
      refine r_iconst 1 rfl ?_
      refine q_bast (Sh.arr hI179.1 ka_235) (a1.toInt) rfl (by omega) rfl ?_
      have hI182 := HI.kept hI179 (k := a1.toInt) (v := 1) ⟨by omega, by omega⟩ hW180
      have hF183 := Fr.wA (p := 235) (j := a1.toInt) (v := 1) hF181 rfl
      refine r_aload_n e177 ?_
      refine r_iconst 0 rfl ?_
      refine r_callV 66 rfl [.ref 231, .int 0] [] (Nat.le_of_ble_eq_true rfl) rfl (T_X11_tell_231 _ hI182 0 (by decide)) ?_
      rintro _ _ ⟨g184, rfl, hI185, hF186, v187, rfl, hr188⟩
      refine At.sti ?_
      have hF189 := Fr.tr hF183 hF186 rfl rfl
      have zv190 : (0 : Int32).toInt = 0 := rfl
      refine At.enter rfl ?_
      refine r_ireti ?_
      obtain ⟨v191, hv191⟩ : ∃ v, eA g0 233 0 = v := ⟨_, rfl⟩
      have tv191 := congrArg Int32.toInt hv191
      have wv191 := HI.t0 hI0
      rw [hv191] at wv191
      have tv191 := congrArg Int32.toInt hv191
      have x192 := HI.eqA hI0 (p := 233) (j := 0) (hv191)
      obtain ⟨v193, hv193⟩ : ∃ v, eA g0 233 4 = v := ⟨_, rfl⟩
      have wv193 := HI.t4 hI0
      rw [hv193] at wv193
      have tv193 := congrArg Int32.toInt hv193
      have x194 := HI.eqA hI0 (p := 233) (j := 4) (hv193)
      obtain ⟨v195, hv195⟩ : ∃ v, eA g0 233 5 = v := ⟨_, rfl⟩
      have wv195 := HI.t5 hI0
      rw [hv195] at wv195
      have tv195 := congrArg Int32.toInt hv195
      have x196 := HI.eqA hI0 (p := 233) (j := 5) (hv195)
      obtain ⟨v197, hv197⟩ : ∃ v, eA g0 233 6 = v := ⟨_, rfl⟩
      have wv197 := HI.t6 hI0
      rw [hv197] at wv197
      have tv197 := congrArg Int32.toInt hv197
      have x198 := HI.eqA hI0 (p := 233) (j := 6) (hv197)
      obtain ⟨v199, hv199⟩ : ∃ v, eA g0 234 0 = v := ⟨_, rfl⟩
      have tv199 := congrArg Int32.toInt hv199
      have x200 := HI.eqA hI0 (p := 234) (j := 0) (hv199)
      obtain ⟨v201, hv201⟩ : ∃ v, eA g0 234 4 = v := ⟨_, rfl⟩
      have tv201 := congrArg Int32.toInt hv201
      have x202 := HI.eqA hI0 (p := 234) (j := 4) (hv201)
      obtain ⟨v203, hv203⟩ : ∃ v, eA g0 234 5 = v := ⟨_, rfl⟩
      have tv203 := congrArg Int32.toInt hv203
      have x204 := HI.eqA hI0 (p := 234) (j := 5) (hv203)
      obtain ⟨v205, hv205⟩ : ∃ v, eA g0 234 6 = v := ⟨_, rfl⟩
      have tv205 := congrArg Int32.toInt hv205
      have x206 := HI.eqA hI0 (p := 234) (j := 6) (hv205)
      obtain ⟨v207, hv207⟩ : ∃ v, eA g0 234 5510 = v := ⟨_, rfl⟩
      have tv207 := congrArg Int32.toInt hv207
      have x208 := HI.eqA hI0 (p := 234) (j := 5510) (hv207)
      obtain ⟨v209, hv209⟩ : ∃ v, eA g0 234 5514 = v := ⟨_, rfl⟩
      have tv209 := congrArg Int32.toInt hv209
      have x210 := HI.eqA hI0 (p := 234) (j := 5514) (hv209)
      obtain ⟨v211, hv211⟩ : ∃ v, eA g0 234 5515 = v := ⟨_, rfl⟩
      have tv211 := congrArg Int32.toInt hv211
      have x212 := HI.eqA hI0 (p := 234) (j := 5515) (hv211)
      obtain ⟨v213, hv213⟩ : ∃ v, eA g0 234 5516 = v := ⟨_, rfl⟩
      have tv213 := congrArg Int32.toInt hv213
      have x214 := HI.eqA hI0 (p := 234) (j := 5516) (hv213)
      obtain ⟨v215, hv215⟩ : ∃ v, eA g0 235 0 = v := ⟨_, rfl⟩
      have tv215 := congrArg Int32.toInt hv215
      have x216 := HI.eqA hI0 (p := 235) (j := 0) (hv215)
      obtain ⟨v217, hv217⟩ : ∃ v, eA g0 235 1 = v := ⟨_, rfl⟩
      have tv217 := congrArg Int32.toInt hv217
      have x218 := HI.eqA hI0 (p := 235) (j := 1) (hv217)
      obtain ⟨v219, hv219⟩ : ∃ v, eA ys172 234 0 = v := ⟨_, rfl⟩
      have tv219 := congrArg Int32.toInt hv219
      obtain ⟨v220, hv220⟩ : ∃ v, eA ys172 234 4 = v := ⟨_, rfl⟩
      have tv220 := congrArg Int32.toInt hv220
      obtain ⟨v221, hv221⟩ : ∃ v, eA ys172 234 5 = v := ⟨_, rfl⟩
      have tv221 := congrArg Int32.toInt hv221
      obtain ⟨v222, hv222⟩ : ∃ v, eA ys172 234 6 = v := ⟨_, rfl⟩
      have tv222 := congrArg Int32.toInt hv222
      obtain ⟨v223, hv223⟩ : ∃ v, eA ys172 234 5510 = v := ⟨_, rfl⟩
      have tv223 := congrArg Int32.toInt hv223
      obtain ⟨v224, hv224⟩ : ∃ v, eA ys172 234 5514 = v := ⟨_, rfl⟩
      have tv224 := congrArg Int32.toInt hv224
      obtain ⟨v225, hv225⟩ : ∃ v, eA ys172 234 5515 = v := ⟨_, rfl⟩
      have tv225 := congrArg Int32.toInt hv225
      obtain ⟨v226, hv226⟩ : ∃ v, eA ys172 234 5516 = v := ⟨_, rfl⟩
      have tv226 := congrArg Int32.toInt hv226
      have zv227 : (1 : Int32).toInt = 1 := rfl
      have zv228 : (1 : Int32).toInt = 1 := rfl
      exact ⟨_, rfl, hI185, hF189, _, rfl, by omega, ⟨⟨(fun e => by have z0 := HI.eqA hI185 (p := 234) (j := 0) ((((eA_c (hF186.2.1 234 (by decide))).trans (eA_c (gA_sA_ne (by decide)))).trans hv219)); have z1 := HI.eqA hI185 (p := 234) (j := 4) ((((eA_c (hF186.2.1 234 (by decide))).trans (eA_c (gA_sA_ne (by decide)))).trans hv220)); have z2 := HI.eqA hI185 (p := 234) (j := 5) ((((eA_c (hF186.2.1 234 (by decide))).trans (eA_c (gA_sA_ne (by decide)))).trans hv221)); have z3 := HI.eqA hI185 (p := 234) (j := 6) ((((eA_c (hF186.2.1 234 (by decide))).trans (eA_c (gA_sA_ne (by decide)))).trans hv222)); have z4 := HI.eqA hI185 (p := 234) (j := 5510) ((((eA_c (hF186.2.1 234 (by decide))).trans (eA_c (gA_sA_ne (by decide)))).trans hv223)); have z5 := HI.eqA hI185 (p := 234) (j := 5514) ((((eA_c (hF186.2.1 234 (by decide))).trans (eA_c (gA_sA_ne (by decide)))).trans hv224)); have z6 := HI.eqA hI185 (p := 234) (j := 5515) ((((eA_c (hF186.2.1 234 (by decide))).trans (eA_c (gA_sA_ne (by decide)))).trans hv225)); have z7 := HI.eqA hI185 (p := 234) (j := 5516) ((((eA_c (hF186.2.1 234 (by decide))).trans (eA_c (gA_sA_ne (by decide)))).trans hv226)); have z8 := HI.eqA hI185 (p := 235) (j := 0) (((eA_c (hF186.2.1 235 (by decide))).trans (eA_sA_eq hI179.1 ka_235 (by omega) (by first | decide | omega) (by first | decide | omega)))); have z9 := HI.eqA hI185 (p := 235) (j := 1) ((((eA_c (hF186.2.1 235 (by decide))).trans ((eA_sA_ne hI179.1 ka_235 (by first | decide | omega) (by first | decide | omega) (by first | decide | omega)).trans ((eA_c (hl174.2.1 235 (by decide))).trans (eA_c gA_sI)))).trans hv217)); have z10 := (show (eA ys172 234 0).toInt = (eA g0 233 0).toInt from by have z := hc175 0 (by decide) (by decide); rw [show 5510 * a1.toInt + 0 = 0 by omega, eA_c (gA_sI)] at z; exact congrArg Int32.toInt z); have z11 := (show (eA ys172 234 5510).toInt = (eA g0 234 5510).toInt from by have z := hf176 5510 (by decide) (by omega); rw [eA_c (gA_sI)] at z; exact congrArg Int32.toInt z); have z12 := (show (eA ys172 234 4).toInt = (eA g0 233 4).toInt from by have z := hc175 4 (by decide) (by decide); rw [show 5510 * a1.toInt + 4 = 4 by omega, eA_c (gA_sI)] at z; exact congrArg Int32.toInt z); have z13 := (show (eA ys172 234 5514).toInt = (eA g0 234 5514).toInt from by have z := hf176 5514 (by decide) (by omega); rw [eA_c (gA_sI)] at z; exact congrArg Int32.toInt z); have z14 := (show (eA ys172 234 5).toInt = (eA g0 233 5).toInt from by have z := hc175 5 (by decide) (by decide); rw [show 5510 * a1.toInt + 5 = 5 by omega, eA_c (gA_sI)] at z; exact congrArg Int32.toInt z); have z15 := (show (eA ys172 234 5515).toInt = (eA g0 234 5515).toInt from by have z := hf176 5515 (by decide) (by omega); rw [eA_c (gA_sI)] at z; exact congrArg Int32.toInt z); have z16 := (show (eA ys172 234 6).toInt = (eA g0 233 6).toInt from by have z := hc175 6 (by decide) (by decide); rw [show 5510 * a1.toInt + 6 = 6 by omega, eA_c (gA_sI)] at z; exact congrArg Int32.toInt z); have z17 := (show (eA ys172 234 5516).toInt = (eA g0 234 5516).toInt from by have z := hf176 5516 (by decide) (by omega); rw [eA_c (gA_sI)] at z; exact congrArg Int32.toInt z); omega), (fun e_ => by have e : a1.toInt = 1 := (by omega); have z0 := HI.eqA hI185 (p := 234) (j := 0) ((((eA_c (hF186.2.1 234 (by decide))).trans (eA_c (gA_sA_ne (by decide)))).trans hv219)); have z1 := HI.eqA hI185 (p := 234) (j := 4) ((((eA_c (hF186.2.1 234 (by decide))).trans (eA_c (gA_sA_ne (by decide)))).trans hv220)); have z2 := HI.eqA hI185 (p := 234) (j := 5) ((((eA_c (hF186.2.1 234 (by decide))).trans (eA_c (gA_sA_ne (by decide)))).trans hv221)); have z3 := HI.eqA hI185 (p := 234) (j := 6) ((((eA_c (hF186.2.1 234 (by decide))).trans (eA_c (gA_sA_ne (by decide)))).trans hv222)); have z4 := HI.eqA hI185 (p := 234) (j := 5510) ((((eA_c (hF186.2.1 234 (by decide))).trans (eA_c (gA_sA_ne (by decide)))).trans hv223)); have z5 := HI.eqA hI185 (p := 234) (j := 5514) ((((eA_c (hF186.2.1 234 (by decide))).trans (eA_c (gA_sA_ne (by decide)))).trans hv224)); have z6 := HI.eqA hI185 (p := 234) (j := 5515) ((((eA_c (hF186.2.1 234 (by decide))).trans (eA_c (gA_sA_ne (by decide)))).trans hv225)); have z7 := HI.eqA hI185 (p := 234) (j := 5516) ((((eA_c (hF186.2.1 234 (by decide))).trans (eA_c (gA_sA_ne (by decide)))).trans hv226)); have z8 := HI.eqA hI185 (p := 235) (j := 0) ((((eA_c (hF186.2.1 235 (by decide))).trans ((eA_sA_ne hI179.1 ka_235 (by first | decide | omega) (by first | decide | omega) (by first | decide | omega)).trans ((eA_c (hl174.2.1 235 (by decide))).trans (eA_c gA_sI)))).trans hv215)); have z9 := HI.eqA hI185 (p := 235) (j := 1) (((eA_c (hF186.2.1 235 (by decide))).trans (eA_sA_eq hI179.1 ka_235 (by omega) (by first | decide | omega) (by first | decide | omega)))); have z10 := (show (eA ys172 234 5510).toInt = (eA g0 233 0).toInt from by have z := hc175 0 (by decide) (by decide); rw [show 5510 * a1.toInt + 0 = 5510 by omega, eA_c (gA_sI)] at z; exact congrArg Int32.toInt z); have z11 := (show (eA ys172 234 0).toInt = (eA g0 234 0).toInt from by have z := hf176 0 (by decide) (by omega); rw [eA_c (gA_sI)] at z; exact congrArg Int32.toInt z); have z12 := (show (eA ys172 234 5514).toInt = (eA g0 233 4).toInt from by have z := hc175 4 (by decide) (by decide); rw [show 5510 * a1.toInt + 4 = 5514 by omega, eA_c (gA_sI)] at z; exact congrArg Int32.toInt z); have z13 := (show (eA ys172 234 4).toInt = (eA g0 234 4).toInt from by have z := hf176 4 (by decide) (by omega); rw [eA_c (gA_sI)] at z; exact congrArg Int32.toInt z); have z14 := (show (eA ys172 234 5515).toInt = (eA g0 233 5).toInt from by have z := hc175 5 (by decide) (by decide); rw [show 5510 * a1.toInt + 5 = 5515 by omega, eA_c (gA_sI)] at z; exact congrArg Int32.toInt z); have z15 := (show (eA ys172 234 5).toInt = (eA g0 234 5).toInt from by have z := hf176 5 (by decide) (by omega); rw [eA_c (gA_sI)] at z; exact congrArg Int32.toInt z); have z16 := (show (eA ys172 234 5516).toInt = (eA g0 233 6).toInt from by have z := hc175 6 (by decide) (by decide); rw [show 5510 * a1.toInt + 6 = 5516 by omega, eA_c (gA_sI)] at z; exact congrArg Int32.toInt z); have z17 := (show (eA ys172 234 6).toInt = (eA g0 234 6).toInt from by have z := hf176 6 (by decide) (by omega); rw [eA_c (gA_sI)] at z; exact congrArg Int32.toInt z); omega), (fun e => by have z0 := HI.eqA hI185 (p := 234) (j := 0) ((((eA_c (hF186.2.1 234 (by decide))).trans (eA_c (gA_sA_ne (by decide)))).trans hv219)); have z1 := HI.eqA hI185 (p := 234) (j := 4) ((((eA_c (hF186.2.1 234 (by decide))).trans (eA_c (gA_sA_ne (by decide)))).trans hv220)); have z2 := HI.eqA hI185 (p := 234) (j := 5) ((((eA_c (hF186.2.1 234 (by decide))).trans (eA_c (gA_sA_ne (by decide)))).trans hv221)); have z3 := HI.eqA hI185 (p := 234) (j := 6) ((((eA_c (hF186.2.1 234 (by decide))).trans (eA_c (gA_sA_ne (by decide)))).trans hv222)); have z4 := HI.eqA hI185 (p := 234) (j := 5510) ((((eA_c (hF186.2.1 234 (by decide))).trans (eA_c (gA_sA_ne (by decide)))).trans hv223)); have z5 := HI.eqA hI185 (p := 234) (j := 5514) ((((eA_c (hF186.2.1 234 (by decide))).trans (eA_c (gA_sA_ne (by decide)))).trans hv224)); have z6 := HI.eqA hI185 (p := 234) (j := 5515) ((((eA_c (hF186.2.1 234 (by decide))).trans (eA_c (gA_sA_ne (by decide)))).trans hv225)); have z7 := HI.eqA hI185 (p := 234) (j := 5516) ((((eA_c (hF186.2.1 234 (by decide))).trans (eA_c (gA_sA_ne (by decide)))).trans hv226)); have z8 := HI.eqA hI185 (p := 235) (j := 0) ((((eA_c (hF186.2.1 235 (by decide))).trans ((eA_sA_ne hI179.1 ka_235 (by first | decide | omega) (by first | decide | omega) (by first | decide | omega)).trans ((eA_c (hl174.2.1 235 (by decide))).trans (eA_c gA_sI)))).trans hv215)); have z9 := HI.eqA hI185 (p := 235) (j := 1) (((eA_c (hF186.2.1 235 (by decide))).trans (eA_sA_eq hI179.1 ka_235 (by omega) (by first | decide | omega) (by first | decide | omega)))); have z10 := (show (eA ys172 234 5510).toInt = (eA g0 233 0).toInt from by have z := hc175 0 (by decide) (by decide); rw [show 5510 * a1.toInt + 0 = 5510 by omega, eA_c (gA_sI)] at z; exact congrArg Int32.toInt z); have z11 := (show (eA ys172 234 0).toInt = (eA g0 234 0).toInt from by have z := hf176 0 (by decide) (by omega); rw [eA_c (gA_sI)] at z; exact congrArg Int32.toInt z); have z12 := (show (eA ys172 234 5514).toInt = (eA g0 233 4).toInt from by have z := hc175 4 (by decide) (by decide); rw [show 5510 * a1.toInt + 4 = 5514 by omega, eA_c (gA_sI)] at z; exact congrArg Int32.toInt z); have z13 := (show (eA ys172 234 4).toInt = (eA g0 234 4).toInt from by have z := hf176 4 (by decide) (by omega); rw [eA_c (gA_sI)] at z; exact congrArg Int32.toInt z); have z14 := (show (eA ys172 234 5515).toInt = (eA g0 233 5).toInt from by have z := hc175 5 (by decide) (by decide); rw [show 5510 * a1.toInt + 5 = 5515 by omega, eA_c (gA_sI)] at z; exact congrArg Int32.toInt z); have z15 := (show (eA ys172 234 5).toInt = (eA g0 234 5).toInt from by have z := hf176 5 (by decide) (by omega); rw [eA_c (gA_sI)] at z; exact congrArg Int32.toInt z); have z16 := (show (eA ys172 234 5516).toInt = (eA g0 233 6).toInt from by have z := hc175 6 (by decide) (by decide); rw [show 5510 * a1.toInt + 6 = 5516 by omega, eA_c (gA_sI)] at z; exact congrArg Int32.toInt z); have z17 := (show (eA ys172 234 6).toInt = (eA g0 234 6).toInt from by have z := hf176 6 (by decide) (by omega); rw [eA_c (gA_sI)] at z; exact congrArg Int32.toInt z); omega), (fun e_ => by have e : a1.toInt = 0 := (by omega); have z0 := HI.eqA hI185 (p := 234) (j := 0) ((((eA_c (hF186.2.1 234 (by decide))).trans (eA_c (gA_sA_ne (by decide)))).trans hv219)); have z1 := HI.eqA hI185 (p := 234) (j := 4) ((((eA_c (hF186.2.1 234 (by decide))).trans (eA_c (gA_sA_ne (by decide)))).trans hv220)); have z2 := HI.eqA hI185 (p := 234) (j := 5) ((((eA_c (hF186.2.1 234 (by decide))).trans (eA_c (gA_sA_ne (by decide)))).trans hv221)); have z3 := HI.eqA hI185 (p := 234) (j := 6) ((((eA_c (hF186.2.1 234 (by decide))).trans (eA_c (gA_sA_ne (by decide)))).trans hv222)); have z4 := HI.eqA hI185 (p := 234) (j := 5510) ((((eA_c (hF186.2.1 234 (by decide))).trans (eA_c (gA_sA_ne (by decide)))).trans hv223)); have z5 := HI.eqA hI185 (p := 234) (j := 5514) ((((eA_c (hF186.2.1 234 (by decide))).trans (eA_c (gA_sA_ne (by decide)))).trans hv224)); have z6 := HI.eqA hI185 (p := 234) (j := 5515) ((((eA_c (hF186.2.1 234 (by decide))).trans (eA_c (gA_sA_ne (by decide)))).trans hv225)); have z7 := HI.eqA hI185 (p := 234) (j := 5516) ((((eA_c (hF186.2.1 234 (by decide))).trans (eA_c (gA_sA_ne (by decide)))).trans hv226)); have z8 := HI.eqA hI185 (p := 235) (j := 0) (((eA_c (hF186.2.1 235 (by decide))).trans (eA_sA_eq hI179.1 ka_235 (by omega) (by first | decide | omega) (by first | decide | omega)))); have z9 := HI.eqA hI185 (p := 235) (j := 1) ((((eA_c (hF186.2.1 235 (by decide))).trans ((eA_sA_ne hI179.1 ka_235 (by first | decide | omega) (by first | decide | omega) (by first | decide | omega)).trans ((eA_c (hl174.2.1 235 (by decide))).trans (eA_c gA_sI)))).trans hv217)); have z10 := (show (eA ys172 234 0).toInt = (eA g0 233 0).toInt from by have z := hc175 0 (by decide) (by decide); rw [show 5510 * a1.toInt + 0 = 0 by omega, eA_c (gA_sI)] at z; exact congrArg Int32.toInt z); have z11 := (show (eA ys172 234 5510).toInt = (eA g0 234 5510).toInt from by have z := hf176 5510 (by decide) (by omega); rw [eA_c (gA_sI)] at z; exact congrArg Int32.toInt z); have z12 := (show (eA ys172 234 4).toInt = (eA g0 233 4).toInt from by have z := hc175 4 (by decide) (by decide); rw [show 5510 * a1.toInt + 4 = 4 by omega, eA_c (gA_sI)] at z; exact congrArg Int32.toInt z); have z13 := (show (eA ys172 234 5514).toInt = (eA g0 234 5514).toInt from by have z := hf176 5514 (by decide) (by omega); rw [eA_c (gA_sI)] at z; exact congrArg Int32.toInt z); have z14 := (show (eA ys172 234 5).toInt = (eA g0 233 5).toInt from by have z := hc175 5 (by decide) (by decide); rw [show 5510 * a1.toInt + 5 = 5 by omega, eA_c (gA_sI)] at z; exact congrArg Int32.toInt z); have z15 := (show (eA ys172 234 5515).toInt = (eA g0 234 5515).toInt from by have z := hf176 5515 (by decide) (by omega); rw [eA_c (gA_sI)] at z; exact congrArg Int32.toInt z); have z16 := (show (eA ys172 234 6).toInt = (eA g0 233 6).toInt from by have z := hc175 6 (by decide) (by decide); rw [show 5510 * a1.toInt + 6 = 6 by omega, eA_c (gA_sI)] at z; exact congrArg Int32.toInt z); have z17 := (show (eA ys172 234 5516).toInt = (eA g0 234 5516).toInt from by have z := hf176 5516 (by decide) (by omega); rw [eA_c (gA_sI)] at z; exact congrArg Int32.toInt z); omega), by omega⟩, (by intro i i0 i1; exact (Decidable.em (a1.toInt = 0)).elim (fun k0 => by rw [if_pos k0]; exact (by refine (eA_ti (((hF186.2.1 234 (by decide)).trans (gA_sA_ne (by decide))))).trans ?_; refine (eA_ix (show i = 5510 * a1.toInt + i from by omega)).trans ?_; exact (congrArg Int32.toInt (hc175 i (by omega) (by omega))).trans (eA_ti ((gA_sI))))) (fun k0 => by rw [if_neg k0]; exact (by refine (eA_ti (((hF186.2.1 234 (by decide)).trans (gA_sA_ne (by decide))))).trans ?_; exact (congrArg Int32.toInt (hf176 (i) (by omega) (by omega))).trans (eA_ti ((gA_sI)))))), (by intro i i0 i1; exact (Decidable.em (a1.toInt = 1)).elim (fun k0 => by rw [if_pos k0]; exact (by refine (eA_ti (((hF186.2.1 234 (by decide)).trans (gA_sA_ne (by decide))))).trans ?_; refine (eA_ix (show 5510 + i = 5510 * a1.toInt + i from by omega)).trans ?_; exact (congrArg Int32.toInt (hc175 i (by omega) (by omega))).trans (eA_ti ((gA_sI))))) (fun k0 => by rw [if_neg k0]; exact (by refine (eA_ti (((hF186.2.1 234 (by decide)).trans (gA_sA_ne (by decide))))).trans ?_; exact (congrArg Int32.toInt (hf176 (5510 + i) (by omega) (by omega))).trans (eA_ti ((gA_sI))))))⟩⟩

def F_X11_back_231 : List (Nat × Nat) := [(231, 0), (231, 1)]
def A_X11_back_231 : List Nat := [232, 233]
set_option maxRecDepth 100000 in
set_option maxHeartbeats 4000000 in
theorem T_X11_back_231 (d : Nat) {N : Nat} {g0 : List en_E} (hI0 : HI g0) (a1 : Int32) : Ev (d + 2) 166 [.ref 231, .int a1] (g0, N) (fun w h' => ∃ g', h' = (g', N) ∧ HI g' ∧ Fr F_X11_back_231 A_X11_back_231 g0 g' ∧ ∃ r : Int32, w = some (.int r) ∧ ((-2) ≤ r.toInt ∧ r.toInt ≤ 0) ∧ (((a1.toInt = 0 ∧ (eA g0 235 0).toInt ≠ 0 → r.toInt = 0 ∧ (eA g' 233 0).toInt = (eA g0 234 0).toInt ∧ (eA g' 233 4).toInt = (eA g0 234 4).toInt ∧ (eA g' 233 5).toInt = (eA g0 234 5).toInt ∧ (eA g' 233 6).toInt = (eA g0 234 6).toInt) ∧ (a1.toInt = 1 ∧ (eA g0 235 1).toInt ≠ 0 → r.toInt = 0 ∧ (eA g' 233 0).toInt = (eA g0 234 5510).toInt ∧ (eA g' 233 4).toInt = (eA g0 234 5514).toInt ∧ (eA g' 233 5).toInt = (eA g0 234 5515).toInt ∧ (eA g' 233 6).toInt = (eA g0 234 5516).toInt) ∧ (¬ (a1.toInt = 0 ∧ (eA g0 235 0).toInt ≠ 0) ∧ ¬ (a1.toInt = 1 ∧ (eA g0 235 1).toInt ≠ 0) → (eA g' 233 0).toInt = (eA g0 233 0).toInt ∧ (eA g' 233 4).toInt = (eA g0 233 4).toInt ∧ (eA g' 233 5).toInt = (eA g0 233 5).toInt ∧ (eA g' 233 6).toInt = (eA g0 233 6).toInt) ∧ (a1.toInt < 0 ∨ 1 < a1.toInt → r.toInt = -1) ∧ (0 ≤ a1.toInt ∧ a1.toInt ≤ 1 ∧ ¬ (a1.toInt = 0 ∧ (eA g0 235 0).toInt ≠ 0) ∧ ¬ (a1.toInt = 1 ∧ (eA g0 235 1).toInt ≠ 0) → r.toInt = -2)) ∧ (∀ i : Int, 10 ≤ i → i < 110 → (eA g' 233 (i)).toInt = if a1.toInt = 0 ∧ (eA g0 235 0).toInt ≠ 0 then (eA g0 234 (i)).toInt else if a1.toInt = 1 ∧ (eA g0 235 1).toInt ≠ 0 then (eA g0 234 (5510 + i)).toInt else (eA g0 233 (i)).toInt))) := by
  have hF0 : Fr F_X11_back_231 A_X11_back_231 g0 g0 := Fr.rf
  refine Ev.mk rfl rfl ⟨Nat.le_of_ble_eq_true rfl, Or.inr (q_rc hI0.1 kx_231 rfl)⟩ ?_
  show At _ none _ _ (0, [(0, .ref 231), (1, .int a1)], [], (_, _)) _
  refine At.enter rfl ?_
  refine r_aload_n rfl ?_
  refine r_iconst 0 rfl ?_
  refine q_putI (Sh.int hI0.1 kx_231 rfl) rfl ?_
  have hI91 := HI.wI0 hI0 kx_231 rfl (p := 231) (b := 0) (v := 0) rfl
  have hF92 := Fr.wI (p := 231) (b := 0) (v := 0) hF0 rfl
  refine r_iload_n rfl ?_
  refine q_i2l (fun v93 hv93 => ?_)
  refine r_lconst 0 rfl ?_
  refine r_lconst 1 rfl ?_
  refine q_inlS 12 rfl [.long v93, .long 0, .long 1] [] (Nat.le_of_ble_eq_true rfl) rfl ?_
  refine Ev.mk rfl rfl ⟨Nat.le_of_ble_eq_true rfl, Or.inl rfl⟩ ?_
  show At _ none _ _ (0, [(0, .long v93), (2, .long 0), (4, .long 1)], [], (_, _)) _
  refine At.enter rfl ?_
  refine r_lload_n rfl ?_
  refine r_lload_n rfl ?_
  refine r_lcmp _ rfl ?_
  refine r_ifs 6 rfl (fun c94 => ?_) (fun c94 => ?_)
  · have c94_ : v93.toInt < 0 := en_j_lt_t c94
    refine At.enter rfl ?_
    refine r_iconst 0 rfl ?_
    refine Ar.fall 18 rfl ?_
    refine At.enter rfl ?_
    refine q_iretz (by decide) ?_
    refine At.enter rfl ?_
    refine r_iff 15 rfl (by decide) ?_
    refine At.enter rfl ?_
    refine r_aload_n rfl ?_
    refine r_iconst (-1) rfl ?_
    refine r_callV 20 rfl [.ref 231, .int (-1)] [] (Nat.le_of_ble_eq_true rfl) rfl (T_X11_tell_231 _ hI91 (-1) (by decide)) ?_
    rintro _ _ ⟨g95, rfl, hI96, hF97, v98, rfl, hr99⟩
    refine At.sti ?_
    have hF100 := Fr.tr hF92 hF97 rfl rfl
    have zv101 : ((-1) : Int32).toInt = (-1) := rfl
    refine At.enter rfl ?_
    refine r_ireti ?_
    obtain ⟨v102, hv102⟩ : ∃ v, eA g0 233 0 = v := ⟨_, rfl⟩
    have tv102 := congrArg Int32.toInt hv102
    have wv102 := HI.t0 hI0
    rw [hv102] at wv102
    have tv102 := congrArg Int32.toInt hv102
    have x103 := HI.eqA hI0 (p := 233) (j := 0) (hv102)
    obtain ⟨v104, hv104⟩ : ∃ v, eA g0 233 4 = v := ⟨_, rfl⟩
    have wv104 := HI.t4 hI0
    rw [hv104] at wv104
    have tv104 := congrArg Int32.toInt hv104
    have x105 := HI.eqA hI0 (p := 233) (j := 4) (hv104)
    obtain ⟨v106, hv106⟩ : ∃ v, eA g0 233 5 = v := ⟨_, rfl⟩
    have wv106 := HI.t5 hI0
    rw [hv106] at wv106
    have tv106 := congrArg Int32.toInt hv106
    have x107 := HI.eqA hI0 (p := 233) (j := 5) (hv106)
    obtain ⟨v108, hv108⟩ : ∃ v, eA g0 233 6 = v := ⟨_, rfl⟩
    have wv108 := HI.t6 hI0
    rw [hv108] at wv108
    have tv108 := congrArg Int32.toInt hv108
    have x109 := HI.eqA hI0 (p := 233) (j := 6) (hv108)
    obtain ⟨v110, hv110⟩ : ∃ v, eA g0 234 0 = v := ⟨_, rfl⟩
    have tv110 := congrArg Int32.toInt hv110
    have x111 := HI.eqA hI0 (p := 234) (j := 0) (hv110)
    obtain ⟨v112, hv112⟩ : ∃ v, eA g0 234 4 = v := ⟨_, rfl⟩
    have tv112 := congrArg Int32.toInt hv112
    have x113 := HI.eqA hI0 (p := 234) (j := 4) (hv112)
    obtain ⟨v114, hv114⟩ : ∃ v, eA g0 234 5 = v := ⟨_, rfl⟩
    have tv114 := congrArg Int32.toInt hv114
    have x115 := HI.eqA hI0 (p := 234) (j := 5) (hv114)
    obtain ⟨v116, hv116⟩ : ∃ v, eA g0 234 6 = v := ⟨_, rfl⟩
    have tv116 := congrArg Int32.toInt hv116
    have x117 := HI.eqA hI0 (p := 234) (j := 6) (hv116)
    obtain ⟨v118, hv118⟩ : ∃ v, eA g0 234 5510 = v := ⟨_, rfl⟩
    have tv118 := congrArg Int32.toInt hv118
    have x119 := HI.eqA hI0 (p := 234) (j := 5510) (hv118)
    obtain ⟨v120, hv120⟩ : ∃ v, eA g0 234 5514 = v := ⟨_, rfl⟩
    have tv120 := congrArg Int32.toInt hv120
    have x121 := HI.eqA hI0 (p := 234) (j := 5514) (hv120)
    obtain ⟨v122, hv122⟩ : ∃ v, eA g0 234 5515 = v := ⟨_, rfl⟩
    have tv122 := congrArg Int32.toInt hv122
    have x123 := HI.eqA hI0 (p := 234) (j := 5515) (hv122)
    obtain ⟨v124, hv124⟩ : ∃ v, eA g0 234 5516 = v := ⟨_, rfl⟩
    have tv124 := congrArg Int32.toInt hv124
    have x125 := HI.eqA hI0 (p := 234) (j := 5516) (hv124)
    obtain ⟨v126, hv126⟩ : ∃ v, eA g0 235 0 = v := ⟨_, rfl⟩
    have tv126 := congrArg Int32.toInt hv126
    have x127 := HI.eqA hI0 (p := 235) (j := 0) (hv126)
    obtain ⟨v128, hv128⟩ : ∃ v, eA g0 235 1 = v := ⟨_, rfl⟩
    have tv128 := congrArg Int32.toInt hv128
    have x129 := HI.eqA hI0 (p := 235) (j := 1) (hv128)
    have x130 := HI.eqA hI96 (p := 233) (j := 0) ((((eA_c (hF97.2.1 233 (by decide))).trans (eA_c gA_sI)).trans hv102))
    have x131 := HI.eqA hI96 (p := 233) (j := 4) ((((eA_c (hF97.2.1 233 (by decide))).trans (eA_c gA_sI)).trans hv104))
    have x132 := HI.eqA hI96 (p := 233) (j := 5) ((((eA_c (hF97.2.1 233 (by decide))).trans (eA_c gA_sI)).trans hv106))
    have x133 := HI.eqA hI96 (p := 233) (j := 6) ((((eA_c (hF97.2.1 233 (by decide))).trans (eA_c gA_sI)).trans hv108))
    have x134 := HI.eqA hI0 (p := 235) (j := 0) (hv126)
    have x135 := HI.eqA hI0 (p := 235) (j := 1) (hv128)
    exact ⟨_, rfl, hI96, hF100, _, rfl, by omega, ⟨⟨by omega, by omega, by omega, by omega, by omega⟩, (by intro i i0 i1; refine Eq.trans ?_ (if_neg (show ¬ (a1.toInt = 0 ∧ (eA g0 235 0).toInt ≠ 0) from by omega)).symm; refine Eq.trans ?_ (if_neg (show ¬ (a1.toInt = 1 ∧ (eA g0 235 1).toInt ≠ 0) from by omega)).symm; refine (eA_ti (((hF97.2.1 233 (by decide)).trans (gA_sI)))).trans ?_; (first | rfl | exact eA_ix (by omega) | omega))⟩⟩
  · have c94_ : v93.toInt ≥ 0 := en_j_lt_f c94
    refine At.enter rfl ?_
    refine r_lload_n rfl ?_
    refine r_lload rfl ?_
    refine r_lcmp _ rfl ?_
    refine r_ifs 13 rfl (fun c136 => ?_) (fun c136 => ?_)
    · have c136_ : v93.toInt > 1 := en_j_gt_t c136
      refine At.enter rfl ?_
      refine r_iconst 0 rfl ?_
      refine Ar.fall 18 rfl ?_
      refine At.enter rfl ?_
      refine q_iretz (by decide) ?_
      refine At.enter rfl ?_
      refine r_iff 15 rfl (by decide) ?_
      refine At.enter rfl ?_
      refine r_aload_n rfl ?_
      refine r_iconst (-1) rfl ?_
      refine r_callV 20 rfl [.ref 231, .int (-1)] [] (Nat.le_of_ble_eq_true rfl) rfl (T_X11_tell_231 _ hI91 (-1) (by decide)) ?_
      rintro _ _ ⟨g137, rfl, hI138, hF139, v140, rfl, hr141⟩
      refine At.sti ?_
      have hF142 := Fr.tr hF92 hF139 rfl rfl
      have zv143 : ((-1) : Int32).toInt = (-1) := rfl
      refine At.enter rfl ?_
      refine r_ireti ?_
      obtain ⟨v144, hv144⟩ : ∃ v, eA g0 233 0 = v := ⟨_, rfl⟩
      have tv144 := congrArg Int32.toInt hv144
      have wv144 := HI.t0 hI0
      rw [hv144] at wv144
      have tv144 := congrArg Int32.toInt hv144
      have x145 := HI.eqA hI0 (p := 233) (j := 0) (hv144)
      obtain ⟨v146, hv146⟩ : ∃ v, eA g0 233 4 = v := ⟨_, rfl⟩
      have wv146 := HI.t4 hI0
      rw [hv146] at wv146
      have tv146 := congrArg Int32.toInt hv146
      have x147 := HI.eqA hI0 (p := 233) (j := 4) (hv146)
      obtain ⟨v148, hv148⟩ : ∃ v, eA g0 233 5 = v := ⟨_, rfl⟩
      have wv148 := HI.t5 hI0
      rw [hv148] at wv148
      have tv148 := congrArg Int32.toInt hv148
      have x149 := HI.eqA hI0 (p := 233) (j := 5) (hv148)
      obtain ⟨v150, hv150⟩ : ∃ v, eA g0 233 6 = v := ⟨_, rfl⟩
      have wv150 := HI.t6 hI0
      rw [hv150] at wv150
      have tv150 := congrArg Int32.toInt hv150
      have x151 := HI.eqA hI0 (p := 233) (j := 6) (hv150)
      obtain ⟨v152, hv152⟩ : ∃ v, eA g0 234 0 = v := ⟨_, rfl⟩
      have tv152 := congrArg Int32.toInt hv152
      have x153 := HI.eqA hI0 (p := 234) (j := 0) (hv152)
      obtain ⟨v154, hv154⟩ : ∃ v, eA g0 234 4 = v := ⟨_, rfl⟩
      have tv154 := congrArg Int32.toInt hv154
      have x155 := HI.eqA hI0 (p := 234) (j := 4) (hv154)
      obtain ⟨v156, hv156⟩ : ∃ v, eA g0 234 5 = v := ⟨_, rfl⟩
      have tv156 := congrArg Int32.toInt hv156
      have x157 := HI.eqA hI0 (p := 234) (j := 5) (hv156)
      obtain ⟨v158, hv158⟩ : ∃ v, eA g0 234 6 = v := ⟨_, rfl⟩
      have tv158 := congrArg Int32.toInt hv158
      have x159 := HI.eqA hI0 (p := 234) (j := 6) (hv158)
      obtain ⟨v160, hv160⟩ : ∃ v, eA g0 234 5510 = v := ⟨_, rfl⟩
      have tv160 := congrArg Int32.toInt hv160
      have x161 := HI.eqA hI0 (p := 234) (j := 5510) (hv160)
      obtain ⟨v162, hv162⟩ : ∃ v, eA g0 234 5514 = v := ⟨_, rfl⟩
      have tv162 := congrArg Int32.toInt hv162
      have x163 := HI.eqA hI0 (p := 234) (j := 5514) (hv162)
      obtain ⟨v164, hv164⟩ : ∃ v, eA g0 234 5515 = v := ⟨_, rfl⟩
      have tv164 := congrArg Int32.toInt hv164
      have x165 := HI.eqA hI0 (p := 234) (j := 5515) (hv164)
      obtain ⟨v166, hv166⟩ : ∃ v, eA g0 234 5516 = v := ⟨_, rfl⟩
      have tv166 := congrArg Int32.toInt hv166
      have x167 := HI.eqA hI0 (p := 234) (j := 5516) (hv166)
      obtain ⟨v168, hv168⟩ : ∃ v, eA g0 235 0 = v := ⟨_, rfl⟩
      have tv168 := congrArg Int32.toInt hv168
      have x169 := HI.eqA hI0 (p := 235) (j := 0) (hv168)
      obtain ⟨v170, hv170⟩ : ∃ v, eA g0 235 1 = v := ⟨_, rfl⟩
      have tv170 := congrArg Int32.toInt hv170
      have x171 := HI.eqA hI0 (p := 235) (j := 1) (hv170)
      have x172 := HI.eqA hI138 (p := 233) (j := 0) ((((eA_c (hF139.2.1 233 (by decide))).trans (eA_c gA_sI)).trans hv144))
      have x173 := HI.eqA hI138 (p := 233) (j := 4) ((((eA_c (hF139.2.1 233 (by decide))).trans (eA_c gA_sI)).trans hv146))
      have x174 := HI.eqA hI138 (p := 233) (j := 5) ((((eA_c (hF139.2.1 233 (by decide))).trans (eA_c gA_sI)).trans hv148))
      have x175 := HI.eqA hI138 (p := 233) (j := 6) ((((eA_c (hF139.2.1 233 (by decide))).trans (eA_c gA_sI)).trans hv150))
      have x176 := HI.eqA hI0 (p := 235) (j := 0) (hv168)
      have x177 := HI.eqA hI0 (p := 235) (j := 1) (hv170)
      exact ⟨_, rfl, hI138, hF142, _, rfl, by omega, ⟨⟨by omega, by omega, by omega, by omega, by omega⟩, (by intro i i0 i1; refine Eq.trans ?_ (if_neg (show ¬ (a1.toInt = 0 ∧ (eA g0 235 0).toInt ≠ 0) from by omega)).symm; refine Eq.trans ?_ (if_neg (show ¬ (a1.toInt = 1 ∧ (eA g0 235 1).toInt ≠ 0) from by omega)).symm; refine (eA_ti (((hF139.2.1 233 (by decide)).trans (gA_sI)))).trans ?_; (first | rfl | exact eA_ix (by omega) | omega))⟩⟩
    · have c136_ : v93.toInt ≤ 1 := en_j_gt_f c136
      refine At.enter rfl ?_
      refine r_iconst 1 rfl ?_
      refine r_goto ?_
      refine At.enter rfl ?_
      refine q_iretz (by decide) ?_
      refine At.enter rfl ?_
      refine r_ift (by decide) ?_
      refine At.enter rfl ?_
      refine r_aload_n rfl ?_
      refine q_getR (Sh.ref hI91.1 kx_231 rfl) ?_
      refine r_iload_n rfl ?_
      obtain ⟨v178, hv178⟩ : ∃ v, eA g0 235 a1.toInt = v := ⟨_, rfl⟩
      refine q_bald (Sh.arr hI91.1 ka_235) a1.toInt rfl (by omega) v178 ((eA_c (gA_sI)).trans hv178) ?_
      refine r_ifs 30 rfl (fun c179 => ?_) (fun c179 => ?_)
      · have c179_ : v178.toInt ≠ 0 := en_k_ne_t c179
        refine At.enter rfl ?_
        refine r_iconst 0 rfl ?_
        refine r_istore_n ([(2, .int 0), (0, .ref 231), (1, .int a1)]) rfl ?_
        refine Ar.fall 39 rfl ?_
        refine zb_loopG hI91 ⟨by omega, by omega⟩ (by rw [((eA_c gA_sI).trans hv178)]; omega) rfl rfl rfl (fun ys180 l181 hI187 hl182 hc183 e185 e186 => ?_)
        have hF189 := Fr.tr hF92 hl182 rfl rfl
        refine At.enter rfl ?_
        refine r_aload_n e185 ?_
        refine r_iconst 0 rfl ?_
        refine r_callV 75 rfl [.ref 231, .int 0] [] (Nat.le_of_ble_eq_true rfl) rfl (T_X11_tell_231 _ hI187 0 (by decide)) ?_
        rintro _ _ ⟨g190, rfl, hI191, hF192, v193, rfl, hr194⟩
        refine At.sti ?_
        have hF195 := Fr.tr hF189 hF192 rfl rfl
        have zv196 : (0 : Int32).toInt = 0 := rfl
        refine At.enter rfl ?_
        refine r_ireti ?_
        obtain ⟨v197, hv197⟩ : ∃ v, eA g0 233 0 = v := ⟨_, rfl⟩
        have tv197 := congrArg Int32.toInt hv197
        have wv197 := HI.t0 hI0
        rw [hv197] at wv197
        have tv197 := congrArg Int32.toInt hv197
        have x198 := HI.eqA hI0 (p := 233) (j := 0) (hv197)
        obtain ⟨v199, hv199⟩ : ∃ v, eA g0 233 4 = v := ⟨_, rfl⟩
        have wv199 := HI.t4 hI0
        rw [hv199] at wv199
        have tv199 := congrArg Int32.toInt hv199
        have x200 := HI.eqA hI0 (p := 233) (j := 4) (hv199)
        obtain ⟨v201, hv201⟩ : ∃ v, eA g0 233 5 = v := ⟨_, rfl⟩
        have wv201 := HI.t5 hI0
        rw [hv201] at wv201
        have tv201 := congrArg Int32.toInt hv201
        have x202 := HI.eqA hI0 (p := 233) (j := 5) (hv201)
        obtain ⟨v203, hv203⟩ : ∃ v, eA g0 233 6 = v := ⟨_, rfl⟩
        have wv203 := HI.t6 hI0
        rw [hv203] at wv203
        have tv203 := congrArg Int32.toInt hv203
        have x204 := HI.eqA hI0 (p := 233) (j := 6) (hv203)
        obtain ⟨v205, hv205⟩ : ∃ v, eA g0 234 0 = v := ⟨_, rfl⟩
        have tv205 := congrArg Int32.toInt hv205
        have x206 := HI.eqA hI0 (p := 234) (j := 0) (hv205)
        obtain ⟨v207, hv207⟩ : ∃ v, eA g0 234 4 = v := ⟨_, rfl⟩
        have tv207 := congrArg Int32.toInt hv207
        have x208 := HI.eqA hI0 (p := 234) (j := 4) (hv207)
        obtain ⟨v209, hv209⟩ : ∃ v, eA g0 234 5 = v := ⟨_, rfl⟩
        have tv209 := congrArg Int32.toInt hv209
        have x210 := HI.eqA hI0 (p := 234) (j := 5) (hv209)
        obtain ⟨v211, hv211⟩ : ∃ v, eA g0 234 6 = v := ⟨_, rfl⟩
        have tv211 := congrArg Int32.toInt hv211
        have x212 := HI.eqA hI0 (p := 234) (j := 6) (hv211)
        obtain ⟨v213, hv213⟩ : ∃ v, eA g0 234 5510 = v := ⟨_, rfl⟩
        have tv213 := congrArg Int32.toInt hv213
        have x214 := HI.eqA hI0 (p := 234) (j := 5510) (hv213)
        obtain ⟨v215, hv215⟩ : ∃ v, eA g0 234 5514 = v := ⟨_, rfl⟩
        have tv215 := congrArg Int32.toInt hv215
        have x216 := HI.eqA hI0 (p := 234) (j := 5514) (hv215)
        obtain ⟨v217, hv217⟩ : ∃ v, eA g0 234 5515 = v := ⟨_, rfl⟩
        have tv217 := congrArg Int32.toInt hv217
        have x218 := HI.eqA hI0 (p := 234) (j := 5515) (hv217)
        obtain ⟨v219, hv219⟩ : ∃ v, eA g0 234 5516 = v := ⟨_, rfl⟩
        have tv219 := congrArg Int32.toInt hv219
        have x220 := HI.eqA hI0 (p := 234) (j := 5516) (hv219)
        obtain ⟨v221, hv221⟩ : ∃ v, eA g0 235 0 = v := ⟨_, rfl⟩
        have tv221 := congrArg Int32.toInt hv221
        have x222 := HI.eqA hI0 (p := 235) (j := 0) (hv221)
        obtain ⟨v223, hv223⟩ : ∃ v, eA g0 235 1 = v := ⟨_, rfl⟩
        have tv223 := congrArg Int32.toInt hv223
        have x224 := HI.eqA hI0 (p := 235) (j := 1) (hv223)
        have y225 : a1.toInt = 0 → (eA g0 235 0).toInt = v178.toInt := fun e => by rw [← hv178, e]
        have y226 : a1.toInt = 1 → (eA g0 235 1).toInt = v178.toInt := fun e => by rw [← hv178, e]
        obtain ⟨v227, hv227⟩ : ∃ v, eA ys180 233 0 = v := ⟨_, rfl⟩
        have tv227 := congrArg Int32.toInt hv227
        have wv227 := HI.t0 hI187
        rw [hv227] at wv227
        have tv227 := congrArg Int32.toInt hv227
        obtain ⟨v228, hv228⟩ : ∃ v, eA ys180 233 4 = v := ⟨_, rfl⟩
        have wv228 := HI.t4 hI187
        rw [hv228] at wv228
        have tv228 := congrArg Int32.toInt hv228
        obtain ⟨v229, hv229⟩ : ∃ v, eA ys180 233 5 = v := ⟨_, rfl⟩
        have wv229 := HI.t5 hI187
        rw [hv229] at wv229
        have tv229 := congrArg Int32.toInt hv229
        obtain ⟨v230, hv230⟩ : ∃ v, eA ys180 233 6 = v := ⟨_, rfl⟩
        have wv230 := HI.t6 hI187
        rw [hv230] at wv230
        have tv230 := congrArg Int32.toInt hv230
        have x231 := HI.eqA hI0 (p := 235) (j := 0) (hv221)
        have x232 := HI.eqA hI0 (p := 235) (j := 1) (hv223)
        exact ⟨_, rfl, hI191, hF195, _, rfl, by omega, ⟨⟨(fun e_ => by have e : a1.toInt = 0 := e_.1; have z0 := HI.eqA hI191 (p := 233) (j := 0) (((eA_c (hF192.2.1 233 (by decide))).trans hv227)); have z1 := HI.eqA hI191 (p := 233) (j := 4) (((eA_c (hF192.2.1 233 (by decide))).trans hv228)); have z2 := HI.eqA hI191 (p := 233) (j := 5) (((eA_c (hF192.2.1 233 (by decide))).trans hv229)); have z3 := HI.eqA hI191 (p := 233) (j := 6) (((eA_c (hF192.2.1 233 (by decide))).trans hv230)); have z4 := (show (eA ys180 233 0).toInt = (eA g0 234 0).toInt from by have z := hc183 0 (by decide) (by decide); rw [show 5510 * a1.toInt + 0 = 0 by omega, eA_c (gA_sI)] at z; exact congrArg Int32.toInt z); have z5 := (show (eA ys180 233 4).toInt = (eA g0 234 4).toInt from by have z := hc183 4 (by decide) (by decide); rw [show 5510 * a1.toInt + 4 = 4 by omega, eA_c (gA_sI)] at z; exact congrArg Int32.toInt z); have z6 := (show (eA ys180 233 5).toInt = (eA g0 234 5).toInt from by have z := hc183 5 (by decide) (by decide); rw [show 5510 * a1.toInt + 5 = 5 by omega, eA_c (gA_sI)] at z; exact congrArg Int32.toInt z); have z7 := (show (eA ys180 233 6).toInt = (eA g0 234 6).toInt from by have z := hc183 6 (by decide) (by decide); rw [show 5510 * a1.toInt + 6 = 6 by omega, eA_c (gA_sI)] at z; exact congrArg Int32.toInt z); omega), (fun e_ => by have e : a1.toInt = 1 := e_.1; have z0 := HI.eqA hI191 (p := 233) (j := 0) (((eA_c (hF192.2.1 233 (by decide))).trans hv227)); have z1 := HI.eqA hI191 (p := 233) (j := 4) (((eA_c (hF192.2.1 233 (by decide))).trans hv228)); have z2 := HI.eqA hI191 (p := 233) (j := 5) (((eA_c (hF192.2.1 233 (by decide))).trans hv229)); have z3 := HI.eqA hI191 (p := 233) (j := 6) (((eA_c (hF192.2.1 233 (by decide))).trans hv230)); have z4 := (show (eA ys180 233 0).toInt = (eA g0 234 5510).toInt from by have z := hc183 0 (by decide) (by decide); rw [show 5510 * a1.toInt + 0 = 5510 by omega, eA_c (gA_sI)] at z; exact congrArg Int32.toInt z); have z5 := (show (eA ys180 233 4).toInt = (eA g0 234 5514).toInt from by have z := hc183 4 (by decide) (by decide); rw [show 5510 * a1.toInt + 4 = 5514 by omega, eA_c (gA_sI)] at z; exact congrArg Int32.toInt z); have z6 := (show (eA ys180 233 5).toInt = (eA g0 234 5515).toInt from by have z := hc183 5 (by decide) (by decide); rw [show 5510 * a1.toInt + 5 = 5515 by omega, eA_c (gA_sI)] at z; exact congrArg Int32.toInt z); have z7 := (show (eA ys180 233 6).toInt = (eA g0 234 5516).toInt from by have z := hc183 6 (by decide) (by decide); rw [show 5510 * a1.toInt + 6 = 5516 by omega, eA_c (gA_sI)] at z; exact congrArg Int32.toInt z); omega), by omega, by omega, by omega⟩, (by intro i i0 i1; exact (Decidable.em (a1.toInt = 0 ∧ (eA g0 235 0).toInt ≠ 0)).elim (fun k0 => by rw [if_pos k0]; exact (by refine (eA_ti ((hF192.2.1 233 (by decide)))).trans ?_; refine (congrArg Int32.toInt (hc183 i (by omega) (by omega))).trans ?_; refine (eA_ti ((gA_sI))).trans ?_; exact eA_ix (by omega))) (fun k0 => by rw [if_neg k0]; exact (Decidable.em (a1.toInt = 1 ∧ (eA g0 235 1).toInt ≠ 0)).elim (fun k1 => by rw [if_pos k1]; exact (by refine (eA_ti ((hF192.2.1 233 (by decide)))).trans ?_; refine (congrArg Int32.toInt (hc183 i (by omega) (by omega))).trans ?_; refine (eA_ti ((gA_sI))).trans ?_; exact eA_ix (by omega))) (fun k1 => by rw [if_neg k1]; exfalso; omega)))⟩⟩
      · have c179_ : v178.toInt = 0 := en_k_ne_f c179
        refine At.enter rfl ?_
        refine r_aload_n rfl ?_
        refine r_bipush (-2) rfl ?_
        refine r_callV 36 rfl [.ref 231, .int (-2)] [] (Nat.le_of_ble_eq_true rfl) rfl (T_X11_tell_231 _ hI91 (-2) (by decide)) ?_
        rintro _ _ ⟨g233, rfl, hI234, hF235, v236, rfl, hr237⟩
        refine At.sti ?_
        have hF238 := Fr.tr hF92 hF235 rfl rfl
        have zv239 : ((-2) : Int32).toInt = (-2) := rfl
        refine At.enter rfl ?_
        refine r_ireti ?_
        obtain ⟨v240, hv240⟩ : ∃ v, eA g0 233 0 = v := ⟨_, rfl⟩
        have tv240 := congrArg Int32.toInt hv240
        have wv240 := HI.t0 hI0
        rw [hv240] at wv240
        have tv240 := congrArg Int32.toInt hv240
        have x241 := HI.eqA hI0 (p := 233) (j := 0) (hv240)
        obtain ⟨v242, hv242⟩ : ∃ v, eA g0 233 4 = v := ⟨_, rfl⟩
        have wv242 := HI.t4 hI0
        rw [hv242] at wv242
        have tv242 := congrArg Int32.toInt hv242
        have x243 := HI.eqA hI0 (p := 233) (j := 4) (hv242)
        obtain ⟨v244, hv244⟩ : ∃ v, eA g0 233 5 = v := ⟨_, rfl⟩
        have wv244 := HI.t5 hI0
        rw [hv244] at wv244
        have tv244 := congrArg Int32.toInt hv244
        have x245 := HI.eqA hI0 (p := 233) (j := 5) (hv244)
        obtain ⟨v246, hv246⟩ : ∃ v, eA g0 233 6 = v := ⟨_, rfl⟩
        have wv246 := HI.t6 hI0
        rw [hv246] at wv246
        have tv246 := congrArg Int32.toInt hv246
        have x247 := HI.eqA hI0 (p := 233) (j := 6) (hv246)
        obtain ⟨v248, hv248⟩ : ∃ v, eA g0 234 0 = v := ⟨_, rfl⟩
        have tv248 := congrArg Int32.toInt hv248
        have x249 := HI.eqA hI0 (p := 234) (j := 0) (hv248)
        obtain ⟨v250, hv250⟩ : ∃ v, eA g0 234 4 = v := ⟨_, rfl⟩
        have tv250 := congrArg Int32.toInt hv250
        have x251 := HI.eqA hI0 (p := 234) (j := 4) (hv250)
        obtain ⟨v252, hv252⟩ : ∃ v, eA g0 234 5 = v := ⟨_, rfl⟩
        have tv252 := congrArg Int32.toInt hv252
        have x253 := HI.eqA hI0 (p := 234) (j := 5) (hv252)
        obtain ⟨v254, hv254⟩ : ∃ v, eA g0 234 6 = v := ⟨_, rfl⟩
        have tv254 := congrArg Int32.toInt hv254
        have x255 := HI.eqA hI0 (p := 234) (j := 6) (hv254)
        obtain ⟨v256, hv256⟩ : ∃ v, eA g0 234 5510 = v := ⟨_, rfl⟩
        have tv256 := congrArg Int32.toInt hv256
        have x257 := HI.eqA hI0 (p := 234) (j := 5510) (hv256)
        obtain ⟨v258, hv258⟩ : ∃ v, eA g0 234 5514 = v := ⟨_, rfl⟩
        have tv258 := congrArg Int32.toInt hv258
        have x259 := HI.eqA hI0 (p := 234) (j := 5514) (hv258)
        obtain ⟨v260, hv260⟩ : ∃ v, eA g0 234 5515 = v := ⟨_, rfl⟩
        have tv260 := congrArg Int32.toInt hv260
        have x261 := HI.eqA hI0 (p := 234) (j := 5515) (hv260)
        obtain ⟨v262, hv262⟩ : ∃ v, eA g0 234 5516 = v := ⟨_, rfl⟩
        have tv262 := congrArg Int32.toInt hv262
        have x263 := HI.eqA hI0 (p := 234) (j := 5516) (hv262)
        obtain ⟨v264, hv264⟩ : ∃ v, eA g0 235 0 = v := ⟨_, rfl⟩
        have tv264 := congrArg Int32.toInt hv264
        have x265 := HI.eqA hI0 (p := 235) (j := 0) (hv264)
        obtain ⟨v266, hv266⟩ : ∃ v, eA g0 235 1 = v := ⟨_, rfl⟩
        have tv266 := congrArg Int32.toInt hv266
        have x267 := HI.eqA hI0 (p := 235) (j := 1) (hv266)
        have y268 : a1.toInt = 0 → (eA g0 235 0).toInt = v178.toInt := fun e => by rw [← hv178, e]
        have y269 : a1.toInt = 1 → (eA g0 235 1).toInt = v178.toInt := fun e => by rw [← hv178, e]
        have x270 := HI.eqA hI234 (p := 233) (j := 0) ((((eA_c (hF235.2.1 233 (by decide))).trans (eA_c gA_sI)).trans hv240))
        have x271 := HI.eqA hI234 (p := 233) (j := 4) ((((eA_c (hF235.2.1 233 (by decide))).trans (eA_c gA_sI)).trans hv242))
        have x272 := HI.eqA hI234 (p := 233) (j := 5) ((((eA_c (hF235.2.1 233 (by decide))).trans (eA_c gA_sI)).trans hv244))
        have x273 := HI.eqA hI234 (p := 233) (j := 6) ((((eA_c (hF235.2.1 233 (by decide))).trans (eA_c gA_sI)).trans hv246))
        have x274 := HI.eqA hI0 (p := 235) (j := 0) (hv264)
        have x275 := HI.eqA hI0 (p := 235) (j := 1) (hv266)
        exact ⟨_, rfl, hI234, hF238, _, rfl, by omega, ⟨⟨by omega, by omega, by omega, by omega, by omega⟩, (by intro i i0 i1; refine Eq.trans ?_ (if_neg (show ¬ (a1.toInt = 0 ∧ (eA g0 235 0).toInt ≠ 0) from by omega)).symm; refine Eq.trans ?_ (if_neg (show ¬ (a1.toInt = 1 ∧ (eA g0 235 1).toInt ≠ 0) from by omega)).symm; refine (eA_ti (((hF235.2.1 233 (by decide)).trans (gA_sI)))).trans ?_; (first | rfl | exact eA_ix (by omega) | omega))⟩⟩
