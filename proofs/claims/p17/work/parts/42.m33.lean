def F_X11_back_231 : List (Nat × Nat) := [(231, 0), (231, 1)]
def A_X11_back_231 : List Nat := [232, 233]
set_option maxRecDepth 100000 in
set_option maxHeartbeats 4000000 in
theorem T_X11_back_231 (d : Nat) {N : Nat} {g0 : List en_E} (hI0 : HI g0) (a1 : Int32) : Ev (d + 2) 166 [.ref 231, .int a1] (g0, N) (fun w h' => ∃ g', h' = (g', N) ∧ HI g' ∧ Fr F_X11_back_231 A_X11_back_231 g0 g' ∧ ∃ r : Int32, w = some (.int r) ∧ ((-2) ≤ r.toInt ∧ r.toInt ≤ 0) ∧ (((a1.toInt = 0 ∧ (eA g0 235 0).toInt ≠ 0 → r.toInt = 0 ∧ (eA g' 233 0).toInt = (eA g0 234 0).toInt ∧ (eA g' 233 4).toInt = (eA g0 234 4).toInt ∧ (eA g' 233 5).toInt = (eA g0 234 5).toInt ∧ (eA g' 233 6).toInt = (eA g0 234 6).toInt ∧ (eA g' 233 1).toInt = (eA g0 234 1).toInt) ∧ (a1.toInt = 1 ∧ (eA g0 235 1).toInt ≠ 0 → r.toInt = 0 ∧ (eA g' 233 0).toInt = (eA g0 234 5510).toInt ∧ (eA g' 233 4).toInt = (eA g0 234 5514).toInt ∧ (eA g' 233 5).toInt = (eA g0 234 5515).toInt ∧ (eA g' 233 6).toInt = (eA g0 234 5516).toInt ∧ (eA g' 233 1).toInt = (eA g0 234 5511).toInt) ∧ (¬ (a1.toInt = 0 ∧ (eA g0 235 0).toInt ≠ 0) ∧ ¬ (a1.toInt = 1 ∧ (eA g0 235 1).toInt ≠ 0) → (eA g' 233 0).toInt = (eA g0 233 0).toInt ∧ (eA g' 233 4).toInt = (eA g0 233 4).toInt ∧ (eA g' 233 5).toInt = (eA g0 233 5).toInt ∧ (eA g' 233 6).toInt = (eA g0 233 6).toInt ∧ (eA g' 233 1).toInt = (eA g0 233 1).toInt) ∧ (a1.toInt < 0 ∨ 1 < a1.toInt → r.toInt = -1) ∧ (0 ≤ a1.toInt ∧ a1.toInt ≤ 1 ∧ ¬ (a1.toInt = 0 ∧ (eA g0 235 0).toInt ≠ 0) ∧ ¬ (a1.toInt = 1 ∧ (eA g0 235 1).toInt ≠ 0) → r.toInt = -2)) ∧ (∀ i : Int, 10 ≤ i → i < 110 → (eA g' 233 (i)).toInt = if a1.toInt = 0 ∧ (eA g0 235 0).toInt ≠ 0 then (eA g0 234 (i)).toInt else if a1.toInt = 1 ∧ (eA g0 235 1).toInt ≠ 0 then (eA g0 234 (5510 + i)).toInt else (eA g0 233 (i)).toInt))) := by
  have hF0 : Fr F_X11_back_231 A_X11_back_231 g0 g0 := Fr.rf
  refine Ev.mk rfl rfl ⟨Nat.le_of_ble_eq_true rfl, Or.inr (q_rc hI0.1 kx_231 rfl)⟩ ?_
  show At _ none _ _ (0, [(0, .ref 231), (1, .int a1)], [], (_, _)) _
  refine At.enter rfl ?_
  refine r_aload_n rfl ?_
  refine r_iconst 0 rfl ?_
  refine q_putI (Sh.int hI0.1 kx_231 rfl) rfl ?_
  have hI91 := HI.wI0 hI0 kx_231 rfl (p := 231) (b := 0) (v := 0) rfl
  have hF92 := Fr.wI (p := 231) (b := 0) (v := 0) hF0 rfl
  refine r_iload_n rfl ?_
  refine q_i2l (fun v93 hv93 => ?_)
  refine r_lconst 0 rfl ?_
  refine r_lconst 1 rfl ?_
  refine q_inlS 12 rfl [.long v93, .long 0, .long 1] [] (Nat.le_of_ble_eq_true rfl) rfl ?_
  refine Ev.mk rfl rfl ⟨Nat.le_of_ble_eq_true rfl, Or.inl rfl⟩ ?_
  show At _ none _ _ (0, [(0, .long v93), (2, .long 0), (4, .long 1)], [], (_, _)) _
  refine At.enter rfl ?_
  refine r_lload_n rfl ?_
  refine r_lload_n rfl ?_
  refine r_lcmp _ rfl ?_
  refine r_ifs 6 rfl (fun c94 => ?_) (fun c94 => ?_)
  · have c94_ : v93.toInt < 0 := en_j_lt_t c94
    refine At.enter rfl ?_
    refine r_iconst 0 rfl ?_
    refine Ar.fall 18 rfl ?_
    refine At.enter rfl ?_
    refine q_iretz (by decide) ?_
    refine At.enter rfl ?_
    refine r_iff 15 rfl (by decide) ?_
    refine At.enter rfl ?_
    refine r_aload_n rfl ?_
    refine r_iconst (-1) rfl ?_
    refine r_callV 20 rfl [.ref 231, .int (-1)] [] (Nat.le_of_ble_eq_true rfl) rfl (T_X11_tell_231 _ hI91 (-1) (by decide)) ?_
    rintro _ _ ⟨g95, rfl, hI96, hF97, v98, rfl, hr99⟩
    refine At.sti ?_
    have hF100 := Fr.tr hF92 hF97 rfl rfl
    have zv101 : ((-1) : Int32).toInt = (-1) := rfl
    refine At.enter rfl ?_
    refine r_ireti ?_
    obtain ⟨v102, hv102⟩ : ∃ v, eA g0 233 0 = v := ⟨_, rfl⟩
    have tv102 := congrArg Int32.toInt hv102
    have wv102 := HI.t0 hI0
    rw [hv102] at wv102
    have tv102 := congrArg Int32.toInt hv102
    have x103 := HI.eqA hI0 (p := 233) (j := 0) (hv102)
    obtain ⟨v104, hv104⟩ : ∃ v, eA g0 233 4 = v := ⟨_, rfl⟩
    have wv104 := HI.t4 hI0
    rw [hv104] at wv104
    have tv104 := congrArg Int32.toInt hv104
    have x105 := HI.eqA hI0 (p := 233) (j := 4) (hv104)
    obtain ⟨v106, hv106⟩ : ∃ v, eA g0 233 5 = v := ⟨_, rfl⟩
    have wv106 := HI.t5 hI0
    rw [hv106] at wv106
    have tv106 := congrArg Int32.toInt hv106
    have x107 := HI.eqA hI0 (p := 233) (j := 5) (hv106)
    obtain ⟨v108, hv108⟩ : ∃ v, eA g0 233 6 = v := ⟨_, rfl⟩
    have wv108 := HI.t6 hI0
    rw [hv108] at wv108
    have tv108 := congrArg Int32.toInt hv108
    have x109 := HI.eqA hI0 (p := 233) (j := 6) (hv108)
    obtain ⟨v110, hv110⟩ : ∃ v, eA g0 233 1 = v := ⟨_, rfl⟩
    have tv110 := congrArg Int32.toInt hv110
    have wv110 := HI.t1 hI0
    rw [hv110] at wv110
    have tv110 := congrArg Int32.toInt hv110
    have x111 := HI.eqA hI0 (p := 233) (j := 1) (hv110)
    obtain ⟨v112, hv112⟩ : ∃ v, eA g0 234 0 = v := ⟨_, rfl⟩
    have tv112 := congrArg Int32.toInt hv112
    have x113 := HI.eqA hI0 (p := 234) (j := 0) (hv112)
    obtain ⟨v114, hv114⟩ : ∃ v, eA g0 234 4 = v := ⟨_, rfl⟩
    have tv114 := congrArg Int32.toInt hv114
    have x115 := HI.eqA hI0 (p := 234) (j := 4) (hv114)
    obtain ⟨v116, hv116⟩ : ∃ v, eA g0 234 5 = v := ⟨_, rfl⟩
    have tv116 := congrArg Int32.toInt hv116
    have x117 := HI.eqA hI0 (p := 234) (j := 5) (hv116)
    obtain ⟨v118, hv118⟩ : ∃ v, eA g0 234 6 = v := ⟨_, rfl⟩
    have tv118 := congrArg Int32.toInt hv118
    have x119 := HI.eqA hI0 (p := 234) (j := 6) (hv118)
    obtain ⟨v120, hv120⟩ : ∃ v, eA g0 234 1 = v := ⟨_, rfl⟩
    have tv120 := congrArg Int32.toInt hv120
    have x121 := HI.eqA hI0 (p := 234) (j := 1) (hv120)
    obtain ⟨v122, hv122⟩ : ∃ v, eA g0 234 5510 = v := ⟨_, rfl⟩
    have tv122 := congrArg Int32.toInt hv122
    have x123 := HI.eqA hI0 (p := 234) (j := 5510) (hv122)
    obtain ⟨v124, hv124⟩ : ∃ v, eA g0 234 5514 = v := ⟨_, rfl⟩
    have tv124 := congrArg Int32.toInt hv124
    have x125 := HI.eqA hI0 (p := 234) (j := 5514) (hv124)
    obtain ⟨v126, hv126⟩ : ∃ v, eA g0 234 5515 = v := ⟨_, rfl⟩
    have tv126 := congrArg Int32.toInt hv126
    have x127 := HI.eqA hI0 (p := 234) (j := 5515) (hv126)
    obtain ⟨v128, hv128⟩ : ∃ v, eA g0 234 5516 = v := ⟨_, rfl⟩
    have tv128 := congrArg Int32.toInt hv128
    have x129 := HI.eqA hI0 (p := 234) (j := 5516) (hv128)
    obtain ⟨v130, hv130⟩ : ∃ v, eA g0 234 5511 = v := ⟨_, rfl⟩
    have tv130 := congrArg Int32.toInt hv130
    have x131 := HI.eqA hI0 (p := 234) (j := 5511) (hv130)
    obtain ⟨v132, hv132⟩ : ∃ v, eA g0 235 0 = v := ⟨_, rfl⟩
    have tv132 := congrArg Int32.toInt hv132
    have x133 := HI.eqA hI0 (p := 235) (j := 0) (hv132)
    obtain ⟨v134, hv134⟩ : ∃ v, eA g0 235 1 = v := ⟨_, rfl⟩
    have tv134 := congrArg Int32.toInt hv134
    have x135 := HI.eqA hI0 (p := 235) (j := 1) (hv134)
    have x136 := HI.eqA hI96 (p := 233) (j := 0) ((((eA_c (hF97.2.1 233 (by decide))).trans (eA_c gA_sI)).trans hv102))
    have x137 := HI.eqA hI96 (p := 233) (j := 4) ((((eA_c (hF97.2.1 233 (by decide))).trans (eA_c gA_sI)).trans hv104))
    have x138 := HI.eqA hI96 (p := 233) (j := 5) ((((eA_c (hF97.2.1 233 (by decide))).trans (eA_c gA_sI)).trans hv106))
    have x139 := HI.eqA hI96 (p := 233) (j := 6) ((((eA_c (hF97.2.1 233 (by decide))).trans (eA_c gA_sI)).trans hv108))
    have x140 := HI.eqA hI96 (p := 233) (j := 1) ((((eA_c (hF97.2.1 233 (by decide))).trans (eA_c gA_sI)).trans hv110))
    have x141 := HI.eqA hI0 (p := 235) (j := 0) (hv132)
    have x142 := HI.eqA hI0 (p := 235) (j := 1) (hv134)
    exact ⟨_, rfl, hI96, hF100, _, rfl, by omega, ⟨⟨by omega, by omega, by omega, by omega, by omega⟩, (by intro i i0 i1; refine Eq.trans ?_ (if_neg (show ¬ (a1.toInt = 0 ∧ (eA g0 235 0).toInt ≠ 0) from by omega)).symm; refine Eq.trans ?_ (if_neg (show ¬ (a1.toInt = 1 ∧ (eA g0 235 1).toInt ≠ 0) from by omega)).symm; refine (eA_ti (((hF97.2.1 233 (by decide)).trans (gA_sI)))).trans ?_; (first | rfl | exact eA_ix (by omega) | omega))⟩⟩
  · have c94_ : v93.toInt ≥ 0 := en_j_lt_f c94
    refine At.enter rfl ?_
    refine r_lload_n rfl ?_
    refine r_lload rfl ?_
    refine r_lcmp _ rfl ?_
    refine r_ifs 13 rfl (fun c143 => ?_) (fun c143 => ?_)
    · have c143_ : v93.toInt > 1 := en_j_gt_t c143
      refine At.enter rfl ?_
      refine r_iconst 0 rfl ?_
      refine Ar.fall 18 rfl ?_
      refine At.enter rfl ?_
      refine q_iretz (by decide) ?_
      refine At.enter rfl ?_
      refine r_iff 15 rfl (by decide) ?_
      refine At.enter rfl ?_
      refine r_aload_n rfl ?_
      refine r_iconst (-1) rfl ?_
      refine r_callV 20 rfl [.ref 231, .int (-1)] [] (Nat.le_of_ble_eq_true rfl) rfl (T_X11_tell_231 _ hI91 (-1) (by decide)) ?_
      rintro _ _ ⟨g144, rfl, hI145, hF146, v147, rfl, hr148⟩
      refine At.sti ?_
      have hF149 := Fr.tr hF92 hF146 rfl rfl
      have zv150 : ((-1) : Int32).toInt = (-1) := rfl
      refine At.enter rfl ?_
      refine r_ireti ?_
      obtain ⟨v151, hv151⟩ : ∃ v, eA g0 233 0 = v := ⟨_, rfl⟩
      have tv151 := congrArg Int32.toInt hv151
      have wv151 := HI.t0 hI0
      rw [hv151] at wv151
      have tv151 := congrArg Int32.toInt hv151
      have x152 := HI.eqA hI0 (p := 233) (j := 0) (hv151)
      obtain ⟨v153, hv153⟩ : ∃ v, eA g0 233 4 = v := ⟨_, rfl⟩
      have wv153 := HI.t4 hI0
      rw [hv153] at wv153
      have tv153 := congrArg Int32.toInt hv153
      have x154 := HI.eqA hI0 (p := 233) (j := 4) (hv153)
      obtain ⟨v155, hv155⟩ : ∃ v, eA g0 233 5 = v := ⟨_, rfl⟩
      have wv155 := HI.t5 hI0
      rw [hv155] at wv155
      have tv155 := congrArg Int32.toInt hv155
      have x156 := HI.eqA hI0 (p := 233) (j := 5) (hv155)
      obtain ⟨v157, hv157⟩ : ∃ v, eA g0 233 6 = v := ⟨_, rfl⟩
      have wv157 := HI.t6 hI0
      rw [hv157] at wv157
      have tv157 := congrArg Int32.toInt hv157
      have x158 := HI.eqA hI0 (p := 233) (j := 6) (hv157)
      obtain ⟨v159, hv159⟩ : ∃ v, eA g0 233 1 = v := ⟨_, rfl⟩
      have tv159 := congrArg Int32.toInt hv159
      have wv159 := HI.t1 hI0
      rw [hv159] at wv159
      have tv159 := congrArg Int32.toInt hv159
      have x160 := HI.eqA hI0 (p := 233) (j := 1) (hv159)
      obtain ⟨v161, hv161⟩ : ∃ v, eA g0 234 0 = v := ⟨_, rfl⟩
      have tv161 := congrArg Int32.toInt hv161
      have x162 := HI.eqA hI0 (p := 234) (j := 0) (hv161)
      obtain ⟨v163, hv163⟩ : ∃ v, eA g0 234 4 = v := ⟨_, rfl⟩
      have tv163 := congrArg Int32.toInt hv163
      have x164 := HI.eqA hI0 (p := 234) (j := 4) (hv163)
      obtain ⟨v165, hv165⟩ : ∃ v, eA g0 234 5 = v := ⟨_, rfl⟩
      have tv165 := congrArg Int32.toInt hv165
      have x166 := HI.eqA hI0 (p := 234) (j := 5) (hv165)
      obtain ⟨v167, hv167⟩ : ∃ v, eA g0 234 6 = v := ⟨_, rfl⟩
      have tv167 := congrArg Int32.toInt hv167
      have x168 := HI.eqA hI0 (p := 234) (j := 6) (hv167)
      obtain ⟨v169, hv169⟩ : ∃ v, eA g0 234 1 = v := ⟨_, rfl⟩
      have tv169 := congrArg Int32.toInt hv169
      have x170 := HI.eqA hI0 (p := 234) (j := 1) (hv169)
      obtain ⟨v171, hv171⟩ : ∃ v, eA g0 234 5510 = v := ⟨_, rfl⟩
      have tv171 := congrArg Int32.toInt hv171
      have x172 := HI.eqA hI0 (p := 234) (j := 5510) (hv171)
      obtain ⟨v173, hv173⟩ : ∃ v, eA g0 234 5514 = v := ⟨_, rfl⟩
      have tv173 := congrArg Int32.toInt hv173
      have x174 := HI.eqA hI0 (p := 234) (j := 5514) (hv173)
      obtain ⟨v175, hv175⟩ : ∃ v, eA g0 234 5515 = v := ⟨_, rfl⟩
      have tv175 := congrArg Int32.toInt hv175
      have x176 := HI.eqA hI0 (p := 234) (j := 5515) (hv175)
      obtain ⟨v177, hv177⟩ : ∃ v, eA g0 234 5516 = v := ⟨_, rfl⟩
      have tv177 := congrArg Int32.toInt hv177
      have x178 := HI.eqA hI0 (p := 234) (j := 5516) (hv177)
      obtain ⟨v179, hv179⟩ : ∃ v, eA g0 234 5511 = v := ⟨_, rfl⟩
      have tv179 := congrArg Int32.toInt hv179
      have x180 := HI.eqA hI0 (p := 234) (j := 5511) (hv179)
      obtain ⟨v181, hv181⟩ : ∃ v, eA g0 235 0 = v := ⟨_, rfl⟩
      have tv181 := congrArg Int32.toInt hv181
      have x182 := HI.eqA hI0 (p := 235) (j := 0) (hv181)
      obtain ⟨v183, hv183⟩ : ∃ v, eA g0 235 1 = v := ⟨_, rfl⟩
      have tv183 := congrArg Int32.toInt hv183
      have x184 := HI.eqA hI0 (p := 235) (j := 1) (hv183)
      have x185 := HI.eqA hI145 (p := 233) (j := 0) ((((eA_c (hF146.2.1 233 (by decide))).trans (eA_c gA_sI)).trans hv151))
      have x186 := HI.eqA hI145 (p := 233) (j := 4) ((((eA_c (hF146.2.1 233 (by decide))).trans (eA_c gA_sI)).trans hv153))
      have x187 := HI.eqA hI145 (p := 233) (j := 5) ((((eA_c (hF146.2.1 233 (by decide))).trans (eA_c gA_sI)).trans hv155))
      have x188 := HI.eqA hI145 (p := 233) (j := 6) ((((eA_c (hF146.2.1 233 (by decide))).trans (eA_c gA_sI)).trans hv157))
      have x189 := HI.eqA hI145 (p := 233) (j := 1) ((((eA_c (hF146.2.1 233 (by decide))).trans (eA_c gA_sI)).trans hv159))
      have x190 := HI.eqA hI0 (p := 235) (j := 0) (hv181)
      have x191 := HI.eqA hI0 (p := 235) (j := 1) (hv183)
      exact ⟨_, rfl, hI145, hF149, _, rfl, by omega, ⟨⟨by omega, by omega, by omega, by omega, by omega⟩, (by intro i i0 i1; refine Eq.trans ?_ (if_neg (show ¬ (a1.toInt = 0 ∧ (eA g0 235 0).toInt ≠ 0) from by omega)).symm; refine Eq.trans ?_ (if_neg (show ¬ (a1.toInt = 1 ∧ (eA g0 235 1).toInt ≠ 0) from by omega)).symm; refine (eA_ti (((hF146.2.1 233 (by decide)).trans (gA_sI)))).trans ?_; (first | rfl | exact eA_ix (by omega) | omega))⟩⟩
    · have c143_ : v93.toInt ≤ 1 := en_j_gt_f c143
      refine At.enter rfl ?_
      refine r_iconst 1 rfl ?_
      refine r_goto ?_
      refine At.enter rfl ?_
      refine q_iretz (by decide) ?_
      refine At.enter rfl ?_
      refine r_ift (by decide) ?_
      refine At.enter rfl ?_
      refine r_aload_n rfl ?_
      refine q_getR (Sh.ref hI91.1 kx_231 rfl) ?_
      refine r_iload_n rfl ?_
      obtain ⟨v192, hv192⟩ : ∃ v, eA g0 235 a1.toInt = v := ⟨_, rfl⟩
      refine q_bald (Sh.arr hI91.1 ka_235) a1.toInt rfl (by omega) v192 ((eA_c (gA_sI)).trans hv192) ?_
      refine r_ifs 30 rfl (fun c193 => ?_) (fun c193 => ?_)
      · have c193_ : v192.toInt ≠ 0 := en_k_ne_t c193
        refine At.enter rfl ?_
        refine r_iconst 0 rfl ?_
        refine r_istore_n ([(2, .int 0), (0, .ref 231), (1, .int a1)]) rfl ?_
        refine Ar.fall 39 rfl ?_
        refine zb_loopG hI91 ⟨by omega, by omega⟩ (by rw [((eA_c gA_sI).trans hv192)]; omega) rfl rfl rfl (fun ys194 l195 hI201 hl196 hc197 e199 e200 => ?_)
        have hF203 := Fr.tr hF92 hl196 rfl rfl
        refine At.enter rfl ?_
        refine r_aload_n e199 ?_
        refine r_iconst 0 rfl ?_
        refine r_callV 75 rfl [.ref 231, .int 0] [] (Nat.le_of_ble_eq_true rfl) rfl (T_X11_tell_231 _ hI201 0 (by decide)) ?_
        rintro _ _ ⟨g204, rfl, hI205, hF206, v207, rfl, hr208⟩
        refine At.sti ?_
        have hF209 := Fr.tr hF203 hF206 rfl rfl
        have zv210 : (0 : Int32).toInt = 0 := rfl
        refine At.enter rfl ?_
        refine r_ireti ?_
        obtain ⟨v211, hv211⟩ : ∃ v, eA g0 233 0 = v := ⟨_, rfl⟩
        have tv211 := congrArg Int32.toInt hv211
        have wv211 := HI.t0 hI0
        rw [hv211] at wv211
        have tv211 := congrArg Int32.toInt hv211
        have x212 := HI.eqA hI0 (p := 233) (j := 0) (hv211)
        obtain ⟨v213, hv213⟩ : ∃ v, eA g0 233 4 = v := ⟨_, rfl⟩
        have wv213 := HI.t4 hI0
        rw [hv213] at wv213
        have tv213 := congrArg Int32.toInt hv213
        have x214 := HI.eqA hI0 (p := 233) (j := 4) (hv213)
        obtain ⟨v215, hv215⟩ : ∃ v, eA g0 233 5 = v := ⟨_, rfl⟩
        have wv215 := HI.t5 hI0
        rw [hv215] at wv215
        have tv215 := congrArg Int32.toInt hv215
        have x216 := HI.eqA hI0 (p := 233) (j := 5) (hv215)
        obtain ⟨v217, hv217⟩ : ∃ v, eA g0 233 6 = v := ⟨_, rfl⟩
        have wv217 := HI.t6 hI0
        rw [hv217] at wv217
        have tv217 := congrArg Int32.toInt hv217
        have x218 := HI.eqA hI0 (p := 233) (j := 6) (hv217)
        obtain ⟨v219, hv219⟩ : ∃ v, eA g0 233 1 = v := ⟨_, rfl⟩
        have tv219 := congrArg Int32.toInt hv219
        have wv219 := HI.t1 hI0
        rw [hv219] at wv219
        have tv219 := congrArg Int32.toInt hv219
        have x220 := HI.eqA hI0 (p := 233) (j := 1) (hv219)
        obtain ⟨v221, hv221⟩ : ∃ v, eA g0 234 0 = v := ⟨_, rfl⟩
        have tv221 := congrArg Int32.toInt hv221
        have x222 := HI.eqA hI0 (p := 234) (j := 0) (hv221)
        obtain ⟨v223, hv223⟩ : ∃ v, eA g0 234 4 = v := ⟨_, rfl⟩
        have tv223 := congrArg Int32.toInt hv223
        have x224 := HI.eqA hI0 (p := 234) (j := 4) (hv223)
        obtain ⟨v225, hv225⟩ : ∃ v, eA g0 234 5 = v := ⟨_, rfl⟩
        have tv225 := congrArg Int32.toInt hv225
        have x226 := HI.eqA hI0 (p := 234) (j := 5) (hv225)
        obtain ⟨v227, hv227⟩ : ∃ v, eA g0 234 6 = v := ⟨_, rfl⟩
        have tv227 := congrArg Int32.toInt hv227
        have x228 := HI.eqA hI0 (p := 234) (j := 6) (hv227)
        obtain ⟨v229, hv229⟩ : ∃ v, eA g0 234 1 = v := ⟨_, rfl⟩
        have tv229 := congrArg Int32.toInt hv229
        have x230 := HI.eqA hI0 (p := 234) (j := 1) (hv229)
        obtain ⟨v231, hv231⟩ : ∃ v, eA g0 234 5510 = v := ⟨_, rfl⟩
        have tv231 := congrArg Int32.toInt hv231
        have x232 := HI.eqA hI0 (p := 234) (j := 5510) (hv231)
        obtain ⟨v233, hv233⟩ : ∃ v, eA g0 234 5514 = v := ⟨_, rfl⟩
        have tv233 := congrArg Int32.toInt hv233
        have x234 := HI.eqA hI0 (p := 234) (j := 5514) (hv233)
        obtain ⟨v235, hv235⟩ : ∃ v, eA g0 234 5515 = v := ⟨_, rfl⟩
        have tv235 := congrArg Int32.toInt hv235
        have x236 := HI.eqA hI0 (p := 234) (j := 5515) (hv235)
        obtain ⟨v237, hv237⟩ : ∃ v, eA g0 234 5516 = v := ⟨_, rfl⟩
        have tv237 := congrArg Int32.toInt hv237
        have x238 := HI.eqA hI0 (p := 234) (j := 5516) (hv237)
        obtain ⟨v239, hv239⟩ : ∃ v, eA g0 234 5511 = v := ⟨_, rfl⟩
        have tv239 := congrArg Int32.toInt hv239
        have x240 := HI.eqA hI0 (p := 234) (j := 5511) (hv239)
        obtain ⟨v241, hv241⟩ : ∃ v, eA g0 235 0 = v := ⟨_, rfl⟩
        have tv241 := congrArg Int32.toInt hv241
        have x242 := HI.eqA hI0 (p := 235) (j := 0) (hv241)
        obtain ⟨v243, hv243⟩ : ∃ v, eA g0 235 1 = v := ⟨_, rfl⟩
        have tv243 := congrArg Int32.toInt hv243
        have x244 := HI.eqA hI0 (p := 235) (j := 1) (hv243)
        have y245 : a1.toInt = 0 → (eA g0 235 0).toInt = v192.toInt := fun e => by rw [← hv192, e]
        have y246 : a1.toInt = 1 → (eA g0 235 1).toInt = v192.toInt := fun e => by rw [← hv192, e]
        obtain ⟨v247, hv247⟩ : ∃ v, eA ys194 233 0 = v := ⟨_, rfl⟩
        have tv247 := congrArg Int32.toInt hv247
        have wv247 := HI.t0 hI201
        rw [hv247] at wv247
        have tv247 := congrArg Int32.toInt hv247
        obtain ⟨v248, hv248⟩ : ∃ v, eA ys194 233 4 = v := ⟨_, rfl⟩
        have wv248 := HI.t4 hI201
        rw [hv248] at wv248
        have tv248 := congrArg Int32.toInt hv248
        obtain ⟨v249, hv249⟩ : ∃ v, eA ys194 233 5 = v := ⟨_, rfl⟩
        have wv249 := HI.t5 hI201
        rw [hv249] at wv249
        have tv249 := congrArg Int32.toInt hv249
        obtain ⟨v250, hv250⟩ : ∃ v, eA ys194 233 6 = v := ⟨_, rfl⟩
        have wv250 := HI.t6 hI201
        rw [hv250] at wv250
        have tv250 := congrArg Int32.toInt hv250
        obtain ⟨v251, hv251⟩ : ∃ v, eA ys194 233 1 = v := ⟨_, rfl⟩
        have tv251 := congrArg Int32.toInt hv251
        have wv251 := HI.t1 hI201
        rw [hv251] at wv251
        have tv251 := congrArg Int32.toInt hv251
        have x252 := HI.eqA hI0 (p := 235) (j := 0) (hv241)
        have x253 := HI.eqA hI0 (p := 235) (j := 1) (hv243)
        exact ⟨_, rfl, hI205, hF209, _, rfl, by omega, ⟨⟨(fun e_ => by have e : a1.toInt = 0 := e_.1; have z0 := HI.eqA hI205 (p := 233) (j := 0) (((eA_c (hF206.2.1 233 (by decide))).trans hv247)); have z1 := HI.eqA hI205 (p := 233) (j := 4) (((eA_c (hF206.2.1 233 (by decide))).trans hv248)); have z2 := HI.eqA hI205 (p := 233) (j := 5) (((eA_c (hF206.2.1 233 (by decide))).trans hv249)); have z3 := HI.eqA hI205 (p := 233) (j := 6) (((eA_c (hF206.2.1 233 (by decide))).trans hv250)); have z4 := HI.eqA hI205 (p := 233) (j := 1) (((eA_c (hF206.2.1 233 (by decide))).trans hv251)); have z5 := (show (eA ys194 233 0).toInt = (eA g0 234 0).toInt from by have z := hc197 0 (by decide) (by decide); rw [show 5510 * a1.toInt + 0 = 0 by omega, eA_c (gA_sI)] at z; exact congrArg Int32.toInt z); have z6 := (show (eA ys194 233 4).toInt = (eA g0 234 4).toInt from by have z := hc197 4 (by decide) (by decide); rw [show 5510 * a1.toInt + 4 = 4 by omega, eA_c (gA_sI)] at z; exact congrArg Int32.toInt z); have z7 := (show (eA ys194 233 5).toInt = (eA g0 234 5).toInt from by have z := hc197 5 (by decide) (by decide); rw [show 5510 * a1.toInt + 5 = 5 by omega, eA_c (gA_sI)] at z; exact congrArg Int32.toInt z); have z8 := (show (eA ys194 233 6).toInt = (eA g0 234 6).toInt from by have z := hc197 6 (by decide) (by decide); rw [show 5510 * a1.toInt + 6 = 6 by omega, eA_c (gA_sI)] at z; exact congrArg Int32.toInt z); have z9 := (show (eA ys194 233 1).toInt = (eA g0 234 1).toInt from by have z := hc197 1 (by decide) (by decide); rw [show 5510 * a1.toInt + 1 = 1 by omega, eA_c (gA_sI)] at z; exact congrArg Int32.toInt z); omega), (fun e_ => by have e : a1.toInt = 1 := e_.1; have z0 := HI.eqA hI205 (p := 233) (j := 0) (((eA_c (hF206.2.1 233 (by decide))).trans hv247)); have z1 := HI.eqA hI205 (p := 233) (j := 4) (((eA_c (hF206.2.1 233 (by decide))).trans hv248)); have z2 := HI.eqA hI205 (p := 233) (j := 5) (((eA_c (hF206.2.1 233 (by decide))).trans hv249)); have z3 := HI.eqA hI205 (p := 233) (j := 6) (((eA_c (hF206.2.1 233 (by decide))).trans hv250)); have z4 := HI.eqA hI205 (p := 233) (j := 1) (((eA_c (hF206.2.1 233 (by decide))).trans hv251)); have z5 := (show (eA ys194 233 0).toInt = (eA g0 234 5510).toInt from by have z := hc197 0 (by decide) (by decide); rw [show 5510 * a1.toInt + 0 = 5510 by omega, eA_c (gA_sI)] at z; exact congrArg Int32.toInt z); have z6 := (show (eA ys194 233 4).toInt = (eA g0 234 5514).toInt from by have z := hc197 4 (by decide) (by decide); rw [show 5510 * a1.toInt + 4 = 5514 by omega, eA_c (gA_sI)] at z; exact congrArg Int32.toInt z); have z7 := (show (eA ys194 233 5).toInt = (eA g0 234 5515).toInt from by have z := hc197 5 (by decide) (by decide); rw [show 5510 * a1.toInt + 5 = 5515 by omega, eA_c (gA_sI)] at z; exact congrArg Int32.toInt z); have z8 := (show (eA ys194 233 6).toInt = (eA g0 234 5516).toInt from by have z := hc197 6 (by decide) (by decide); rw [show 5510 * a1.toInt + 6 = 5516 by omega, eA_c (gA_sI)] at z; exact congrArg Int32.toInt z); have z9 := (show (eA ys194 233 1).toInt = (eA g0 234 5511).toInt from by have z := hc197 1 (by decide) (by decide); rw [show 5510 * a1.toInt + 1 = 5511 by omega, eA_c (gA_sI)] at z; exact congrArg Int32.toInt z); omega), by omega, by omega, by omega⟩, (by intro i i0 i1; exact (Decidable.em (a1.toInt = 0 ∧ (eA g0 235 0).toInt ≠ 0)).elim (fun k0 => by rw [if_pos k0]; exact (by refine (eA_ti ((hF206.2.1 233 (by decide)))).trans ?_; refine (congrArg Int32.toInt (hc197 i (by omega) (by omega))).trans ?_; refine (eA_ti ((gA_sI))).trans ?_; exact eA_ix (by omega))) (fun k0 => by rw [if_neg k0]; exact (Decidable.em (a1.toInt = 1 ∧ (eA g0 235 1).toInt ≠ 0)).elim (fun k1 => by rw [if_pos k1]; exact (by refine (eA_ti ((hF206.2.1 233 (by decide)))).trans ?_; refine (congrArg Int32.toInt (hc197 i (by omega) (by omega))).trans ?_; refine (eA_ti ((gA_sI))).trans ?_; exact eA_ix (by omega))) (fun k1 => by rw [if_neg k1]; exfalso; omega)))⟩⟩
      · have c193_ : v192.toInt = 0 := en_k_ne_f c193
        refine At.enter rfl ?_
        refine r_aload_n rfl ?_
        refine r_bipush (-2) rfl ?_
        refine r_callV 36 rfl [.ref 231, .int (-2)] [] (Nat.le_of_ble_eq_true rfl) rfl (T_X11_tell_231 _ hI91 (-2) (by decide)) ?_
        rintro _ _ ⟨g254, rfl, hI255, hF256, v257, rfl, hr258⟩
        refine At.sti ?_
        have hF259 := Fr.tr hF92 hF256 rfl rfl
        have zv260 : ((-2) : Int32).toInt = (-2) := rfl
        refine At.enter rfl ?_
        refine r_ireti ?_
        obtain ⟨v261, hv261⟩ : ∃ v, eA g0 233 0 = v := ⟨_, rfl⟩
        have tv261 := congrArg Int32.toInt hv261
        have wv261 := HI.t0 hI0
        rw [hv261] at wv261
        have tv261 := congrArg Int32.toInt hv261
        have x262 := HI.eqA hI0 (p := 233) (j := 0) (hv261)
        obtain ⟨v263, hv263⟩ : ∃ v, eA g0 233 4 = v := ⟨_, rfl⟩
        have wv263 := HI.t4 hI0
        rw [hv263] at wv263
        have tv263 := congrArg Int32.toInt hv263
        have x264 := HI.eqA hI0 (p := 233) (j := 4) (hv263)
        obtain ⟨v265, hv265⟩ : ∃ v, eA g0 233 5 = v := ⟨_, rfl⟩
        have wv265 := HI.t5 hI0
        rw [hv265] at wv265
        have tv265 := congrArg Int32.toInt hv265
        have x266 := HI.eqA hI0 (p := 233) (j := 5) (hv265)
        obtain ⟨v267, hv267⟩ : ∃ v, eA g0 233 6 = v := ⟨_, rfl⟩
        have wv267 := HI.t6 hI0
        rw [hv267] at wv267
        have tv267 := congrArg Int32.toInt hv267
        have x268 := HI.eqA hI0 (p := 233) (j := 6) (hv267)
        obtain ⟨v269, hv269⟩ : ∃ v, eA g0 233 1 = v := ⟨_, rfl⟩
        have tv269 := congrArg Int32.toInt hv269
        have wv269 := HI.t1 hI0
        rw [hv269] at wv269
        have tv269 := congrArg Int32.toInt hv269
        have x270 := HI.eqA hI0 (p := 233) (j := 1) (hv269)
        obtain ⟨v271, hv271⟩ : ∃ v, eA g0 234 0 = v := ⟨_, rfl⟩
        have tv271 := congrArg Int32.toInt hv271
        have x272 := HI.eqA hI0 (p := 234) (j := 0) (hv271)
        obtain ⟨v273, hv273⟩ : ∃ v, eA g0 234 4 = v := ⟨_, rfl⟩
        have tv273 := congrArg Int32.toInt hv273
        have x274 := HI.eqA hI0 (p := 234) (j := 4) (hv273)
        obtain ⟨v275, hv275⟩ : ∃ v, eA g0 234 5 = v := ⟨_, rfl⟩
        have tv275 := congrArg Int32.toInt hv275
        have x276 := HI.eqA hI0 (p := 234) (j := 5) (hv275)
        obtain ⟨v277, hv277⟩ : ∃ v, eA g0 234 6 = v := ⟨_, rfl⟩
        have tv277 := congrArg Int32.toInt hv277
        have x278 := HI.eqA hI0 (p := 234) (j := 6) (hv277)
        obtain ⟨v279, hv279⟩ : ∃ v, eA g0 234 1 = v := ⟨_, rfl⟩
        have tv279 := congrArg Int32.toInt hv279
        have x280 := HI.eqA hI0 (p := 234) (j := 1) (hv279)
        obtain ⟨v281, hv281⟩ : ∃ v, eA g0 234 5510 = v := ⟨_, rfl⟩
        have tv281 := congrArg Int32.toInt hv281
        have x282 := HI.eqA hI0 (p := 234) (j := 5510) (hv281)
        obtain ⟨v283, hv283⟩ : ∃ v, eA g0 234 5514 = v := ⟨_, rfl⟩
        have tv283 := congrArg Int32.toInt hv283
        have x284 := HI.eqA hI0 (p := 234) (j := 5514) (hv283)
        obtain ⟨v285, hv285⟩ : ∃ v, eA g0 234 5515 = v := ⟨_, rfl⟩
        have tv285 := congrArg Int32.toInt hv285
        have x286 := HI.eqA hI0 (p := 234) (j := 5515) (hv285)
        obtain ⟨v287, hv287⟩ : ∃ v, eA g0 234 5516 = v := ⟨_, rfl⟩
        have tv287 := congrArg Int32.toInt hv287
        have x288 := HI.eqA hI0 (p := 234) (j := 5516) (hv287)
        obtain ⟨v289, hv289⟩ : ∃ v, eA g0 234 5511 = v := ⟨_, rfl⟩
        have tv289 := congrArg Int32.toInt hv289
        have x290 := HI.eqA hI0 (p := 234) (j := 5511) (hv289)
        obtain ⟨v291, hv291⟩ : ∃ v, eA g0 235 0 = v := ⟨_, rfl⟩
        have tv291 := congrArg Int32.toInt hv291
        have x292 := HI.eqA hI0 (p := 235) (j := 0) (hv291)
        obtain ⟨v293, hv293⟩ : ∃ v, eA g0 235 1 = v := ⟨_, rfl⟩
        have tv293 := congrArg Int32.toInt hv293
        have x294 := HI.eqA hI0 (p := 235) (j := 1) (hv293)
        have y295 : a1.toInt = 0 → (eA g0 235 0).toInt = v192.toInt := fun e => by rw [← hv192, e]
        have y296 : a1.toInt = 1 → (eA g0 235 1).toInt = v192.toInt := fun e => by rw [← hv192, e]
        have x297 := HI.eqA hI255 (p := 233) (j := 0) ((((eA_c (hF256.2.1 233 (by decide))).trans (eA_c gA_sI)).trans hv261))
        have x298 := HI.eqA hI255 (p := 233) (j := 4) ((((eA_c (hF256.2.1 233 (by decide))).trans (eA_c gA_sI)).trans hv263))
        have x299 := HI.eqA hI255 (p := 233) (j := 5) ((((eA_c (hF256.2.1 233 (by decide))).trans (eA_c gA_sI)).trans hv265))
        have x300 := HI.eqA hI255 (p := 233) (j := 6) ((((eA_c (hF256.2.1 233 (by decide))).trans (eA_c gA_sI)).trans hv267))
        have x301 := HI.eqA hI255 (p := 233) (j := 1) ((((eA_c (hF256.2.1 233 (by decide))).trans (eA_c gA_sI)).trans hv269))
        have x302 := HI.eqA hI0 (p := 235) (j := 0) (hv291)
        have x303 := HI.eqA hI0 (p := 235) (j := 1) (hv293)
        exact ⟨_, rfl, hI255, hF259, _, rfl, by omega, ⟨⟨by omega, by omega, by omega, by omega, by omega⟩, (by intro i i0 i1; refine Eq.trans ?_ (if_neg (show ¬ (a1.toInt = 0 ∧ (eA g0 235 0).toInt ≠ 0) from by omega)).symm; refine Eq.trans ?_ (if_neg (show ¬ (a1.toInt = 1 ∧ (eA g0 235 1).toInt ≠ 0) from by omega)).symm; refine (eA_ti (((hF256.2.1 233 (by decide)).trans (gA_sI)))).trans ?_; (first | rfl | exact eA_ix (by omega) | omega))⟩⟩
