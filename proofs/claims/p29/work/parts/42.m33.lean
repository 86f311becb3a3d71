def F_X11_back_231 : List (Nat × Nat) := [(231, 0), (231, 1)]
def A_X11_back_231 : List Nat := [232, 233]
set_option maxRecDepth 100000 in
set_option maxHeartbeats 4000000 in
theorem T_X11_back_231 (d : Nat) {N : Nat} {g0 : List en_E} (hI0 : HI g0) (a1 : Int32) : Ev (d + 2) 166 [.ref 231, .int a1] (g0, N) (fun w h' => ∃ g', h' = (g', N) ∧ HI g' ∧ Fr F_X11_back_231 A_X11_back_231 g0 g' ∧ ∃ r : Int32, w = some (.int r) ∧ ((-2) ≤ r.toInt ∧ r.toInt ≤ 0) ∧ (((a1.toInt = 0 ∧ (eA g0 235 0).toInt ≠ 0 → r.toInt = 0 ∧ (eA g' 233 0).toInt = (eA g0 234 0).toInt ∧ (eA g' 233 4).toInt = (eA g0 234 4).toInt ∧ (eA g' 233 5).toInt = (eA g0 234 5).toInt ∧ (eA g' 233 6).toInt = (eA g0 234 6).toInt ∧ (eA g' 233 1).toInt = (eA g0 234 1).toInt ∧ (eA g' 233 2).toInt = (eA g0 234 2).toInt ∧ (eA g' 233 3).toInt = (eA g0 234 3).toInt) ∧ (a1.toInt = 1 ∧ (eA g0 235 1).toInt ≠ 0 → r.toInt = 0 ∧ (eA g' 233 0).toInt = (eA g0 234 5510).toInt ∧ (eA g' 233 4).toInt = (eA g0 234 5514).toInt ∧ (eA g' 233 5).toInt = (eA g0 234 5515).toInt ∧ (eA g' 233 6).toInt = (eA g0 234 5516).toInt ∧ (eA g' 233 1).toInt = (eA g0 234 5511).toInt ∧ (eA g' 233 2).toInt = (eA g0 234 5512).toInt ∧ (eA g' 233 3).toInt = (eA g0 234 5513).toInt) ∧ (¬ (a1.toInt = 0 ∧ (eA g0 235 0).toInt ≠ 0) ∧ ¬ (a1.toInt = 1 ∧ (eA g0 235 1).toInt ≠ 0) → (eA g' 233 0).toInt = (eA g0 233 0).toInt ∧ (eA g' 233 4).toInt = (eA g0 233 4).toInt ∧ (eA g' 233 5).toInt = (eA g0 233 5).toInt ∧ (eA g' 233 6).toInt = (eA g0 233 6).toInt ∧ (eA g' 233 1).toInt = (eA g0 233 1).toInt ∧ (eA g' 233 2).toInt = (eA g0 233 2).toInt ∧ (eA g' 233 3).toInt = (eA g0 233 3).toInt) ∧ (a1.toInt < 0 ∨ 1 < a1.toInt → r.toInt = -1) ∧ (0 ≤ a1.toInt ∧ a1.toInt ≤ 1 ∧ ¬ (a1.toInt = 0 ∧ (eA g0 235 0).toInt ≠ 0) ∧ ¬ (a1.toInt = 1 ∧ (eA g0 235 1).toInt ≠ 0) → r.toInt = -2)) ∧ (∀ i : Int, 10 ≤ i → i < 5510 → (eA g' 233 (i)).toInt = if a1.toInt = 0 ∧ (eA g0 235 0).toInt ≠ 0 then (eA g0 234 (i)).toInt else if a1.toInt = 1 ∧ (eA g0 235 1).toInt ≠ 0 then (eA g0 234 (5510 + i)).toInt else (eA g0 233 (i)).toInt))) := by
  have hF0 : Fr F_X11_back_231 A_X11_back_231 g0 g0 := Fr.rf
  refine Ev.mk rfl rfl ⟨Nat.le_of_ble_eq_true rfl, Or.inr (q_rc hI0.1 kx_231 rfl)⟩ ?_
  show At _ none _ _ (0, [(0, .ref 231), (1, .int a1)], [], (_, _)) _
  refine At.enter rfl ?_
  refine r_aload_n rfl ?_
  refine r_iconst 0 rfl ?_
  refine q_putI (Sh.int hI0.1 kx_231 rfl) rfl ?_
  have hI91 := HI.wI0 hI0 kx_231 rfl (p := 231) (b := 0) (v := 0) rfl
  have hF92 := Fr.wI (p := 231) (b := 0) (v := 0) hF0 rfl
  refine r_iload_n rfl ?_
  refine q_i2l (fun v93 hv93 => ?_)
  refine r_lconst 0 rfl ?_
  refine r_lconst 1 rfl ?_
  refine q_inlS 12 rfl [.long v93, .long 0, .long 1] [] (Nat.le_of_ble_eq_true rfl) rfl ?_
  refine Ev.mk rfl rfl ⟨Nat.le_of_ble_eq_true rfl, Or.inl rfl⟩ ?_
  show At _ none _ _ (0, [(0, .long v93), (2, .long 0), (4, .long 1)], [], (_, _)) _
  refine At.enter rfl ?_
  refine r_lload_n rfl ?_
  refine r_lload_n rfl ?_
  refine r_lcmp _ rfl ?_
  refine r_ifs 6 rfl (fun c94 => ?_) (fun c94 => ?_)
  · have c94_ : v93.toInt < 0 := en_j_lt_t c94
    refine At.enter rfl ?_
    refine r_iconst 0 rfl ?_
    refine Ar.fall 18 rfl ?_
    refine At.enter rfl ?_
    refine q_iretz (by decide) ?_
    refine At.enter rfl ?_
    refine r_iff 15 rfl (by decide) ?_
    refine At.enter rfl ?_
    refine r_aload_n rfl ?_
    refine r_iconst (-1) rfl ?_
    refine r_callV 20 rfl [.ref 231, .int (-1)] [] (Nat.le_of_ble_eq_true rfl) rfl (T_X11_tell_231 _ hI91 (-1) (by decide)) ?_
    rintro _ _ ⟨g95, rfl, hI96, hF97, v98, rfl, hr99⟩
    refine At.sti ?_
    have hF100 := Fr.tr hF92 hF97 rfl rfl
    have zv101 : ((-1) : Int32).toInt = (-1) := rfl
    refine At.enter rfl ?_
    refine r_ireti ?_
    obtain ⟨v102, hv102⟩ : ∃ v, eA g0 233 0 = v := ⟨_, rfl⟩
    have tv102 := congrArg Int32.toInt hv102
    have wv102 := HI.t0 hI0
    rw [hv102] at wv102
    have tv102 := congrArg Int32.toInt hv102
    have x103 := HI.eqA hI0 (p := 233) (j := 0) (hv102)
    obtain ⟨v104, hv104⟩ : ∃ v, eA g0 233 4 = v := ⟨_, rfl⟩
    have wv104 := HI.t4 hI0
    rw [hv104] at wv104
    have tv104 := congrArg Int32.toInt hv104
    have x105 := HI.eqA hI0 (p := 233) (j := 4) (hv104)
    obtain ⟨v106, hv106⟩ : ∃ v, eA g0 233 5 = v := ⟨_, rfl⟩
    have wv106 := HI.t5 hI0
    rw [hv106] at wv106
    have tv106 := congrArg Int32.toInt hv106
    have x107 := HI.eqA hI0 (p := 233) (j := 5) (hv106)
    obtain ⟨v108, hv108⟩ : ∃ v, eA g0 233 6 = v := ⟨_, rfl⟩
    have wv108 := HI.t6 hI0
    rw [hv108] at wv108
    have tv108 := congrArg Int32.toInt hv108
    have x109 := HI.eqA hI0 (p := 233) (j := 6) (hv108)
    obtain ⟨v110, hv110⟩ : ∃ v, eA g0 233 1 = v := ⟨_, rfl⟩
    have tv110 := congrArg Int32.toInt hv110
    have wv110 := HI.t1 hI0
    rw [hv110] at wv110
    have tv110 := congrArg Int32.toInt hv110
    have x111 := HI.eqA hI0 (p := 233) (j := 1) (hv110)
    obtain ⟨v112, hv112⟩ : ∃ v, eA g0 233 2 = v := ⟨_, rfl⟩
    have tv112 := congrArg Int32.toInt hv112
    have wv112 := HI.t2 hI0
    rw [hv112] at wv112
    have tv112 := congrArg Int32.toInt hv112
    have x113 := HI.eqA hI0 (p := 233) (j := 2) (hv112)
    obtain ⟨v114, hv114⟩ : ∃ v, eA g0 233 3 = v := ⟨_, rfl⟩
    have wv114 := HI.t3 hI0
    rw [hv114] at wv114
    have tv114 := congrArg Int32.toInt hv114
    have x115 := HI.eqA hI0 (p := 233) (j := 3) (hv114)
    obtain ⟨v116, hv116⟩ : ∃ v, eA g0 234 0 = v := ⟨_, rfl⟩
    have tv116 := congrArg Int32.toInt hv116
    have x117 := HI.eqA hI0 (p := 234) (j := 0) (hv116)
    obtain ⟨v118, hv118⟩ : ∃ v, eA g0 234 4 = v := ⟨_, rfl⟩
    have tv118 := congrArg Int32.toInt hv118
    have x119 := HI.eqA hI0 (p := 234) (j := 4) (hv118)
    obtain ⟨v120, hv120⟩ : ∃ v, eA g0 234 5 = v := ⟨_, rfl⟩
    have tv120 := congrArg Int32.toInt hv120
    have x121 := HI.eqA hI0 (p := 234) (j := 5) (hv120)
    obtain ⟨v122, hv122⟩ : ∃ v, eA g0 234 6 = v := ⟨_, rfl⟩
    have tv122 := congrArg Int32.toInt hv122
    have x123 := HI.eqA hI0 (p := 234) (j := 6) (hv122)
    obtain ⟨v124, hv124⟩ : ∃ v, eA g0 234 1 = v := ⟨_, rfl⟩
    have tv124 := congrArg Int32.toInt hv124
    have x125 := HI.eqA hI0 (p := 234) (j := 1) (hv124)
    obtain ⟨v126, hv126⟩ : ∃ v, eA g0 234 2 = v := ⟨_, rfl⟩
    have tv126 := congrArg Int32.toInt hv126
    have x127 := HI.eqA hI0 (p := 234) (j := 2) (hv126)
    obtain ⟨v128, hv128⟩ : ∃ v, eA g0 234 3 = v := ⟨_, rfl⟩
    have tv128 := congrArg Int32.toInt hv128
    have x129 := HI.eqA hI0 (p := 234) (j := 3) (hv128)
    obtain ⟨v130, hv130⟩ : ∃ v, eA g0 234 5510 = v := ⟨_, rfl⟩
    have tv130 := congrArg Int32.toInt hv130
    have x131 := HI.eqA hI0 (p := 234) (j := 5510) (hv130)
    obtain ⟨v132, hv132⟩ : ∃ v, eA g0 234 5514 = v := ⟨_, rfl⟩
    have tv132 := congrArg Int32.toInt hv132
    have x133 := HI.eqA hI0 (p := 234) (j := 5514) (hv132)
    obtain ⟨v134, hv134⟩ : ∃ v, eA g0 234 5515 = v := ⟨_, rfl⟩
    have tv134 := congrArg Int32.toInt hv134
    have x135 := HI.eqA hI0 (p := 234) (j := 5515) (hv134)
    obtain ⟨v136, hv136⟩ : ∃ v, eA g0 234 5516 = v := ⟨_, rfl⟩
    have tv136 := congrArg Int32.toInt hv136
    have x137 := HI.eqA hI0 (p := 234) (j := 5516) (hv136)
    obtain ⟨v138, hv138⟩ : ∃ v, eA g0 234 5511 = v := ⟨_, rfl⟩
    have tv138 := congrArg Int32.toInt hv138
    have x139 := HI.eqA hI0 (p := 234) (j := 5511) (hv138)
    obtain ⟨v140, hv140⟩ : ∃ v, eA g0 234 5512 = v := ⟨_, rfl⟩
    have tv140 := congrArg Int32.toInt hv140
    have x141 := HI.eqA hI0 (p := 234) (j := 5512) (hv140)
    obtain ⟨v142, hv142⟩ : ∃ v, eA g0 234 5513 = v := ⟨_, rfl⟩
    have tv142 := congrArg Int32.toInt hv142
    have x143 := HI.eqA hI0 (p := 234) (j := 5513) (hv142)
    obtain ⟨v144, hv144⟩ : ∃ v, eA g0 235 0 = v := ⟨_, rfl⟩
    have tv144 := congrArg Int32.toInt hv144
    have x145 := HI.eqA hI0 (p := 235) (j := 0) (hv144)
    obtain ⟨v146, hv146⟩ : ∃ v, eA g0 235 1 = v := ⟨_, rfl⟩
    have tv146 := congrArg Int32.toInt hv146
    have x147 := HI.eqA hI0 (p := 235) (j := 1) (hv146)
    have x148 := HI.eqA hI96 (p := 233) (j := 0) ((((eA_c (hF97.2.1 233 ma_X11_tell_231_233)).trans (eA_c gA_sI)).trans hv102))
    have x149 := HI.eqA hI96 (p := 233) (j := 4) ((((eA_c (hF97.2.1 233 ma_X11_tell_231_233)).trans (eA_c gA_sI)).trans hv104))
    have x150 := HI.eqA hI96 (p := 233) (j := 5) ((((eA_c (hF97.2.1 233 ma_X11_tell_231_233)).trans (eA_c gA_sI)).trans hv106))
    have x151 := HI.eqA hI96 (p := 233) (j := 6) ((((eA_c (hF97.2.1 233 ma_X11_tell_231_233)).trans (eA_c gA_sI)).trans hv108))
    have x152 := HI.eqA hI96 (p := 233) (j := 1) ((((eA_c (hF97.2.1 233 ma_X11_tell_231_233)).trans (eA_c gA_sI)).trans hv110))
    have x153 := HI.eqA hI96 (p := 233) (j := 2) ((((eA_c (hF97.2.1 233 ma_X11_tell_231_233)).trans (eA_c gA_sI)).trans hv112))
    have x154 := HI.eqA hI96 (p := 233) (j := 3) ((((eA_c (hF97.2.1 233 ma_X11_tell_231_233)).trans (eA_c gA_sI)).trans hv114))
    have x155 := HI.eqA hI0 (p := 235) (j := 0) (hv144)
    have x156 := HI.eqA hI0 (p := 235) (j := 1) (hv146)
    exact ⟨_, rfl, hI96, hF100, _, rfl, by omega, ⟨⟨by omega, by omega, by omega, by omega, by omega⟩, (by intro i i0 i1; refine Eq.trans ?_ (if_neg (show ¬ (a1.toInt = 0 ∧ (eA g0 235 0).toInt ≠ 0) from by omega)).symm; refine Eq.trans ?_ (if_neg (show ¬ (a1.toInt = 1 ∧ (eA g0 235 1).toInt ≠ 0) from by omega)).symm; refine (eA_ti (((hF97.2.1 233 ma_X11_tell_231_233).trans (gA_sI)))).trans ?_; (first | with_reducible rfl | omega | exact eA_ix (by omega) | rfl))⟩⟩
  · have c94_ : v93.toInt ≥ 0 := en_j_lt_f c94
    refine At.enter rfl ?_
    refine r_lload_n rfl ?_
    refine r_lload rfl ?_
    refine r_lcmp _ rfl ?_
    refine r_ifs 13 rfl (fun c157 => ?_) (fun c157 => ?_)
    · have c157_ : v93.toInt > 1 := en_j_gt_t c157
      refine At.enter rfl ?_
      refine r_iconst 0 rfl ?_
      refine Ar.fall 18 rfl ?_
      refine At.enter rfl ?_
      refine q_iretz (by decide) ?_
      refine At.enter rfl ?_
      refine r_iff 15 rfl (by decide) ?_
      refine At.enter rfl ?_
      refine r_aload_n rfl ?_
      refine r_iconst (-1) rfl ?_
      refine r_callV 20 rfl [.ref 231, .int (-1)] [] (Nat.le_of_ble_eq_true rfl) rfl (T_X11_tell_231 _ hI91 (-1) (by decide)) ?_
      rintro _ _ ⟨g158, rfl, hI159, hF160, v161, rfl, hr162⟩
      refine At.sti ?_
      have hF163 := Fr.tr hF92 hF160 rfl rfl
      have zv164 : ((-1) : Int32).toInt = (-1) := rfl
      refine At.enter rfl ?_
      refine r_ireti ?_
      obtain ⟨v165, hv165⟩ : ∃ v, eA g0 233 0 = v := ⟨_, rfl⟩
      have tv165 := congrArg Int32.toInt hv165
      have wv165 := HI.t0 hI0
      rw [hv165] at wv165
      have tv165 := congrArg Int32.toInt hv165
      have x166 := HI.eqA hI0 (p := 233) (j := 0) (hv165)
      obtain ⟨v167, hv167⟩ : ∃ v, eA g0 233 4 = v := ⟨_, rfl⟩
      have wv167 := HI.t4 hI0
      rw [hv167] at wv167
      have tv167 := congrArg Int32.toInt hv167
      have x168 := HI.eqA hI0 (p := 233) (j := 4) (hv167)
      obtain ⟨v169, hv169⟩ : ∃ v, eA g0 233 5 = v := ⟨_, rfl⟩
      have wv169 := HI.t5 hI0
      rw [hv169] at wv169
      have tv169 := congrArg Int32.toInt hv169
      have x170 := HI.eqA hI0 (p := 233) (j := 5) (hv169)
      obtain ⟨v171, hv171⟩ : ∃ v, eA g0 233 6 = v := ⟨_, rfl⟩
      have wv171 := HI.t6 hI0
      rw [hv171] at wv171
      have tv171 := congrArg Int32.toInt hv171
      have x172 := HI.eqA hI0 (p := 233) (j := 6) (hv171)
      obtain ⟨v173, hv173⟩ : ∃ v, eA g0 233 1 = v := ⟨_, rfl⟩
      have tv173 := congrArg Int32.toInt hv173
      have wv173 := HI.t1 hI0
      rw [hv173] at wv173
      have tv173 := congrArg Int32.toInt hv173
      have x174 := HI.eqA hI0 (p := 233) (j := 1) (hv173)
      obtain ⟨v175, hv175⟩ : ∃ v, eA g0 233 2 = v := ⟨_, rfl⟩
      have tv175 := congrArg Int32.toInt hv175
      have wv175 := HI.t2 hI0
      rw [hv175] at wv175
      have tv175 := congrArg Int32.toInt hv175
      have x176 := HI.eqA hI0 (p := 233) (j := 2) (hv175)
      obtain ⟨v177, hv177⟩ : ∃ v, eA g0 233 3 = v := ⟨_, rfl⟩
      have wv177 := HI.t3 hI0
      rw [hv177] at wv177
      have tv177 := congrArg Int32.toInt hv177
      have x178 := HI.eqA hI0 (p := 233) (j := 3) (hv177)
      obtain ⟨v179, hv179⟩ : ∃ v, eA g0 234 0 = v := ⟨_, rfl⟩
      have tv179 := congrArg Int32.toInt hv179
      have x180 := HI.eqA hI0 (p := 234) (j := 0) (hv179)
      obtain ⟨v181, hv181⟩ : ∃ v, eA g0 234 4 = v := ⟨_, rfl⟩
      have tv181 := congrArg Int32.toInt hv181
      have x182 := HI.eqA hI0 (p := 234) (j := 4) (hv181)
      obtain ⟨v183, hv183⟩ : ∃ v, eA g0 234 5 = v := ⟨_, rfl⟩
      have tv183 := congrArg Int32.toInt hv183
      have x184 := HI.eqA hI0 (p := 234) (j := 5) (hv183)
      obtain ⟨v185, hv185⟩ : ∃ v, eA g0 234 6 = v := ⟨_, rfl⟩
      have tv185 := congrArg Int32.toInt hv185
      have x186 := HI.eqA hI0 (p := 234) (j := 6) (hv185)
      obtain ⟨v187, hv187⟩ : ∃ v, eA g0 234 1 = v := ⟨_, rfl⟩
      have tv187 := congrArg Int32.toInt hv187
      have x188 := HI.eqA hI0 (p := 234) (j := 1) (hv187)
      obtain ⟨v189, hv189⟩ : ∃ v, eA g0 234 2 = v := ⟨_, rfl⟩
      have tv189 := congrArg Int32.toInt hv189
      have x190 := HI.eqA hI0 (p := 234) (j := 2) (hv189)
      obtain ⟨v191, hv191⟩ : ∃ v, eA g0 234 3 = v := ⟨_, rfl⟩
      have tv191 := congrArg Int32.toInt hv191
      have x192 := HI.eqA hI0 (p := 234) (j := 3) (hv191)
      obtain ⟨v193, hv193⟩ : ∃ v, eA g0 234 5510 = v := ⟨_, rfl⟩
      have tv193 := congrArg Int32.toInt hv193
      have x194 := HI.eqA hI0 (p := 234) (j := 5510) (hv193)
      obtain ⟨v195, hv195⟩ : ∃ v, eA g0 234 5514 = v := ⟨_, rfl⟩
      have tv195 := congrArg Int32.toInt hv195
      have x196 := HI.eqA hI0 (p := 234) (j := 5514) (hv195)
      obtain ⟨v197, hv197⟩ : ∃ v, eA g0 234 5515 = v := ⟨_, rfl⟩
      have tv197 := congrArg Int32.toInt hv197
      have x198 := HI.eqA hI0 (p := 234) (j := 5515) (hv197)
      obtain ⟨v199, hv199⟩ : ∃ v, eA g0 234 5516 = v := ⟨_, rfl⟩
      have tv199 := congrArg Int32.toInt hv199
      have x200 := HI.eqA hI0 (p := 234) (j := 5516) (hv199)
      obtain ⟨v201, hv201⟩ : ∃ v, eA g0 234 5511 = v := ⟨_, rfl⟩
      have tv201 := congrArg Int32.toInt hv201
      have x202 := HI.eqA hI0 (p := 234) (j := 5511) (hv201)
      obtain ⟨v203, hv203⟩ : ∃ v, eA g0 234 5512 = v := ⟨_, rfl⟩
      have tv203 := congrArg Int32.toInt hv203
      have x204 := HI.eqA hI0 (p := 234) (j := 5512) (hv203)
      obtain ⟨v205, hv205⟩ : ∃ v, eA g0 234 5513 = v := ⟨_, rfl⟩
      have tv205 := congrArg Int32.toInt hv205
      have x206 := HI.eqA hI0 (p := 234) (j := 5513) (hv205)
      obtain ⟨v207, hv207⟩ : ∃ v, eA g0 235 0 = v := ⟨_, rfl⟩
      have tv207 := congrArg Int32.toInt hv207
      have x208 := HI.eqA hI0 (p := 235) (j := 0) (hv207)
      obtain ⟨v209, hv209⟩ : ∃ v, eA g0 235 1 = v := ⟨_, rfl⟩
      have tv209 := congrArg Int32.toInt hv209
      have x210 := HI.eqA hI0 (p := 235) (j := 1) (hv209)
      have x211 := HI.eqA hI159 (p := 233) (j := 0) ((((eA_c (hF160.2.1 233 ma_X11_tell_231_233)).trans (eA_c gA_sI)).trans hv165))
      have x212 := HI.eqA hI159 (p := 233) (j := 4) ((((eA_c (hF160.2.1 233 ma_X11_tell_231_233)).trans (eA_c gA_sI)).trans hv167))
      have x213 := HI.eqA hI159 (p := 233) (j := 5) ((((eA_c (hF160.2.1 233 ma_X11_tell_231_233)).trans (eA_c gA_sI)).trans hv169))
      have x214 := HI.eqA hI159 (p := 233) (j := 6) ((((eA_c (hF160.2.1 233 ma_X11_tell_231_233)).trans (eA_c gA_sI)).trans hv171))
      have x215 := HI.eqA hI159 (p := 233) (j := 1) ((((eA_c (hF160.2.1 233 ma_X11_tell_231_233)).trans (eA_c gA_sI)).trans hv173))
      have x216 := HI.eqA hI159 (p := 233) (j := 2) ((((eA_c (hF160.2.1 233 ma_X11_tell_231_233)).trans (eA_c gA_sI)).trans hv175))
      have x217 := HI.eqA hI159 (p := 233) (j := 3) ((((eA_c (hF160.2.1 233 ma_X11_tell_231_233)).trans (eA_c gA_sI)).trans hv177))
      have x218 := HI.eqA hI0 (p := 235) (j := 0) (hv207)
      have x219 := HI.eqA hI0 (p := 235) (j := 1) (hv209)
      exact ⟨_, rfl, hI159, hF163, _, rfl, by omega, ⟨⟨by omega, by omega, by omega, by omega, by omega⟩, (by intro i i0 i1; refine Eq.trans ?_ (if_neg (show ¬ (a1.toInt = 0 ∧ (eA g0 235 0).toInt ≠ 0) from by omega)).symm; refine Eq.trans ?_ (if_neg (show ¬ (a1.toInt = 1 ∧ (eA g0 235 1).toInt ≠ 0) from by omega)).symm; refine (eA_ti (((hF160.2.1 233 ma_X11_tell_231_233).trans (gA_sI)))).trans ?_; (first | with_reducible rfl | omega | exact eA_ix (by omega) | rfl))⟩⟩
    · have c157_ : v93.toInt ≤ 1 := en_j_gt_f c157
      refine At.enter rfl ?_
      refine r_iconst 1 rfl ?_
      refine r_goto ?_
      refine At.enter rfl ?_
      refine q_iretz (by decide) ?_
      refine At.enter rfl ?_
      refine r_ift (by decide) ?_
      refine At.enter rfl ?_
      refine r_aload_n rfl ?_
      refine q_getR (Sh.ref hI91.1 kx_231 rfl) ?_
      refine r_iload_n rfl ?_
      obtain ⟨v220, hv220⟩ : ∃ v, eA g0 235 a1.toInt = v := ⟨_, rfl⟩
      refine q_bald (Sh.arr hI91.1 ka_235) a1.toInt rfl (by omega) v220 ((eA_c (gA_sI)).trans hv220) ?_
      refine r_ifs 30 rfl (fun c221 => ?_) (fun c221 => ?_)
      · have c221_ : v220.toInt ≠ 0 := en_k_ne_t c221
        refine At.enter rfl ?_
        refine r_iconst 0 rfl ?_
        refine r_istore_n ([(2, .int 0), (0, .ref 231), (1, .int a1)]) rfl ?_
        refine Ar.fall 39 rfl ?_
        refine zb_loopG hI91 ⟨by omega, by omega⟩ (by rw [((eA_c gA_sI).trans hv220)]; omega) rfl rfl rfl (fun ys222 l223 hI229 hl224 hc225 e227 e228 => ?_)
        have hF231 := Fr.tr hF92 hl224 rfl rfl
        refine At.enter rfl ?_
        refine r_aload_n e227 ?_
        refine r_iconst 0 rfl ?_
        refine r_callV 75 rfl [.ref 231, .int 0] [] (Nat.le_of_ble_eq_true rfl) rfl (T_X11_tell_231 _ hI229 0 (by decide)) ?_
        rintro _ _ ⟨g232, rfl, hI233, hF234, v235, rfl, hr236⟩
        refine At.sti ?_
        have hF237 := Fr.tr hF231 hF234 rfl rfl
        have zv238 : (0 : Int32).toInt = 0 := rfl
        refine At.enter rfl ?_
        refine r_ireti ?_
        obtain ⟨v239, hv239⟩ : ∃ v, eA g0 233 0 = v := ⟨_, rfl⟩
        have tv239 := congrArg Int32.toInt hv239
        have wv239 := HI.t0 hI0
        rw [hv239] at wv239
        have tv239 := congrArg Int32.toInt hv239
        have x240 := HI.eqA hI0 (p := 233) (j := 0) (hv239)
        obtain ⟨v241, hv241⟩ : ∃ v, eA g0 233 4 = v := ⟨_, rfl⟩
        have wv241 := HI.t4 hI0
        rw [hv241] at wv241
        have tv241 := congrArg Int32.toInt hv241
        have x242 := HI.eqA hI0 (p := 233) (j := 4) (hv241)
        obtain ⟨v243, hv243⟩ : ∃ v, eA g0 233 5 = v := ⟨_, rfl⟩
        have wv243 := HI.t5 hI0
        rw [hv243] at wv243
        have tv243 := congrArg Int32.toInt hv243
        have x244 := HI.eqA hI0 (p := 233) (j := 5) (hv243)
        obtain ⟨v245, hv245⟩ : ∃ v, eA g0 233 6 = v := ⟨_, rfl⟩
        have wv245 := HI.t6 hI0
        rw [hv245] at wv245
        have tv245 := congrArg Int32.toInt hv245
        have x246 := HI.eqA hI0 (p := 233) (j := 6) (hv245)
        obtain ⟨v247, hv247⟩ : ∃ v, eA g0 233 1 = v := ⟨_, rfl⟩
        have tv247 := congrArg Int32.toInt hv247
        have wv247 := HI.t1 hI0
        rw [hv247] at wv247
        have tv247 := congrArg Int32.toInt hv247
        have x248 := HI.eqA hI0 (p := 233) (j := 1) (hv247)
        obtain ⟨v249, hv249⟩ : ∃ v, eA g0 233 2 = v := ⟨_, rfl⟩
        have tv249 := congrArg Int32.toInt hv249
        have wv249 := HI.t2 hI0
        rw [hv249] at wv249
        have tv249 := congrArg Int32.toInt hv249
        have x250 := HI.eqA hI0 (p := 233) (j := 2) (hv249)
        obtain ⟨v251, hv251⟩ : ∃ v, eA g0 233 3 = v := ⟨_, rfl⟩
        have wv251 := HI.t3 hI0
        rw [hv251] at wv251
        have tv251 := congrArg Int32.toInt hv251
        have x252 := HI.eqA hI0 (p := 233) (j := 3) (hv251)
        obtain ⟨v253, hv253⟩ : ∃ v, eA g0 234 0 = v := ⟨_, rfl⟩
        have tv253 := congrArg Int32.toInt hv253
        have x254 := HI.eqA hI0 (p := 234) (j := 0) (hv253)
        obtain ⟨v255, hv255⟩ : ∃ v, eA g0 234 4 = v := ⟨_, rfl⟩
        have tv255 := congrArg Int32.toInt hv255
        have x256 := HI.eqA hI0 (p := 234) (j := 4) (hv255)
        obtain ⟨v257, hv257⟩ : ∃ v, eA g0 234 5 = v := ⟨_, rfl⟩
        have tv257 := congrArg Int32.toInt hv257
        have x258 := HI.eqA hI0 (p := 234) (j := 5) (hv257)
        obtain ⟨v259, hv259⟩ : ∃ v, eA g0 234 6 = v := ⟨_, rfl⟩
        have tv259 := congrArg Int32.toInt hv259
        have x260 := HI.eqA hI0 (p := 234) (j := 6) (hv259)
        obtain ⟨v261, hv261⟩ : ∃ v, eA g0 234 1 = v := ⟨_, rfl⟩
        have tv261 := congrArg Int32.toInt hv261
        have x262 := HI.eqA hI0 (p := 234) (j := 1) (hv261)
        obtain ⟨v263, hv263⟩ : ∃ v, eA g0 234 2 = v := ⟨_, rfl⟩
        have tv263 := congrArg Int32.toInt hv263
        have x264 := HI.eqA hI0 (p := 234) (j := 2) (hv263)
        obtain ⟨v265, hv265⟩ : ∃ v, eA g0 234 3 = v := ⟨_, rfl⟩
        have tv265 := congrArg Int32.toInt hv265
        have x266 := HI.eqA hI0 (p := 234) (j := 3) (hv265)
        obtain ⟨v267, hv267⟩ : ∃ v, eA g0 234 5510 = v := ⟨_, rfl⟩
        have tv267 := congrArg Int32.toInt hv267
        have x268 := HI.eqA hI0 (p := 234) (j := 5510) (hv267)
        obtain ⟨v269, hv269⟩ : ∃ v, eA g0 234 5514 = v := ⟨_, rfl⟩
        have tv269 := congrArg Int32.toInt hv269
        have x270 := HI.eqA hI0 (p := 234) (j := 5514) (hv269)
        obtain ⟨v271, hv271⟩ : ∃ v, eA g0 234 5515 = v := ⟨_, rfl⟩
        have tv271 := congrArg Int32.toInt hv271
        have x272 := HI.eqA hI0 (p := 234) (j := 5515) (hv271)
        obtain ⟨v273, hv273⟩ : ∃ v, eA g0 234 5516 = v := ⟨_, rfl⟩
        have tv273 := congrArg Int32.toInt hv273
        have x274 := HI.eqA hI0 (p := 234) (j := 5516) (hv273)
        obtain ⟨v275, hv275⟩ : ∃ v, eA g0 234 5511 = v := ⟨_, rfl⟩
        have tv275 := congrArg Int32.toInt hv275
        have x276 := HI.eqA hI0 (p := 234) (j := 5511) (hv275)
        obtain ⟨v277, hv277⟩ : ∃ v, eA g0 234 5512 = v := ⟨_, rfl⟩
        have tv277 := congrArg Int32.toInt hv277
        have x278 := HI.eqA hI0 (p := 234) (j := 5512) (hv277)
        obtain ⟨v279, hv279⟩ : ∃ v, eA g0 234 5513 = v := ⟨_, rfl⟩
        have tv279 := congrArg Int32.toInt hv279
        have x280 := HI.eqA hI0 (p := 234) (j := 5513) (hv279)
        obtain ⟨v281, hv281⟩ : ∃ v, eA g0 235 0 = v := ⟨_, rfl⟩
        have tv281 := congrArg Int32.toInt hv281
        have x282 := HI.eqA hI0 (p := 235) (j := 0) (hv281)
        obtain ⟨v283, hv283⟩ : ∃ v, eA g0 235 1 = v := ⟨_, rfl⟩
        have tv283 := congrArg Int32.toInt hv283
        have x284 := HI.eqA hI0 (p := 235) (j := 1) (hv283)
        have y285 : a1.toInt = 0 → (eA g0 235 0).toInt = v220.toInt := fun e => by rw [← hv220, e]
        have y286 : a1.toInt = 1 → (eA g0 235 1).toInt = v220.toInt := fun e => by rw [← hv220, e]
        obtain ⟨v287, hv287⟩ : ∃ v, eA ys222 233 0 = v := ⟨_, rfl⟩
        have tv287 := congrArg Int32.toInt hv287
        have wv287 := HI.t0 hI229
        rw [hv287] at wv287
        have tv287 := congrArg Int32.toInt hv287
        obtain ⟨v288, hv288⟩ : ∃ v, eA ys222 233 4 = v := ⟨_, rfl⟩
        have wv288 := HI.t4 hI229
        rw [hv288] at wv288
        have tv288 := congrArg Int32.toInt hv288
        obtain ⟨v289, hv289⟩ : ∃ v, eA ys222 233 5 = v := ⟨_, rfl⟩
        have wv289 := HI.t5 hI229
        rw [hv289] at wv289
        have tv289 := congrArg Int32.toInt hv289
        obtain ⟨v290, hv290⟩ : ∃ v, eA ys222 233 6 = v := ⟨_, rfl⟩
        have wv290 := HI.t6 hI229
        rw [hv290] at wv290
        have tv290 := congrArg Int32.toInt hv290
        obtain ⟨v291, hv291⟩ : ∃ v, eA ys222 233 1 = v := ⟨_, rfl⟩
        have tv291 := congrArg Int32.toInt hv291
        have wv291 := HI.t1 hI229
        rw [hv291] at wv291
        have tv291 := congrArg Int32.toInt hv291
        obtain ⟨v292, hv292⟩ : ∃ v, eA ys222 233 2 = v := ⟨_, rfl⟩
        have tv292 := congrArg Int32.toInt hv292
        have wv292 := HI.t2 hI229
        rw [hv292] at wv292
        have tv292 := congrArg Int32.toInt hv292
        obtain ⟨v293, hv293⟩ : ∃ v, eA ys222 233 3 = v := ⟨_, rfl⟩
        have wv293 := HI.t3 hI229
        rw [hv293] at wv293
        have tv293 := congrArg Int32.toInt hv293
        have x294 := HI.eqA hI0 (p := 235) (j := 0) (hv281)
        have x295 := HI.eqA hI0 (p := 235) (j := 1) (hv283)
        exact ⟨_, rfl, hI233, hF237, _, rfl, by omega, ⟨⟨(fun e_ => by have e : a1.toInt = 0 := e_.1; have z0 := HI.eqA hI233 (p := 233) (j := 0) (((eA_c (hF234.2.1 233 ma_X11_tell_231_233)).trans hv287)); have z1 := HI.eqA hI233 (p := 233) (j := 4) (((eA_c (hF234.2.1 233 ma_X11_tell_231_233)).trans hv288)); have z2 := HI.eqA hI233 (p := 233) (j := 5) (((eA_c (hF234.2.1 233 ma_X11_tell_231_233)).trans hv289)); have z3 := HI.eqA hI233 (p := 233) (j := 6) (((eA_c (hF234.2.1 233 ma_X11_tell_231_233)).trans hv290)); have z4 := HI.eqA hI233 (p := 233) (j := 1) (((eA_c (hF234.2.1 233 ma_X11_tell_231_233)).trans hv291)); have z5 := HI.eqA hI233 (p := 233) (j := 2) (((eA_c (hF234.2.1 233 ma_X11_tell_231_233)).trans hv292)); have z6 := HI.eqA hI233 (p := 233) (j := 3) (((eA_c (hF234.2.1 233 ma_X11_tell_231_233)).trans hv293)); have z7 := (show (eA ys222 233 0).toInt = (eA g0 234 0).toInt from by have z := hc225 0 (by decide) (by decide); rw [show 5510 * a1.toInt + 0 = 0 by omega, eA_c (gA_sI)] at z; exact congrArg Int32.toInt z); have z8 := (show (eA ys222 233 4).toInt = (eA g0 234 4).toInt from by have z := hc225 4 (by decide) (by decide); rw [show 5510 * a1.toInt + 4 = 4 by omega, eA_c (gA_sI)] at z; exact congrArg Int32.toInt z); have z9 := (show (eA ys222 233 5).toInt = (eA g0 234 5).toInt from by have z := hc225 5 (by decide) (by decide); rw [show 5510 * a1.toInt + 5 = 5 by omega, eA_c (gA_sI)] at z; exact congrArg Int32.toInt z); have z10 := (show (eA ys222 233 6).toInt = (eA g0 234 6).toInt from by have z := hc225 6 (by decide) (by decide); rw [show 5510 * a1.toInt + 6 = 6 by omega, eA_c (gA_sI)] at z; exact congrArg Int32.toInt z); have z11 := (show (eA ys222 233 1).toInt = (eA g0 234 1).toInt from by have z := hc225 1 (by decide) (by decide); rw [show 5510 * a1.toInt + 1 = 1 by omega, eA_c (gA_sI)] at z; exact congrArg Int32.toInt z); have z12 := (show (eA ys222 233 2).toInt = (eA g0 234 2).toInt from by have z := hc225 2 (by decide) (by decide); rw [show 5510 * a1.toInt + 2 = 2 by omega, eA_c (gA_sI)] at z; exact congrArg Int32.toInt z); have z13 := (show (eA ys222 233 3).toInt = (eA g0 234 3).toInt from by have z := hc225 3 (by decide) (by decide); rw [show 5510 * a1.toInt + 3 = 3 by omega, eA_c (gA_sI)] at z; exact congrArg Int32.toInt z); omega), (fun e_ => by have e : a1.toInt = 1 := e_.1; have z0 := HI.eqA hI233 (p := 233) (j := 0) (((eA_c (hF234.2.1 233 ma_X11_tell_231_233)).trans hv287)); have z1 := HI.eqA hI233 (p := 233) (j := 4) (((eA_c (hF234.2.1 233 ma_X11_tell_231_233)).trans hv288)); have z2 := HI.eqA hI233 (p := 233) (j := 5) (((eA_c (hF234.2.1 233 ma_X11_tell_231_233)).trans hv289)); have z3 := HI.eqA hI233 (p := 233) (j := 6) (((eA_c (hF234.2.1 233 ma_X11_tell_231_233)).trans hv290)); have z4 := HI.eqA hI233 (p := 233) (j := 1) (((eA_c (hF234.2.1 233 ma_X11_tell_231_233)).trans hv291)); have z5 := HI.eqA hI233 (p := 233) (j := 2) (((eA_c (hF234.2.1 233 ma_X11_tell_231_233)).trans hv292)); have z6 := HI.eqA hI233 (p := 233) (j := 3) (((eA_c (hF234.2.1 233 ma_X11_tell_231_233)).trans hv293)); have z7 := (show (eA ys222 233 0).toInt = (eA g0 234 5510).toInt from by have z := hc225 0 (by decide) (by decide); rw [show 5510 * a1.toInt + 0 = 5510 by omega, eA_c (gA_sI)] at z; exact congrArg Int32.toInt z); have z8 := (show (eA ys222 233 4).toInt = (eA g0 234 5514).toInt from by have z := hc225 4 (by decide) (by decide); rw [show 5510 * a1.toInt + 4 = 5514 by omega, eA_c (gA_sI)] at z; exact congrArg Int32.toInt z); have z9 := (show (eA ys222 233 5).toInt = (eA g0 234 5515).toInt from by have z := hc225 5 (by decide) (by decide); rw [show 5510 * a1.toInt + 5 = 5515 by omega, eA_c (gA_sI)] at z; exact congrArg Int32.toInt z); have z10 := (show (eA ys222 233 6).toInt = (eA g0 234 5516).toInt from by have z := hc225 6 (by decide) (by decide); rw [show 5510 * a1.toInt + 6 = 5516 by omega, eA_c (gA_sI)] at z; exact congrArg Int32.toInt z); have z11 := (show (eA ys222 233 1).toInt = (eA g0 234 5511).toInt from by have z := hc225 1 (by decide) (by decide); rw [show 5510 * a1.toInt + 1 = 5511 by omega, eA_c (gA_sI)] at z; exact congrArg Int32.toInt z); have z12 := (show (eA ys222 233 2).toInt = (eA g0 234 5512).toInt from by have z := hc225 2 (by decide) (by decide); rw [show 5510 * a1.toInt + 2 = 5512 by omega, eA_c (gA_sI)] at z; exact congrArg Int32.toInt z); have z13 := (show (eA ys222 233 3).toInt = (eA g0 234 5513).toInt from by have z := hc225 3 (by decide) (by decide); rw [show 5510 * a1.toInt + 3 = 5513 by omega, eA_c (gA_sI)] at z; exact congrArg Int32.toInt z); omega), by omega, by omega, by omega⟩, (by intro i i0 i1; exact (Decidable.em (a1.toInt = 0 ∧ (eA g0 235 0).toInt ≠ 0)).elim (fun k0 => by rw [if_pos k0]; exact (by refine (eA_ti ((hF234.2.1 233 ma_X11_tell_231_233))).trans ?_; refine (congrArg Int32.toInt (hc225 i (by omega) (by omega))).trans ?_; refine (eA_ti ((gA_sI))).trans ?_; exact eA_ix (by omega))) (fun k0 => by rw [if_neg k0]; exact (Decidable.em (a1.toInt = 1 ∧ (eA g0 235 1).toInt ≠ 0)).elim (fun k1 => by rw [if_pos k1]; exact (by refine (eA_ti ((hF234.2.1 233 ma_X11_tell_231_233))).trans ?_; refine (congrArg Int32.toInt (hc225 i (by omega) (by omega))).trans ?_; refine (eA_ti ((gA_sI))).trans ?_; exact eA_ix (by omega))) (fun k1 => by rw [if_neg k1]; exfalso; omega)))⟩⟩
      · have c221_ : v220.toInt = 0 := en_k_ne_f c221
        refine At.enter rfl ?_
        refine r_aload_n rfl ?_
        refine r_bipush (-2) rfl ?_
        refine r_callV 36 rfl [.ref 231, .int (-2)] [] (Nat.le_of_ble_eq_true rfl) rfl (T_X11_tell_231 _ hI91 (-2) (by decide)) ?_
        rintro _ _ ⟨g296, rfl, hI297, hF298, v299, rfl, hr300⟩
        refine At.sti ?_
        have hF301 := Fr.tr hF92 hF298 rfl rfl
        have zv302 : ((-2) : Int32).toInt = (-2) := rfl
        refine At.enter rfl ?_
        refine r_ireti ?_
        obtain ⟨v303, hv303⟩ : ∃ v, eA g0 233 0 = v := ⟨_, rfl⟩
        have tv303 := congrArg Int32.toInt hv303
        have wv303 := HI.t0 hI0
        rw [hv303] at wv303
        have tv303 := congrArg Int32.toInt hv303
        have x304 := HI.eqA hI0 (p := 233) (j := 0) (hv303)
        obtain ⟨v305, hv305⟩ : ∃ v, eA g0 233 4 = v := ⟨_, rfl⟩
        have wv305 := HI.t4 hI0
        rw [hv305] at wv305
        have tv305 := congrArg Int32.toInt hv305
        have x306 := HI.eqA hI0 (p := 233) (j := 4) (hv305)
        obtain ⟨v307, hv307⟩ : ∃ v, eA g0 233 5 = v := ⟨_, rfl⟩
        have wv307 := HI.t5 hI0
        rw [hv307] at wv307
        have tv307 := congrArg Int32.toInt hv307
        have x308 := HI.eqA hI0 (p := 233) (j := 5) (hv307)
        obtain ⟨v309, hv309⟩ : ∃ v, eA g0 233 6 = v := ⟨_, rfl⟩
        have wv309 := HI.t6 hI0
        rw [hv309] at wv309
        have tv309 := congrArg Int32.toInt hv309
        have x310 := HI.eqA hI0 (p := 233) (j := 6) (hv309)
        obtain ⟨v311, hv311⟩ : ∃ v, eA g0 233 1 = v := ⟨_, rfl⟩
        have tv311 := congrArg Int32.toInt hv311
        have wv311 := HI.t1 hI0
        rw [hv311] at wv311
        have tv311 := congrArg Int32.toInt hv311
        have x312 := HI.eqA hI0 (p := 233) (j := 1) (hv311)
        obtain ⟨v313, hv313⟩ : ∃ v, eA g0 233 2 = v := ⟨_, rfl⟩
        have tv313 := congrArg Int32.toInt hv313
        have wv313 := HI.t2 hI0
        rw [hv313] at wv313
        have tv313 := congrArg Int32.toInt hv313
        have x314 := HI.eqA hI0 (p := 233) (j := 2) (hv313)
        obtain ⟨v315, hv315⟩ : ∃ v, eA g0 233 3 = v := ⟨_, rfl⟩
        have wv315 := HI.t3 hI0
        rw [hv315] at wv315
        have tv315 := congrArg Int32.toInt hv315
        have x316 := HI.eqA hI0 (p := 233) (j := 3) (hv315)
        obtain ⟨v317, hv317⟩ : ∃ v, eA g0 234 0 = v := ⟨_, rfl⟩
        have tv317 := congrArg Int32.toInt hv317
        have x318 := HI.eqA hI0 (p := 234) (j := 0) (hv317)
        obtain ⟨v319, hv319⟩ : ∃ v, eA g0 234 4 = v := ⟨_, rfl⟩
        have tv319 := congrArg Int32.toInt hv319
        have x320 := HI.eqA hI0 (p := 234) (j := 4) (hv319)
        obtain ⟨v321, hv321⟩ : ∃ v, eA g0 234 5 = v := ⟨_, rfl⟩
        have tv321 := congrArg Int32.toInt hv321
        have x322 := HI.eqA hI0 (p := 234) (j := 5) (hv321)
        obtain ⟨v323, hv323⟩ : ∃ v, eA g0 234 6 = v := ⟨_, rfl⟩
        have tv323 := congrArg Int32.toInt hv323
        have x324 := HI.eqA hI0 (p := 234) (j := 6) (hv323)
        obtain ⟨v325, hv325⟩ : ∃ v, eA g0 234 1 = v := ⟨_, rfl⟩
        have tv325 := congrArg Int32.toInt hv325
        have x326 := HI.eqA hI0 (p := 234) (j := 1) (hv325)
        obtain ⟨v327, hv327⟩ : ∃ v, eA g0 234 2 = v := ⟨_, rfl⟩
        have tv327 := congrArg Int32.toInt hv327
        have x328 := HI.eqA hI0 (p := 234) (j := 2) (hv327)
        obtain ⟨v329, hv329⟩ : ∃ v, eA g0 234 3 = v := ⟨_, rfl⟩
        have tv329 := congrArg Int32.toInt hv329
        have x330 := HI.eqA hI0 (p := 234) (j := 3) (hv329)
        obtain ⟨v331, hv331⟩ : ∃ v, eA g0 234 5510 = v := ⟨_, rfl⟩
        have tv331 := congrArg Int32.toInt hv331
        have x332 := HI.eqA hI0 (p := 234) (j := 5510) (hv331)
        obtain ⟨v333, hv333⟩ : ∃ v, eA g0 234 5514 = v := ⟨_, rfl⟩
        have tv333 := congrArg Int32.toInt hv333
        have x334 := HI.eqA hI0 (p := 234) (j := 5514) (hv333)
        obtain ⟨v335, hv335⟩ : ∃ v, eA g0 234 5515 = v := ⟨_, rfl⟩
        have tv335 := congrArg Int32.toInt hv335
        have x336 := HI.eqA hI0 (p := 234) (j := 5515) (hv335)
        obtain ⟨v337, hv337⟩ : ∃ v, eA g0 234 5516 = v := ⟨_, rfl⟩
        have tv337 := congrArg Int32.toInt hv337
        have x338 := HI.eqA hI0 (p := 234) (j := 5516) (hv337)
        obtain ⟨v339, hv339⟩ : ∃ v, eA g0 234 5511 = v := ⟨_, rfl⟩
        have tv339 := congrArg Int32.toInt hv339
        have x340 := HI.eqA hI0 (p := 234) (j := 5511) (hv339)
        obtain ⟨v341, hv341⟩ : ∃ v, eA g0 234 5512 = v := ⟨_, rfl⟩
        have tv341 := congrArg Int32.toInt hv341
        have x342 := HI.eqA hI0 (p := 234) (j := 5512) (hv341)
        obtain ⟨v343, hv343⟩ : ∃ v, eA g0 234 5513 = v := ⟨_, rfl⟩
        have tv343 := congrArg Int32.toInt hv343
        have x344 := HI.eqA hI0 (p := 234) (j := 5513) (hv343)
        obtain ⟨v345, hv345⟩ : ∃ v, eA g0 235 0 = v := ⟨_, rfl⟩
        have tv345 := congrArg Int32.toInt hv345
        have x346 := HI.eqA hI0 (p := 235) (j := 0) (hv345)
        obtain ⟨v347, hv347⟩ : ∃ v, eA g0 235 1 = v := ⟨_, rfl⟩
        have tv347 := congrArg Int32.toInt hv347
        have x348 := HI.eqA hI0 (p := 235) (j := 1) (hv347)
        have y349 : a1.toInt = 0 → (eA g0 235 0).toInt = v220.toInt := fun e => by rw [← hv220, e]
        have y350 : a1.toInt = 1 → (eA g0 235 1).toInt = v220.toInt := fun e => by rw [← hv220, e]
        have x351 := HI.eqA hI297 (p := 233) (j := 0) ((((eA_c (hF298.2.1 233 ma_X11_tell_231_233)).trans (eA_c gA_sI)).trans hv303))
        have x352 := HI.eqA hI297 (p := 233) (j := 4) ((((eA_c (hF298.2.1 233 ma_X11_tell_231_233)).trans (eA_c gA_sI)).trans hv305))
        have x353 := HI.eqA hI297 (p := 233) (j := 5) ((((eA_c (hF298.2.1 233 ma_X11_tell_231_233)).trans (eA_c gA_sI)).trans hv307))
        have x354 := HI.eqA hI297 (p := 233) (j := 6) ((((eA_c (hF298.2.1 233 ma_X11_tell_231_233)).trans (eA_c gA_sI)).trans hv309))
        have x355 := HI.eqA hI297 (p := 233) (j := 1) ((((eA_c (hF298.2.1 233 ma_X11_tell_231_233)).trans (eA_c gA_sI)).trans hv311))
        have x356 := HI.eqA hI297 (p := 233) (j := 2) ((((eA_c (hF298.2.1 233 ma_X11_tell_231_233)).trans (eA_c gA_sI)).trans hv313))
        have x357 := HI.eqA hI297 (p := 233) (j := 3) ((((eA_c (hF298.2.1 233 ma_X11_tell_231_233)).trans (eA_c gA_sI)).trans hv315))
        have x358 := HI.eqA hI0 (p := 235) (j := 0) (hv345)
        have x359 := HI.eqA hI0 (p := 235) (j := 1) (hv347)
        exact ⟨_, rfl, hI297, hF301, _, rfl, by omega, ⟨⟨by omega, by omega, by omega, by omega, by omega⟩, (by intro i i0 i1; refine Eq.trans ?_ (if_neg (show ¬ (a1.toInt = 0 ∧ (eA g0 235 0).toInt ≠ 0) from by omega)).symm; refine Eq.trans ?_ (if_neg (show ¬ (a1.toInt = 1 ∧ (eA g0 235 1).toInt ≠ 0) from by omega)).symm; refine (eA_ti (((hF298.2.1 233 ma_X11_tell_231_233).trans (gA_sI)))).trans ?_; (first | with_reducible rfl | omega | exact eA_ix (by omega) | rfl))⟩⟩
