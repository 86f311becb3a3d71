def F_X11_status_231 : List (Nat × Nat) := [(231, 0)]
def A_X11_status_231 : List Nat := []
set_option maxRecDepth 100000 in
set_option maxHeartbeats 4000000 in
theorem T_X11_status_231 (d : Nat) {N : Nat} {g0 : List en_E} (hI0 : HI g0) : Ev (d + 1) 264 [.ref 231] (g0, N) (fun w h' => ∃ g', h' = (g', N) ∧ HI g' ∧ Fr F_X11_status_231 A_X11_status_231 g0 g' ∧ ∃ r : Int32, w = some (.int r) ∧ True) := by
  have hF0 : Fr F_X11_status_231 A_X11_status_231 g0 g0 := Fr.rf
  refine Ev.mk rfl rfl ⟨Nat.le_of_ble_eq_true rfl, Or.inr (q_rc hI0.1 kx_231 rfl)⟩ ?_
  show At _ none _ _ (0, [(0, .ref 231)], [], (_, _)) _
  refine At.enter rfl ?_
  refine r_aload_n rfl ?_
  refine r_iconst 0 rfl ?_
  refine q_putI (Sh.int hI0.1 kx_231 rfl) rfl ?_
  have hI7 := HI.wI0 hI0 kx_231 rfl (p := 231) (b := 0) (v := 0) rfl
  have hF8 := Fr.wI (p := 231) (b := 0) (v := 0) hF0 rfl
  refine r_aload_n rfl ?_
  obtain ⟨v9, hv9⟩ : ∃ v, gI g0 231 1 = v := ⟨_, rfl⟩
  refine q_getI (Sh.int hI7.1 kx_231 rfl) v9 ((gI_sI_ne (by decide)).trans hv9) ?_
  refine r_ireti ?_
  exact ⟨_, rfl, hI7, hF8, _, rfl, trivial⟩

def F_X11_stand_231 : List (Nat × Nat) := [(231, 0), (231, 1)]
def A_X11_stand_231 : List Nat := [232, 233]
set_option maxRecDepth 100000 in
set_option maxHeartbeats 4000000 in
theorem T_X11_stand_231 (d : Nat) {N : Nat} {g0 : List en_E} (hI0 : HI g0) (a1 : Int32) (a2 : Int32) (a3 : Int32) : Ev (d + 3) 172 [.ref 231, .int a1, .int a2, .int a3] (g0, N) (fun w h' => ∃ g', h' = (g', N) ∧ HI g' ∧ Fr F_X11_stand_231 A_X11_stand_231 g0 g' ∧ ∃ r : Int32, w = some (.int r) ∧ ((-5) ≤ r.toInt ∧ r.toInt ≤ 11) ∧ ((((¬ (-1 ≤ a1.toInt ∧ a1.toInt ≤ 11 ∧ 1 ≤ a2.toInt ∧ a2.toInt ≤ 9 ∧ 0 ≤ a3.toInt ∧ a3.toInt ≤ 99) → r.toInt = -1 ∧ (eA g' 233 0).toInt = (eA g0 233 0).toInt) ∧ ((-1 ≤ a1.toInt ∧ a1.toInt ≤ 11 ∧ 1 ≤ a2.toInt ∧ a2.toInt ≤ 9 ∧ 0 ≤ a3.toInt ∧ a3.toInt ≤ 99) ∧ 12 ≤ (eA g0 233 0).toInt → r.toInt = -5 ∧ (eA g' 233 0).toInt = (eA g0 233 0).toInt) ∧ ((-1 ≤ a1.toInt ∧ a1.toInt ≤ 11 ∧ 1 ≤ a2.toInt ∧ a2.toInt ≤ 9 ∧ 0 ≤ a3.toInt ∧ a3.toInt ≤ 99) ∧ (eA g0 233 0).toInt < 12 → r.toInt = (eA g0 233 0).toInt ∧ (eA g' 233 0).toInt = (eA g0 233 0).toInt + 1)) ∧ (eA g' 233 4).toInt = (eA g0 233 4).toInt ∧ (eA g' 233 5).toInt = (eA g0 233 5).toInt ∧ (eA g' 233 6).toInt = (eA g0 233 6).toInt) ∧ (∀ i : Int, 10 ≤ i → i < 110 → (eA g' 233 (i)).toInt = if ((-1 ≤ a1.toInt ∧ a1.toInt ≤ 11 ∧ 1 ≤ a2.toInt ∧ a2.toInt ≤ 9 ∧ 0 ≤ a3.toInt ∧ a3.toInt ≤ 99) ∧ (eA g0 233 0).toInt < 12) ∧ i = 10 + 3 * (eA g0 233 0).toInt + 0 then a1.toInt else if ((-1 ≤ a1.toInt ∧ a1.toInt ≤ 11 ∧ 1 ≤ a2.toInt ∧ a2.toInt ≤ 9 ∧ 0 ≤ a3.toInt ∧ a3.toInt ≤ 99) ∧ (eA g0 233 0).toInt < 12) ∧ i = 10 + 3 * (eA g0 233 0).toInt + 1 then a2.toInt else if ((-1 ≤ a1.toInt ∧ a1.toInt ≤ 11 ∧ 1 ≤ a2.toInt ∧ a2.toInt ≤ 9 ∧ 0 ≤ a3.toInt ∧ a3.toInt ≤ 99) ∧ (eA g0 233 0).toInt < 12) ∧ i = 10 + 3 * (eA g0 233 0).toInt + 2 then a3.toInt else (eA g0 233 (i)).toInt))) := by
  have hF0 : Fr F_X11_stand_231 A_X11_stand_231 g0 g0 := Fr.rf
  refine Ev.mk rfl rfl ⟨Nat.le_of_ble_eq_true rfl, Or.inr (q_rc hI0.1 kx_231 rfl)⟩ ?_
  show At _ none _ _ (0, [(0, .ref 231), (1, .int a1), (2, .int a2), (3, .int a3)], [], (_, _)) _
  refine At.enter rfl ?_
  refine r_aload_n rfl ?_
  refine r_iconst 0 rfl ?_
  refine q_putI (Sh.int hI0.1 kx_231 rfl) rfl ?_
  have hI173 := HI.wI0 hI0 kx_231 rfl (p := 231) (b := 0) (v := 0) rfl
  have hF174 := Fr.wI (p := 231) (b := 0) (v := 0) hF0 rfl
  refine r_iconst 0 rfl ?_
  refine r_iload_n rfl ?_
  refine q_inlS 10 rfl [.int 0, .int a1] [] (Nat.le_of_ble_eq_true rfl) rfl ?_
  refine Ev.mk rfl rfl ⟨Nat.le_of_ble_eq_true rfl, Or.inl rfl⟩ ?_
  show At _ none _ _ (0, [(0, .int 0), (1, .int a1)], [], (_, _)) _
  refine At.enter rfl ?_
  refine r_iload_n rfl ?_
  refine r_tsw 28 rfl ?_
  refine At.enter rfl ?_
  refine r_iload_n rfl ?_
  refine q_i2l (fun v175 hv175 => ?_)
  refine r_ldc2 (-1) rfl ?_
  refine r_ldc2 11 rfl ?_
  refine q_inlS 39 rfl [.long v175, .long (-1), .long 11] [] (Nat.le_of_ble_eq_true rfl) rfl ?_
  refine Ev.mk rfl rfl ⟨Nat.le_of_ble_eq_true rfl, Or.inl rfl⟩ ?_
  show At _ none _ _ (0, [(0, .long v175), (2, .long (-1)), (4, .long 11)], [], (_, _)) _
  refine At.enter rfl ?_
  refine r_lload_n rfl ?_
  refine r_lload_n rfl ?_
  refine r_lcmp _ rfl ?_
  refine r_ifs 6 rfl (fun c176 => ?_) (fun c176 => ?_)
  · have c176_ : v175.toInt < (-1) := en_j_lt_t c176
    refine At.enter rfl ?_
    refine r_iconst 0 rfl ?_
    refine Ar.fall 18 rfl ?_
    refine At.enter rfl ?_
    refine q_iretz (by decide) ?_
    refine At.enter rfl ?_
    refine q_iretz (by decide) ?_
    refine At.enter rfl ?_
    refine r_ift (by decide) ?_
    refine At.enter rfl ?_
    refine r_aload_n rfl ?_
    refine r_iconst (-1) rfl ?_
    refine r_callV 34 rfl [.ref 231, .int (-1)] [] (Nat.le_of_ble_eq_true rfl) rfl (T_X11_tell_231 _ hI173 (-1) (by decide)) ?_
    rintro _ _ ⟨g177, rfl, hI178, hF179, v180, rfl, hr181⟩
    refine At.sti ?_
    have hF182 := Fr.tr hF174 hF179 rfl rfl
    have zv183 : ((-1) : Int32).toInt = (-1) := rfl
    refine At.enter rfl ?_
    refine r_ireti ?_
    obtain ⟨v184, hv184⟩ : ∃ v, eA g0 233 0 = v := ⟨_, rfl⟩
    have tv184 := congrArg Int32.toInt hv184
    have wv184 := HI.t0 hI0
    rw [hv184] at wv184
    have tv184 := congrArg Int32.toInt hv184
    have x185 := HI.eqA hI178 (p := 233) (j := 0) ((((eA_c (hF179.2.1 233 (by decide))).trans (eA_c gA_sI)).trans hv184))
    obtain ⟨v186, hv186⟩ : ∃ v, eA g0 233 4 = v := ⟨_, rfl⟩
    have wv186 := HI.t4 hI0
    rw [hv186] at wv186
    have tv186 := congrArg Int32.toInt hv186
    have x187 := HI.eqA hI178 (p := 233) (j := 4) ((((eA_c (hF179.2.1 233 (by decide))).trans (eA_c gA_sI)).trans hv186))
    obtain ⟨v188, hv188⟩ : ∃ v, eA g0 233 5 = v := ⟨_, rfl⟩
    have wv188 := HI.t5 hI0
    rw [hv188] at wv188
    have tv188 := congrArg Int32.toInt hv188
    have x189 := HI.eqA hI178 (p := 233) (j := 5) ((((eA_c (hF179.2.1 233 (by decide))).trans (eA_c gA_sI)).trans hv188))
    obtain ⟨v190, hv190⟩ : ∃ v, eA g0 233 6 = v := ⟨_, rfl⟩
    have wv190 := HI.t6 hI0
    rw [hv190] at wv190
    have tv190 := congrArg Int32.toInt hv190
    have x191 := HI.eqA hI178 (p := 233) (j := 6) ((((eA_c (hF179.2.1 233 (by decide))).trans (eA_c gA_sI)).trans hv190))
    have x192 := HI.eqA hI0 (p := 233) (j := 0) (hv184)
    have x193 := HI.eqA hI0 (p := 233) (j := 4) (hv186)
    have x194 := HI.eqA hI0 (p := 233) (j := 5) (hv188)
    have x195 := HI.eqA hI0 (p := 233) (j := 6) (hv190)
    have x196 := HI.eqA hI0 (p := 233) (j := 0) (hv184)
    exact ⟨_, rfl, hI178, hF182, _, rfl, by omega, ⟨⟨by omega, by omega, by omega, by omega⟩, (by intro i i0 i1; refine Eq.trans ?_ (if_neg (show ¬ (((-1 ≤ a1.toInt ∧ a1.toInt ≤ 11 ∧ 1 ≤ a2.toInt ∧ a2.toInt ≤ 9 ∧ 0 ≤ a3.toInt ∧ a3.toInt ≤ 99) ∧ (eA g0 233 0).toInt < 12) ∧ i = 10 + 3 * (eA g0 233 0).toInt + 0) from by omega)).symm; refine Eq.trans ?_ (if_neg (show ¬ (((-1 ≤ a1.toInt ∧ a1.toInt ≤ 11 ∧ 1 ≤ a2.toInt ∧ a2.toInt ≤ 9 ∧ 0 ≤ a3.toInt ∧ a3.toInt ≤ 99) ∧ (eA g0 233 0).toInt < 12) ∧ i = 10 + 3 * (eA g0 233 0).toInt + 1) from by omega)).symm; refine Eq.trans ?_ (if_neg (show ¬ (((-1 ≤ a1.toInt ∧ a1.toInt ≤ 11 ∧ 1 ≤ a2.toInt ∧ a2.toInt ≤ 9 ∧ 0 ≤ a3.toInt ∧ a3.toInt ≤ 99) ∧ (eA g0 233 0).toInt < 12) ∧ i = 10 + 3 * (eA g0 233 0).toInt + 2) from by omega)).symm; refine (eA_ti (((hF179.2.1 233 (by decide)).trans (gA_sI)))).trans ?_; (first | rfl | exact eA_ix (by omega) | omega))⟩⟩
  · have c176_ : v175.toInt ≥ (-1) := en_j_lt_f c176
    refine At.enter rfl ?_
    refine r_lload_n rfl ?_
    refine r_lload rfl ?_
    refine r_lcmp _ rfl ?_
    refine r_ifs 13 rfl (fun c197 => ?_) (fun c197 => ?_)
    · have c197_ : v175.toInt > 11 := en_j_gt_t c197
      refine At.enter rfl ?_
      refine r_iconst 0 rfl ?_
      refine Ar.fall 18 rfl ?_
      refine At.enter rfl ?_
      refine q_iretz (by decide) ?_
      refine At.enter rfl ?_
      refine q_iretz (by decide) ?_
      refine At.enter rfl ?_
      refine r_ift (by decide) ?_
      refine At.enter rfl ?_
      refine r_aload_n rfl ?_
      refine r_iconst (-1) rfl ?_
      refine r_callV 34 rfl [.ref 231, .int (-1)] [] (Nat.le_of_ble_eq_true rfl) rfl (T_X11_tell_231 _ hI173 (-1) (by decide)) ?_
      rintro _ _ ⟨g198, rfl, hI199, hF200, v201, rfl, hr202⟩
      refine At.sti ?_
      have hF203 := Fr.tr hF174 hF200 rfl rfl
      have zv204 : ((-1) : Int32).toInt = (-1) := rfl
      refine At.enter rfl ?_
      refine r_ireti ?_
      obtain ⟨v205, hv205⟩ : ∃ v, eA g0 233 0 = v := ⟨_, rfl⟩
      have tv205 := congrArg Int32.toInt hv205
      have wv205 := HI.t0 hI0
      rw [hv205] at wv205
      have tv205 := congrArg Int32.toInt hv205
      have x206 := HI.eqA hI199 (p := 233) (j := 0) ((((eA_c (hF200.2.1 233 (by decide))).trans (eA_c gA_sI)).trans hv205))
      obtain ⟨v207, hv207⟩ : ∃ v, eA g0 233 4 = v := ⟨_, rfl⟩
      have wv207 := HI.t4 hI0
      rw [hv207] at wv207
      have tv207 := congrArg Int32.toInt hv207
      have x208 := HI.eqA hI199 (p := 233) (j := 4) ((((eA_c (hF200.2.1 233 (by decide))).trans (eA_c gA_sI)).trans hv207))
      obtain ⟨v209, hv209⟩ : ∃ v, eA g0 233 5 = v := ⟨_, rfl⟩
      have wv209 := HI.t5 hI0
      rw [hv209] at wv209
      have tv209 := congrArg Int32.toInt hv209
      have x210 := HI.eqA hI199 (p := 233) (j := 5) ((((eA_c (hF200.2.1 233 (by decide))).trans (eA_c gA_sI)).trans hv209))
      obtain ⟨v211, hv211⟩ : ∃ v, eA g0 233 6 = v := ⟨_, rfl⟩
      have wv211 := HI.t6 hI0
      rw [hv211] at wv211
      have tv211 := congrArg Int32.toInt hv211
      have x212 := HI.eqA hI199 (p := 233) (j := 6) ((((eA_c (hF200.2.1 233 (by decide))).trans (eA_c gA_sI)).trans hv211))
      have x213 := HI.eqA hI0 (p := 233) (j := 0) (hv205)
      have x214 := HI.eqA hI0 (p := 233) (j := 4) (hv207)
      have x215 := HI.eqA hI0 (p := 233) (j := 5) (hv209)
      have x216 := HI.eqA hI0 (p := 233) (j := 6) (hv211)
      have x217 := HI.eqA hI0 (p := 233) (j := 0) (hv205)
      exact ⟨_, rfl, hI199, hF203, _, rfl, by omega, ⟨⟨by omega, by omega, by omega, by omega⟩, (by intro i i0 i1; refine Eq.trans ?_ (if_neg (show ¬ (((-1 ≤ a1.toInt ∧ a1.toInt ≤ 11 ∧ 1 ≤ a2.toInt ∧ a2.toInt ≤ 9 ∧ 0 ≤ a3.toInt ∧ a3.toInt ≤ 99) ∧ (eA g0 233 0).toInt < 12) ∧ i = 10 + 3 * (eA g0 233 0).toInt + 0) from by omega)).symm; refine Eq.trans ?_ (if_neg (show ¬ (((-1 ≤ a1.toInt ∧ a1.toInt ≤ 11 ∧ 1 ≤ a2.toInt ∧ a2.toInt ≤ 9 ∧ 0 ≤ a3.toInt ∧ a3.toInt ≤ 99) ∧ (eA g0 233 0).toInt < 12) ∧ i = 10 + 3 * (eA g0 233 0).toInt + 1) from by omega)).symm; refine Eq.trans ?_ (if_neg (show ¬ (((-1 ≤ a1.toInt ∧ a1.toInt ≤ 11 ∧ 1 ≤ a2.toInt ∧ a2.toInt ≤ 9 ∧ 0 ≤ a3.toInt ∧ a3.toInt ≤ 99) ∧ (eA g0 233 0).toInt < 12) ∧ i = 10 + 3 * (eA g0 233 0).toInt + 2) from by omega)).symm; refine (eA_ti (((hF200.2.1 233 (by decide)).trans (gA_sI)))).trans ?_; (first | rfl | exact eA_ix (by omega) | omega))⟩⟩
    · have c197_ : v175.toInt ≤ 11 := en_j_gt_f c197
      refine At.enter rfl ?_
      refine r_iconst 1 rfl ?_
      refine r_goto ?_
      refine At.enter rfl ?_
      refine q_iretz (by decide) ?_
      refine At.enter rfl ?_
      refine q_iretz (by decide) ?_
      refine At.enter rfl ?_
      refine r_iff 13 rfl (by decide) ?_
      refine At.enter rfl ?_
      refine r_iconst 1 rfl ?_
      refine r_iload_n rfl ?_
      refine q_inlS 18 rfl [.int 1, .int a2] [] (Nat.le_of_ble_eq_true rfl) rfl ?_
      refine Ev.mk rfl rfl ⟨Nat.le_of_ble_eq_true rfl, Or.inl rfl⟩ ?_
      show At _ none _ _ (0, [(0, .int 1), (1, .int a2)], [], (_, _)) _
      refine At.enter rfl ?_
      refine r_iload_n rfl ?_
      refine r_tsw 40 rfl ?_
      refine At.enter rfl ?_
      refine r_iload_n rfl ?_
      refine q_i2l (fun v218 hv218 => ?_)
      refine r_lconst 1 rfl ?_
      refine r_ldc2 9 rfl ?_
      refine q_inlS 49 rfl [.long v218, .long 1, .long 9] [] (Nat.le_of_ble_eq_true rfl) rfl ?_
      refine Ev.mk rfl rfl ⟨Nat.le_of_ble_eq_true rfl, Or.inl rfl⟩ ?_
      show At _ none _ _ (0, [(0, .long v218), (2, .long 1), (4, .long 9)], [], (_, _)) _
      refine At.enter rfl ?_
      refine r_lload_n rfl ?_
      refine r_lload_n rfl ?_
      refine r_lcmp _ rfl ?_
      refine r_ifs 6 rfl (fun c219 => ?_) (fun c219 => ?_)
      · have c219_ : v218.toInt < 1 := en_j_lt_t c219
        refine At.enter rfl ?_
        refine r_iconst 0 rfl ?_
        refine Ar.fall 18 rfl ?_
        refine At.enter rfl ?_
        refine q_iretz (by decide) ?_
        refine At.enter rfl ?_
        refine q_iretz (by decide) ?_
        refine At.enter rfl ?_
        refine r_ift (by decide) ?_
        refine At.enter rfl ?_
        refine r_aload_n rfl ?_
        refine r_iconst (-1) rfl ?_
        refine r_callV 34 rfl [.ref 231, .int (-1)] [] (Nat.le_of_ble_eq_true rfl) rfl (T_X11_tell_231 _ hI173 (-1) (by decide)) ?_
        rintro _ _ ⟨g220, rfl, hI221, hF222, v223, rfl, hr224⟩
        refine At.sti ?_
        have hF225 := Fr.tr hF174 hF222 rfl rfl
        have zv226 : ((-1) : Int32).toInt = (-1) := rfl
        refine At.enter rfl ?_
        refine r_ireti ?_
        obtain ⟨v227, hv227⟩ : ∃ v, eA g0 233 0 = v := ⟨_, rfl⟩
        have tv227 := congrArg Int32.toInt hv227
        have wv227 := HI.t0 hI0
        rw [hv227] at wv227
        have tv227 := congrArg Int32.toInt hv227
        have x228 := HI.eqA hI221 (p := 233) (j := 0) ((((eA_c (hF222.2.1 233 (by decide))).trans (eA_c gA_sI)).trans hv227))
        obtain ⟨v229, hv229⟩ : ∃ v, eA g0 233 4 = v := ⟨_, rfl⟩
        have wv229 := HI.t4 hI0
        rw [hv229] at wv229
        have tv229 := congrArg Int32.toInt hv229
        have x230 := HI.eqA hI221 (p := 233) (j := 4) ((((eA_c (hF222.2.1 233 (by decide))).trans (eA_c gA_sI)).trans hv229))
        obtain ⟨v231, hv231⟩ : ∃ v, eA g0 233 5 = v := ⟨_, rfl⟩
        have wv231 := HI.t5 hI0
        rw [hv231] at wv231
        have tv231 := congrArg Int32.toInt hv231
        have x232 := HI.eqA hI221 (p := 233) (j := 5) ((((eA_c (hF222.2.1 233 (by decide))).trans (eA_c gA_sI)).trans hv231))
        obtain ⟨v233, hv233⟩ : ∃ v, eA g0 233 6 = v := ⟨_, rfl⟩
        have wv233 := HI.t6 hI0
        rw [hv233] at wv233
        have tv233 := congrArg Int32.toInt hv233
        have x234 := HI.eqA hI221 (p := 233) (j := 6) ((((eA_c (hF222.2.1 233 (by decide))).trans (eA_c gA_sI)).trans hv233))
        have x235 := HI.eqA hI0 (p := 233) (j := 0) (hv227)
        have x236 := HI.eqA hI0 (p := 233) (j := 4) (hv229)
        have x237 := HI.eqA hI0 (p := 233) (j := 5) (hv231)
        have x238 := HI.eqA hI0 (p := 233) (j := 6) (hv233)
        have x239 := HI.eqA hI0 (p := 233) (j := 0) (hv227)
        exact ⟨_, rfl, hI221, hF225, _, rfl, by omega, ⟨⟨by omega, by omega, by omega, by omega⟩, (by intro i i0 i1; refine Eq.trans ?_ (if_neg (show ¬ (((-1 ≤ a1.toInt ∧ a1.toInt ≤ 11 ∧ 1 ≤ a2.toInt ∧ a2.toInt ≤ 9 ∧ 0 ≤ a3.toInt ∧ a3.toInt ≤ 99) ∧ (eA g0 233 0).toInt < 12) ∧ i = 10 + 3 * (eA g0 233 0).toInt + 0) from by omega)).symm; refine Eq.trans ?_ (if_neg (show ¬ (((-1 ≤ a1.toInt ∧ a1.toInt ≤ 11 ∧ 1 ≤ a2.toInt ∧ a2.toInt ≤ 9 ∧ 0 ≤ a3.toInt ∧ a3.toInt ≤ 99) ∧ (eA g0 233 0).toInt < 12) ∧ i = 10 + 3 * (eA g0 233 0).toInt + 1) from by omega)).symm; refine Eq.trans ?_ (if_neg (show ¬ (((-1 ≤ a1.toInt ∧ a1.toInt ≤ 11 ∧ 1 ≤ a2.toInt ∧ a2.toInt ≤ 9 ∧ 0 ≤ a3.toInt ∧ a3.toInt ≤ 99) ∧ (eA g0 233 0).toInt < 12) ∧ i = 10 + 3 * (eA g0 233 0).toInt + 2) from by omega)).symm; refine (eA_ti (((hF222.2.1 233 (by decide)).trans (gA_sI)))).trans ?_; (first | rfl | exact eA_ix (by omega) | omega))⟩⟩
      · have c219_ : v218.toInt ≥ 1 := en_j_lt_f c219
        refine At.enter rfl ?_
        refine r_lload_n rfl ?_
        refine r_lload rfl ?_
        refine r_lcmp _ rfl ?_
        refine r_ifs 13 rfl (fun c240 => ?_) (fun c240 => ?_)
        · have c240_ : v218.toInt > 9 := en_j_gt_t c240
          refine At.enter rfl ?_
          refine r_iconst 0 rfl ?_
          refine Ar.fall 18 rfl ?_
          refine At.enter rfl ?_
          refine q_iretz (by decide) ?_
          refine At.enter rfl ?_
          refine q_iretz (by decide) ?_
          refine At.enter rfl ?_
          refine r_ift (by decide) ?_
          refine At.enter rfl ?_
          refine r_aload_n rfl ?_
          refine r_iconst (-1) rfl ?_
          refine r_callV 34 rfl [.ref 231, .int (-1)] [] (Nat.le_of_ble_eq_true rfl) rfl (T_X11_tell_231 _ hI173 (-1) (by decide)) ?_
          rintro _ _ ⟨g241, rfl, hI242, hF243, v244, rfl, hr245⟩
          refine At.sti ?_
          have hF246 := Fr.tr hF174 hF243 rfl rfl
          have zv247 : ((-1) : Int32).toInt = (-1) := rfl
          refine At.enter rfl ?_
          refine r_ireti ?_
          obtain ⟨v248, hv248⟩ : ∃ v, eA g0 233 0 = v := ⟨_, rfl⟩
          have tv248 := congrArg Int32.toInt hv248
          have wv248 := HI.t0 hI0
          rw [hv248] at wv248
          have tv248 := congrArg Int32.toInt hv248
          have x249 := HI.eqA hI242 (p := 233) (j := 0) ((((eA_c (hF243.2.1 233 (by decide))).trans (eA_c gA_sI)).trans hv248))
          obtain ⟨v250, hv250⟩ : ∃ v, eA g0 233 4 = v := ⟨_, rfl⟩
          have wv250 := HI.t4 hI0
          rw [hv250] at wv250
          have tv250 := congrArg Int32.toInt hv250
          have x251 := HI.eqA hI242 (p := 233) (j := 4) ((((eA_c (hF243.2.1 233 (by decide))).trans (eA_c gA_sI)).trans hv250))
          obtain ⟨v252, hv252⟩ : ∃ v, eA g0 233 5 = v := ⟨_, rfl⟩
          have wv252 := HI.t5 hI0
          rw [hv252] at wv252
          have tv252 := congrArg Int32.toInt hv252
          have x253 := HI.eqA hI242 (p := 233) (j := 5) ((((eA_c (hF243.2.1 233 (by decide))).trans (eA_c gA_sI)).trans hv252))
          obtain ⟨v254, hv254⟩ : ∃ v, eA g0 233 6 = v := ⟨_, rfl⟩
          have wv254 := HI.t6 hI0
          rw [hv254] at wv254
          have tv254 := congrArg Int32.toInt hv254
          have x255 := HI.eqA hI242 (p := 233) (j := 6) ((((eA_c (hF243.2.1 233 (by decide))).trans (eA_c gA_sI)).trans hv254))
          have x256 := HI.eqA hI0 (p := 233) (j := 0) (hv248)
          have x257 := HI.eqA hI0 (p := 233) (j := 4) (hv250)
          have x258 := HI.eqA hI0 (p := 233) (j := 5) (hv252)
          have x259 := HI.eqA hI0 (p := 233) (j := 6) (hv254)
          have x260 := HI.eqA hI0 (p := 233) (j := 0) (hv248)
          exact ⟨_, rfl, hI242, hF246, _, rfl, by omega, ⟨⟨by omega, by omega, by omega, by omega⟩, (by intro i i0 i1; refine Eq.trans ?_ (if_neg (show ¬ (((-1 ≤ a1.toInt ∧ a1.toInt ≤ 11 ∧ 1 ≤ a2.toInt ∧ a2.toInt ≤ 9 ∧ 0 ≤ a3.toInt ∧ a3.toInt ≤ 99) ∧ (eA g0 233 0).toInt < 12) ∧ i = 10 + 3 * (eA g0 233 0).toInt + 0) from by omega)).symm; refine Eq.trans ?_ (if_neg (show ¬ (((-1 ≤ a1.toInt ∧ a1.toInt ≤ 11 ∧ 1 ≤ a2.toInt ∧ a2.toInt ≤ 9 ∧ 0 ≤ a3.toInt ∧ a3.toInt ≤ 99) ∧ (eA g0 233 0).toInt < 12) ∧ i = 10 + 3 * (eA g0 233 0).toInt + 1) from by omega)).symm; refine Eq.trans ?_ (if_neg (show ¬ (((-1 ≤ a1.toInt ∧ a1.toInt ≤ 11 ∧ 1 ≤ a2.toInt ∧ a2.toInt ≤ 9 ∧ 0 ≤ a3.toInt ∧ a3.toInt ≤ 99) ∧ (eA g0 233 0).toInt < 12) ∧ i = 10 + 3 * (eA g0 233 0).toInt + 2) from by omega)).symm; refine (eA_ti (((hF243.2.1 233 (by decide)).trans (gA_sI)))).trans ?_; (first | rfl | exact eA_ix (by omega) | omega))⟩⟩
        · have c240_ : v218.toInt ≤ 9 := en_j_gt_f c240
          refine At.enter rfl ?_
          refine r_iconst 1 rfl ?_
          refine r_goto ?_
          refine At.enter rfl ?_
          refine q_iretz (by decide) ?_
          refine At.enter rfl ?_
          refine q_iretz (by decide) ?_
          refine At.enter rfl ?_
          refine r_iff 21 rfl (by decide) ?_
          refine At.enter rfl ?_
          refine r_iconst 2 rfl ?_
          refine r_iload_n rfl ?_
          refine q_inlS 26 rfl [.int 2, .int a3] [] (Nat.le_of_ble_eq_true rfl) rfl ?_
          refine Ev.mk rfl rfl ⟨Nat.le_of_ble_eq_true rfl, Or.inl rfl⟩ ?_
          show At _ none _ _ (0, [(0, .int 2), (1, .int a3)], [], (_, _)) _
          refine At.enter rfl ?_
          refine r_iload_n rfl ?_
          refine r_tsw 50 rfl ?_
          refine At.enter rfl ?_
          refine r_iload_n rfl ?_
          refine q_i2l (fun v261 hv261 => ?_)
          refine r_lconst 0 rfl ?_
          refine r_ldc2 99 rfl ?_
          refine q_inlS 59 rfl [.long v261, .long 0, .long 99] [] (Nat.le_of_ble_eq_true rfl) rfl ?_
          refine Ev.mk rfl rfl ⟨Nat.le_of_ble_eq_true rfl, Or.inl rfl⟩ ?_
          show At _ none _ _ (0, [(0, .long v261), (2, .long 0), (4, .long 99)], [], (_, _)) _
          refine At.enter rfl ?_
          refine r_lload_n rfl ?_
          refine r_lload_n rfl ?_
          refine r_lcmp _ rfl ?_
          refine r_ifs 6 rfl (fun c262 => ?_) (fun c262 => ?_)
          · have c262_ : v261.toInt < 0 := en_j_lt_t c262
            refine At.enter rfl ?_
            refine r_iconst 0 rfl ?_
            refine Ar.fall 18 rfl ?_
            refine At.enter rfl ?_
            refine q_iretz (by decide) ?_
            refine At.enter rfl ?_
            refine q_iretz (by decide) ?_
            refine At.enter rfl ?_
            refine r_iff 29 rfl (by decide) ?_
            refine At.enter rfl ?_
            refine r_aload_n rfl ?_
            refine r_iconst (-1) rfl ?_
            refine r_callV 34 rfl [.ref 231, .int (-1)] [] (Nat.le_of_ble_eq_true rfl) rfl (T_X11_tell_231 _ hI173 (-1) (by decide)) ?_
            rintro _ _ ⟨g263, rfl, hI264, hF265, v266, rfl, hr267⟩
            refine At.sti ?_
            have hF268 := Fr.tr hF174 hF265 rfl rfl
            have zv269 : ((-1) : Int32).toInt = (-1) := rfl
            refine At.enter rfl ?_
            refine r_ireti ?_
            obtain ⟨v270, hv270⟩ : ∃ v, eA g0 233 0 = v := ⟨_, rfl⟩
            have tv270 := congrArg Int32.toInt hv270
            have wv270 := HI.t0 hI0
            rw [hv270] at wv270
            have tv270 := congrArg Int32.toInt hv270
            have x271 := HI.eqA hI264 (p := 233) (j := 0) ((((eA_c (hF265.2.1 233 (by decide))).trans (eA_c gA_sI)).trans hv270))
            obtain ⟨v272, hv272⟩ : ∃ v, eA g0 233 4 = v := ⟨_, rfl⟩
            have wv272 := HI.t4 hI0
            rw [hv272] at wv272
            have tv272 := congrArg Int32.toInt hv272
            have x273 := HI.eqA hI264 (p := 233) (j := 4) ((((eA_c (hF265.2.1 233 (by decide))).trans (eA_c gA_sI)).trans hv272))
            obtain ⟨v274, hv274⟩ : ∃ v, eA g0 233 5 = v := ⟨_, rfl⟩
            have wv274 := HI.t5 hI0
            rw [hv274] at wv274
            have tv274 := congrArg Int32.toInt hv274
            have x275 := HI.eqA hI264 (p := 233) (j := 5) ((((eA_c (hF265.2.1 233 (by decide))).trans (eA_c gA_sI)).trans hv274))
            obtain ⟨v276, hv276⟩ : ∃ v, eA g0 233 6 = v := ⟨_, rfl⟩
            have wv276 := HI.t6 hI0
            rw [hv276] at wv276
            have tv276 := congrArg Int32.toInt hv276
            have x277 := HI.eqA hI264 (p := 233) (j := 6) ((((eA_c (hF265.2.1 233 (by decide))).trans (eA_c gA_sI)).trans hv276))
            have x278 := HI.eqA hI0 (p := 233) (j := 0) (hv270)
            have x279 := HI.eqA hI0 (p := 233) (j := 4) (hv272)
            have x280 := HI.eqA hI0 (p := 233) (j := 5) (hv274)
            have x281 := HI.eqA hI0 (p := 233) (j := 6) (hv276)
            have x282 := HI.eqA hI0 (p := 233) (j := 0) (hv270)
            exact ⟨_, rfl, hI264, hF268, _, rfl, by omega, ⟨⟨by omega, by omega, by omega, by omega⟩, (by intro i i0 i1; refine Eq.trans ?_ (if_neg (show ¬ (((-1 ≤ a1.toInt ∧ a1.toInt ≤ 11 ∧ 1 ≤ a2.toInt ∧ a2.toInt ≤ 9 ∧ 0 ≤ a3.toInt ∧ a3.toInt ≤ 99) ∧ (eA g0 233 0).toInt < 12) ∧ i = 10 + 3 * (eA g0 233 0).toInt + 0) from by omega)).symm; refine Eq.trans ?_ (if_neg (show ¬ (((-1 ≤ a1.toInt ∧ a1.toInt ≤ 11 ∧ 1 ≤ a2.toInt ∧ a2.toInt ≤ 9 ∧ 0 ≤ a3.toInt ∧ a3.toInt ≤ 99) ∧ (eA g0 233 0).toInt < 12) ∧ i = 10 + 3 * (eA g0 233 0).toInt + 1) from by omega)).symm; refine Eq.trans ?_ (if_neg (show ¬ (((-1 ≤ a1.toInt ∧ a1.toInt ≤ 11 ∧ 1 ≤ a2.toInt ∧ a2.toInt ≤ 9 ∧ 0 ≤ a3.toInt ∧ a3.toInt ≤ 99) ∧ (eA g0 233 0).toInt < 12) ∧ i = 10 + 3 * (eA g0 233 0).toInt + 2) from by omega)).symm; refine (eA_ti (((hF265.2.1 233 (by decide)).trans (gA_sI)))).trans ?_; (first | rfl | exact eA_ix (by omega) | omega))⟩⟩
          · have c262_ : v261.toInt ≥ 0 := en_j_lt_f c262
            refine At.enter rfl ?_
            refine r_lload_n rfl ?_
            refine r_lload rfl ?_
            refine r_lcmp _ rfl ?_
            refine r_ifs 13 rfl (fun c283 => ?_) (fun c283 => ?_)
            · have c283_ : v261.toInt > 99 := en_j_gt_t c283
              refine At.enter rfl ?_
              refine r_iconst 0 rfl ?_
              refine Ar.fall 18 rfl ?_
              refine At.enter rfl ?_
              refine q_iretz (by decide) ?_
              refine At.enter rfl ?_
              refine q_iretz (by decide) ?_
              refine At.enter rfl ?_
              refine r_iff 29 rfl (by decide) ?_
              refine At.enter rfl ?_
              refine r_aload_n rfl ?_
              refine r_iconst (-1) rfl ?_
              refine r_callV 34 rfl [.ref 231, .int (-1)] [] (Nat.le_of_ble_eq_true rfl) rfl (T_X11_tell_231 _ hI173 (-1) (by decide)) ?_
              rintro _ _ ⟨g284, rfl, hI285, hF286, v287, rfl, hr288⟩
              refine At.sti ?_
              have hF289 := Fr.tr hF174 hF286 rfl rfl
              have zv290 : ((-1) : Int32).toInt = (-1) := rfl
              refine At.enter rfl ?_
              refine r_ireti ?_
              obtain ⟨v291, hv291⟩ : ∃ v, eA g0 233 0 = v := ⟨_, rfl⟩
              have tv291 := congrArg Int32.toInt hv291
              have wv291 := HI.t0 hI0
              rw [hv291] at wv291
              have tv291 := congrArg Int32.toInt hv291
              have x292 := HI.eqA hI285 (p := 233) (j := 0) ((((eA_c (hF286.2.1 233 (by decide))).trans (eA_c gA_sI)).trans hv291))
              obtain ⟨v293, hv293⟩ : ∃ v, eA g0 233 4 = v := ⟨_, rfl⟩
              have wv293 := HI.t4 hI0
              rw [hv293] at wv293
              have tv293 := congrArg Int32.toInt hv293
              have x294 := HI.eqA hI285 (p := 233) (j := 4) ((((eA_c (hF286.2.1 233 (by decide))).trans (eA_c gA_sI)).trans hv293))
              obtain ⟨v295, hv295⟩ : ∃ v, eA g0 233 5 = v := ⟨_, rfl⟩
              have wv295 := HI.t5 hI0
              rw [hv295] at wv295
              have tv295 := congrArg Int32.toInt hv295
              have x296 := HI.eqA hI285 (p := 233) (j := 5) ((((eA_c (hF286.2.1 233 (by decide))).trans (eA_c gA_sI)).trans hv295))
              obtain ⟨v297, hv297⟩ : ∃ v, eA g0 233 6 = v := ⟨_, rfl⟩
              have wv297 := HI.t6 hI0
              rw [hv297] at wv297
              have tv297 := congrArg Int32.toInt hv297
              have x298 := HI.eqA hI285 (p := 233) (j := 6) ((((eA_c (hF286.2.1 233 (by decide))).trans (eA_c gA_sI)).trans hv297))
              have x299 := HI.eqA hI0 (p := 233) (j := 0) (hv291)
              have x300 := HI.eqA hI0 (p := 233) (j := 4) (hv293)
              have x301 := HI.eqA hI0 (p := 233) (j := 5) (hv295)
              have x302 := HI.eqA hI0 (p := 233) (j := 6) (hv297)
              have x303 := HI.eqA hI0 (p := 233) (j := 0) (hv291)
              exact ⟨_, rfl, hI285, hF289, _, rfl, by omega, ⟨⟨by omega, by omega, by omega, by omega⟩, (by intro i i0 i1; refine Eq.trans ?_ (if_neg (show ¬ (((-1 ≤ a1.toInt ∧ a1.toInt ≤ 11 ∧ 1 ≤ a2.toInt ∧ a2.toInt ≤ 9 ∧ 0 ≤ a3.toInt ∧ a3.toInt ≤ 99) ∧ (eA g0 233 0).toInt < 12) ∧ i = 10 + 3 * (eA g0 233 0).toInt + 0) from by omega)).symm; refine Eq.trans ?_ (if_neg (show ¬ (((-1 ≤ a1.toInt ∧ a1.toInt ≤ 11 ∧ 1 ≤ a2.toInt ∧ a2.toInt ≤ 9 ∧ 0 ≤ a3.toInt ∧ a3.toInt ≤ 99) ∧ (eA g0 233 0).toInt < 12) ∧ i = 10 + 3 * (eA g0 233 0).toInt + 1) from by omega)).symm; refine Eq.trans ?_ (if_neg (show ¬ (((-1 ≤ a1.toInt ∧ a1.toInt ≤ 11 ∧ 1 ≤ a2.toInt ∧ a2.toInt ≤ 9 ∧ 0 ≤ a3.toInt ∧ a3.toInt ≤ 99) ∧ (eA g0 233 0).toInt < 12) ∧ i = 10 + 3 * (eA g0 233 0).toInt + 2) from by omega)).symm; refine (eA_ti (((hF286.2.1 233 (by decide)).trans (gA_sI)))).trans ?_; (first | rfl | exact eA_ix (by omega) | omega))⟩⟩
            · have c283_ : v261.toInt ≤ 99 := en_j_gt_f c283
              refine At.enter rfl ?_
              refine r_iconst 1 rfl ?_
              refine r_goto ?_
              refine At.enter rfl ?_
              refine q_iretz (by decide) ?_
              refine At.enter rfl ?_
              refine q_iretz (by decide) ?_
              refine At.enter rfl ?_
              refine r_ift (by decide) ?_
              refine At.enter rfl ?_
              refine r_aload_n rfl ?_
              refine q_getR (Sh.ref hI173.1 kx_231 rfl) ?_
              refine r_iconst 0 rfl ?_
              obtain ⟨v304, hv304⟩ : ∃ v, eA g0 233 0 = v := ⟨_, rfl⟩
              have tv304 := congrArg Int32.toInt hv304
              have wv304 := HI.t0 hI0
              rw [hv304] at wv304
              refine q_iald (Sh.arr hI173.1 ka_233) 0 rfl (by decide) v304 ((eA_c (gA_sI)).trans hv304) ?_
              refine r_istore ([(4, .int v304), (0, .ref 231), (1, .int a1), (2, .int a2), (3, .int a3)]) rfl ?_
              refine r_iload rfl ?_
              refine r_bipush 12 rfl ?_
              refine r_ics 50 rfl (fun c305 => ?_) (fun c305 => ?_)
              · have c305_ : v304.toInt ≠ 12 := en_i_ne_t c305
                refine At.enter rfl ?_
                refine r_aload_n rfl ?_
                refine q_getR (Sh.ref hI173.1 kx_231 rfl) ?_
                refine r_bipush 10 rfl ?_
                refine r_iconst 3 rfl ?_
                refine r_iload rfl ?_
                refine q_imul (3 * v304.toInt) rfl (by omega) (fun v306 hv306 => ?_)
                refine q_iadd (10 + v306.toInt) rfl (by omega) (fun v307 hv307 => ?_)
                refine r_iload_n rfl ?_
                refine q_iast (Sh.arr hI173.1 ka_233) ((3 * v304.toInt + 10)) (by omega) (by omega) ?_
                have hI308 := HI.ws hI173 (j := (3 * v304.toInt + 10)) (v := a1) (v304.toInt) 0 (by omega) (by decide) (by omega) (by omega)
                have hF309 := Fr.wA (p := 233) (j := (3 * v304.toInt + 10)) (v := a1) hF174 rfl
                refine r_aload_n rfl ?_
                refine q_getR (Sh.ref hI308.1 kx_231 rfl) ?_
                refine r_bipush 10 rfl ?_
                refine r_iconst 3 rfl ?_
                refine r_iload rfl ?_
                refine q_imul (3 * v304.toInt) rfl (by omega) (fun v310 hv310 => ?_)
                refine q_iadd (10 + v310.toInt) rfl (by omega) (fun v311 hv311 => ?_)
                refine r_iconst 1 rfl ?_
                refine q_iadd (v311.toInt + 1) rfl (by omega) (fun v312 hv312 => ?_)
                refine r_iload_n rfl ?_
                refine q_iast (Sh.arr hI308.1 ka_233) ((3 * v304.toInt + 11)) (by omega) (by omega) ?_
                have hI313 := HI.ws hI308 (j := (3 * v304.toInt + 11)) (v := a2) (v304.toInt) 1 (by omega) (by decide) (by omega) (by omega)
                have hF314 := Fr.wA (p := 233) (j := (3 * v304.toInt + 11)) (v := a2) hF309 rfl
                refine r_aload_n rfl ?_
                refine q_getR (Sh.ref hI313.1 kx_231 rfl) ?_
                refine r_bipush 10 rfl ?_
                refine r_iconst 3 rfl ?_
                refine r_iload rfl ?_
                refine q_imul (3 * v304.toInt) rfl (by omega) (fun v315 hv315 => ?_)
                refine q_iadd (10 + v315.toInt) rfl (by omega) (fun v316 hv316 => ?_)
                refine r_iconst 2 rfl ?_
                refine q_iadd (v316.toInt + 2) rfl (by omega) (fun v317 hv317 => ?_)
                refine r_iload_n rfl ?_
                refine q_iast (Sh.arr hI313.1 ka_233) ((3 * v304.toInt + 12)) (by omega) (by omega) ?_
                have hI318 := HI.ws hI313 (j := (3 * v304.toInt + 12)) (v := a3) (v304.toInt) 2 (by omega) (by decide) (by omega) (by omega)
                have hF319 := Fr.wA (p := 233) (j := (3 * v304.toInt + 12)) (v := a3) hF314 rfl
                refine r_aload_n rfl ?_
                refine q_getR (Sh.ref hI318.1 kx_231 rfl) ?_
                refine r_iconst 0 rfl ?_
                refine r_dup2 ⟨rfl, rfl⟩ ?_
                refine q_iald (Sh.arr hI318.1 ka_233) 0 rfl (by decide) v304 (((eA_sA_ne hI313.1 ka_233 (by first | decide | omega) (by first | decide | omega) (by first | decide | omega)).trans ((eA_sA_ne hI308.1 ka_233 (by first | decide | omega) (by first | decide | omega) (by first | decide | omega)).trans ((eA_sA_ne hI173.1 ka_233 (by first | decide | omega) (by first | decide | omega) (by first | decide | omega)).trans (eA_c gA_sI)))).trans hv304) ?_
                refine r_iconst 1 rfl ?_
                refine q_iadd (v304.toInt + 1) rfl (by omega) (fun v320 hv320 => ?_)
                refine q_iast (Sh.arr hI318.1 ka_233) (0) rfl (by decide) ?_
                have x323 := HI.eqA hI318 (p := 233) (j := 0) ((((eA_sA_ne hI313.1 ka_233 (by first | decide | omega) (by first | decide | omega) (by first | decide | omega)).trans ((eA_sA_ne hI308.1 ka_233 (by first | decide | omega) (by first | decide | omega) (by first | decide | omega)).trans ((eA_sA_ne hI173.1 ka_233 (by first | decide | omega) (by first | decide | omega) (by first | decide | omega)).trans (eA_c gA_sI)))).trans hv304))
                have hI321 := HI.wt0 hI318 (v := v320) (by rw [(((eA_sA_ne hI313.1 ka_233 (by first | decide | omega) (by first | decide | omega) (by first | decide | omega)).trans ((eA_sA_ne hI308.1 ka_233 (by first | decide | omega) (by first | decide | omega) (by first | decide | omega)).trans ((eA_sA_ne hI173.1 ka_233 (by first | decide | omega) (by first | decide | omega) (by first | decide | omega)).trans (eA_c gA_sI)))).trans hv304)]; omega) (by omega) (i := (3 * v304.toInt + 11)) (by rw [(((eA_sA_ne hI313.1 ka_233 (by first | decide | omega) (by first | decide | omega) (by first | decide | omega)).trans ((eA_sA_ne hI308.1 ka_233 (by first | decide | omega) (by first | decide | omega) (by first | decide | omega)).trans ((eA_sA_ne hI173.1 ka_233 (by first | decide | omega) (by first | decide | omega) (by first | decide | omega)).trans (eA_c gA_sI)))).trans hv304)]; omega) (by rw [((eA_sA_ne hI313.1 ka_233 (by first | decide | omega) (by first | decide | omega) (by first | decide | omega)).trans (eA_sA_eq hI308.1 ka_233 (by first | rfl | omega) (by first | decide | omega) (by first | decide | omega)))]; omega)
                have hF322 := Fr.wA (p := 233) (j := 0) (v := v320) hF319 rfl
                refine r_aload_n rfl ?_
                refine r_iload rfl ?_
                refine r_callV 116 rfl [.ref 231, .int v304] [] (Nat.le_of_ble_eq_true rfl) rfl (T_X11_tell_231 _ hI321 v304 (by omega)) ?_
                rintro _ _ ⟨g324, rfl, hI325, hF326, v327, rfl, hr328⟩
                refine At.sti ?_
                have hF329 := Fr.tr hF322 hF326 rfl rfl
                refine At.enter rfl ?_
                refine r_ireti ?_
                have x330 := HI.eqA hI325 (p := 233) (j := 0) (((eA_c (hF326.2.1 233 (by decide))).trans (eA_sA_eq hI318.1 ka_233 (by first | rfl | omega) (by first | decide | omega) (by first | decide | omega))))
                obtain ⟨v331, hv331⟩ : ∃ v, eA g0 233 4 = v := ⟨_, rfl⟩
                have wv331 := HI.t4 hI0
                rw [hv331] at wv331
                have tv331 := congrArg Int32.toInt hv331
                have x332 := HI.eqA hI325 (p := 233) (j := 4) ((((eA_c (hF326.2.1 233 (by decide))).trans ((eA_sA_ne hI318.1 ka_233 (by first | decide | omega) (by first | decide | omega) (by first | decide | omega)).trans ((eA_sA_ne hI313.1 ka_233 (by first | decide | omega) (by first | decide | omega) (by first | decide | omega)).trans ((eA_sA_ne hI308.1 ka_233 (by first | decide | omega) (by first | decide | omega) (by first | decide | omega)).trans ((eA_sA_ne hI173.1 ka_233 (by first | decide | omega) (by first | decide | omega) (by first | decide | omega)).trans (eA_c gA_sI)))))).trans hv331))
                obtain ⟨v333, hv333⟩ : ∃ v, eA g0 233 5 = v := ⟨_, rfl⟩
                have wv333 := HI.t5 hI0
                rw [hv333] at wv333
                have tv333 := congrArg Int32.toInt hv333
                have x334 := HI.eqA hI325 (p := 233) (j := 5) ((((eA_c (hF326.2.1 233 (by decide))).trans ((eA_sA_ne hI318.1 ka_233 (by first | decide | omega) (by first | decide | omega) (by first | decide | omega)).trans ((eA_sA_ne hI313.1 ka_233 (by first | decide | omega) (by first | decide | omega) (by first | decide | omega)).trans ((eA_sA_ne hI308.1 ka_233 (by first | decide | omega) (by first | decide | omega) (by first | decide | omega)).trans ((eA_sA_ne hI173.1 ka_233 (by first | decide | omega) (by first | decide | omega) (by first | decide | omega)).trans (eA_c gA_sI)))))).trans hv333))
                obtain ⟨v335, hv335⟩ : ∃ v, eA g0 233 6 = v := ⟨_, rfl⟩
                have wv335 := HI.t6 hI0
                rw [hv335] at wv335
                have tv335 := congrArg Int32.toInt hv335
                have x336 := HI.eqA hI325 (p := 233) (j := 6) ((((eA_c (hF326.2.1 233 (by decide))).trans ((eA_sA_ne hI318.1 ka_233 (by first | decide | omega) (by first | decide | omega) (by first | decide | omega)).trans ((eA_sA_ne hI313.1 ka_233 (by first | decide | omega) (by first | decide | omega) (by first | decide | omega)).trans ((eA_sA_ne hI308.1 ka_233 (by first | decide | omega) (by first | decide | omega) (by first | decide | omega)).trans ((eA_sA_ne hI173.1 ka_233 (by first | decide | omega) (by first | decide | omega) (by first | decide | omega)).trans (eA_c gA_sI)))))).trans hv335))
                have x337 := HI.eqA hI0 (p := 233) (j := 0) (hv304)
                have x338 := HI.eqA hI0 (p := 233) (j := 4) (hv331)
                have x339 := HI.eqA hI0 (p := 233) (j := 5) (hv333)
                have x340 := HI.eqA hI0 (p := 233) (j := 6) (hv335)
                have x341 := HI.eqA hI0 (p := 233) (j := 0) (hv304)
                exact ⟨_, rfl, hI325, hF329, _, rfl, by omega, ⟨⟨by omega, by omega, by omega, by omega⟩, (by intro i i0 i1; exact (Decidable.em (((-1 ≤ a1.toInt ∧ a1.toInt ≤ 11 ∧ 1 ≤ a2.toInt ∧ a2.toInt ≤ 9 ∧ 0 ≤ a3.toInt ∧ a3.toInt ≤ 99) ∧ (eA g0 233 0).toInt < 12) ∧ i = 10 + 3 * (eA g0 233 0).toInt + 0)).elim (fun k81_ => by refine Eq.trans ?_ (if_pos k81_).symm; refine (eA_ti ((hF326.2.1 233 (by decide)))).trans ?_; exact (Decidable.em (i = 0)).elim (fun k82_ => by refine (eA_eqT hI318.1 ka_233 k82_ (by first | decide | omega) (by first | decide | omega)).trans ?_; (first | (rfl) | (omega))) (fun k82_ => by refine (eA_neT hI318.1 ka_233 k82_ (by first | decide | omega) (by omega)).trans ?_; exact (Decidable.em (i = (3 * v304.toInt + 12))).elim (fun k83_ => by refine (eA_eqT hI313.1 ka_233 k83_ (by first | decide | omega) (by first | decide | omega)).trans ?_; (first | (rfl) | (omega))) (fun k83_ => by refine (eA_neT hI313.1 ka_233 k83_ (by first | decide | omega) (by omega)).trans ?_; exact (Decidable.em (i = (3 * v304.toInt + 11))).elim (fun k84_ => by refine (eA_eqT hI308.1 ka_233 k84_ (by first | decide | omega) (by first | decide | omega)).trans ?_; (first | (rfl) | (omega))) (fun k84_ => by refine (eA_neT hI308.1 ka_233 k84_ (by first | decide | omega) (by omega)).trans ?_; exact (Decidable.em (i = (3 * v304.toInt + 10))).elim (fun k85_ => by refine (eA_eqT hI173.1 ka_233 k85_ (by first | decide | omega) (by first | decide | omega)).trans ?_; (first | (rfl) | (omega))) (fun k85_ => by refine (eA_neT hI173.1 ka_233 k85_ (by first | decide | omega) (by omega)).trans ?_; refine (eA_ti ((gA_sI))).trans ?_; (first | rfl | exact eA_ix (by omega) | omega)))))) (fun k81_ => by refine Eq.trans ?_ (if_neg k81_).symm; exact (Decidable.em (((-1 ≤ a1.toInt ∧ a1.toInt ≤ 11 ∧ 1 ≤ a2.toInt ∧ a2.toInt ≤ 9 ∧ 0 ≤ a3.toInt ∧ a3.toInt ≤ 99) ∧ (eA g0 233 0).toInt < 12) ∧ i = 10 + 3 * (eA g0 233 0).toInt + 1)).elim (fun k86_ => by refine Eq.trans ?_ (if_pos k86_).symm; refine (eA_ti ((hF326.2.1 233 (by decide)))).trans ?_; exact (Decidable.em (i = 0)).elim (fun k87_ => by refine (eA_eqT hI318.1 ka_233 k87_ (by first | decide | omega) (by first | decide | omega)).trans ?_; (first | (rfl) | (omega))) (fun k87_ => by refine (eA_neT hI318.1 ka_233 k87_ (by first | decide | omega) (by omega)).trans ?_; exact (Decidable.em (i = (3 * v304.toInt + 12))).elim (fun k88_ => by refine (eA_eqT hI313.1 ka_233 k88_ (by first | decide | omega) (by first | decide | omega)).trans ?_; (first | (rfl) | (omega))) (fun k88_ => by refine (eA_neT hI313.1 ka_233 k88_ (by first | decide | omega) (by omega)).trans ?_; exact (Decidable.em (i = (3 * v304.toInt + 11))).elim (fun k89_ => by refine (eA_eqT hI308.1 ka_233 k89_ (by first | decide | omega) (by first | decide | omega)).trans ?_; (first | (rfl) | (omega))) (fun k89_ => by refine (eA_neT hI308.1 ka_233 k89_ (by first | decide | omega) (by omega)).trans ?_; exact (Decidable.em (i = (3 * v304.toInt + 10))).elim (fun k90_ => by refine (eA_eqT hI173.1 ka_233 k90_ (by first | decide | omega) (by first | decide | omega)).trans ?_; (first | (rfl) | (omega))) (fun k90_ => by refine (eA_neT hI173.1 ka_233 k90_ (by first | decide | omega) (by omega)).trans ?_; refine (eA_ti ((gA_sI))).trans ?_; (first | rfl | exact eA_ix (by omega) | omega)))))) (fun k86_ => by refine Eq.trans ?_ (if_neg k86_).symm; exact (Decidable.em (((-1 ≤ a1.toInt ∧ a1.toInt ≤ 11 ∧ 1 ≤ a2.toInt ∧ a2.toInt ≤ 9 ∧ 0 ≤ a3.toInt ∧ a3.toInt ≤ 99) ∧ (eA g0 233 0).toInt < 12) ∧ i = 10 + 3 * (eA g0 233 0).toInt + 2)).elim (fun k91_ => by refine Eq.trans ?_ (if_pos k91_).symm; refine (eA_ti ((hF326.2.1 233 (by decide)))).trans ?_; exact (Decidable.em (i = 0)).elim (fun k92_ => by refine (eA_eqT hI318.1 ka_233 k92_ (by first | decide | omega) (by first | decide | omega)).trans ?_; (first | (rfl) | (omega))) (fun k92_ => by refine (eA_neT hI318.1 ka_233 k92_ (by first | decide | omega) (by omega)).trans ?_; exact (Decidable.em (i = (3 * v304.toInt + 12))).elim (fun k93_ => by refine (eA_eqT hI313.1 ka_233 k93_ (by first | decide | omega) (by first | decide | omega)).trans ?_; (first | (rfl) | (omega))) (fun k93_ => by refine (eA_neT hI313.1 ka_233 k93_ (by first | decide | omega) (by omega)).trans ?_; exact (Decidable.em (i = (3 * v304.toInt + 11))).elim (fun k94_ => by refine (eA_eqT hI308.1 ka_233 k94_ (by first | decide | omega) (by first | decide | omega)).trans ?_; (first | (rfl) | (omega))) (fun k94_ => by refine (eA_neT hI308.1 ka_233 k94_ (by first | decide | omega) (by omega)).trans ?_; exact (Decidable.em (i = (3 * v304.toInt + 10))).elim (fun k95_ => by refine (eA_eqT hI173.1 ka_233 k95_ (by first | decide | omega) (by first | decide | omega)).trans ?_; (first | (rfl) | (omega))) (fun k95_ => by refine (eA_neT hI173.1 ka_233 k95_ (by first | decide | omega) (by omega)).trans ?_; refine (eA_ti ((gA_sI))).trans ?_; (first | rfl | exact eA_ix (by omega) | omega)))))) (fun k91_ => by refine Eq.trans ?_ (if_neg k91_).symm; refine (eA_ti ((hF326.2.1 233 (by decide)))).trans ?_; exact (Decidable.em (i = 0)).elim (fun k96_ => by refine (eA_eqT hI318.1 ka_233 k96_ (by first | decide | omega) (by first | decide | omega)).trans ?_; (first | (rfl) | (omega))) (fun k96_ => by refine (eA_neT hI318.1 ka_233 k96_ (by first | decide | omega) (by omega)).trans ?_; exact (Decidable.em (i = (3 * v304.toInt + 12))).elim (fun k97_ => by refine (eA_eqT hI313.1 ka_233 k97_ (by first | decide | omega) (by first | decide | omega)).trans ?_; (first | (rfl) | (omega))) (fun k97_ => by refine (eA_neT hI313.1 ka_233 k97_ (by first | decide | omega) (by omega)).trans ?_; exact (Decidable.em (i = (3 * v304.toInt + 11))).elim (fun k98_ => by refine (eA_eqT hI308.1 ka_233 k98_ (by first | decide | omega) (by first | decide | omega)).trans ?_; (first | (rfl) | (omega))) (fun k98_ => by refine (eA_neT hI308.1 ka_233 k98_ (by first | decide | omega) (by omega)).trans ?_; exact (Decidable.em (i = (3 * v304.toInt + 10))).elim (fun k99_ => by refine (eA_eqT hI173.1 ka_233 k99_ (by first | decide | omega) (by first | decide | omega)).trans ?_; (first | (rfl) | (omega))) (fun k99_ => by refine (eA_neT hI173.1 ka_233 k99_ (by first | decide | omega) (by omega)).trans ?_; refine (eA_ti ((gA_sI))).trans ?_; (first | rfl | exact eA_ix (by omega) | omega)))))))))⟩⟩
              · have c305_ : v304.toInt = 12 := en_i_ne_f c305
                refine At.enter rfl ?_
                refine r_aload_n rfl ?_
                refine r_bipush (-5) rfl ?_
                refine r_callV 56 rfl [.ref 231, .int (-5)] [] (Nat.le_of_ble_eq_true rfl) rfl (T_X11_tell_231 _ hI173 (-5) (by decide)) ?_
                rintro _ _ ⟨g342, rfl, hI343, hF344, v345, rfl, hr346⟩
                refine At.sti ?_
                have hF347 := Fr.tr hF174 hF344 rfl rfl
                have zv348 : ((-5) : Int32).toInt = (-5) := rfl
                refine At.enter rfl ?_
                refine r_ireti ?_
                have x349 := HI.eqA hI343 (p := 233) (j := 0) ((((eA_c (hF344.2.1 233 (by decide))).trans (eA_c gA_sI)).trans hv304))
                obtain ⟨v350, hv350⟩ : ∃ v, eA g0 233 4 = v := ⟨_, rfl⟩
                have wv350 := HI.t4 hI0
                rw [hv350] at wv350
                have tv350 := congrArg Int32.toInt hv350
                have x351 := HI.eqA hI343 (p := 233) (j := 4) ((((eA_c (hF344.2.1 233 (by decide))).trans (eA_c gA_sI)).trans hv350))
                obtain ⟨v352, hv352⟩ : ∃ v, eA g0 233 5 = v := ⟨_, rfl⟩
                have wv352 := HI.t5 hI0
                rw [hv352] at wv352
                have tv352 := congrArg Int32.toInt hv352
                have x353 := HI.eqA hI343 (p := 233) (j := 5) ((((eA_c (hF344.2.1 233 (by decide))).trans (eA_c gA_sI)).trans hv352))
                obtain ⟨v354, hv354⟩ : ∃ v, eA g0 233 6 = v := ⟨_, rfl⟩
                have wv354 := HI.t6 hI0
                rw [hv354] at wv354
                have tv354 := congrArg Int32.toInt hv354
                have x355 := HI.eqA hI343 (p := 233) (j := 6) ((((eA_c (hF344.2.1 233 (by decide))).trans (eA_c gA_sI)).trans hv354))
                have x356 := HI.eqA hI0 (p := 233) (j := 0) (hv304)
                have x357 := HI.eqA hI0 (p := 233) (j := 4) (hv350)
                have x358 := HI.eqA hI0 (p := 233) (j := 5) (hv352)
                have x359 := HI.eqA hI0 (p := 233) (j := 6) (hv354)
                have x360 := HI.eqA hI0 (p := 233) (j := 0) (hv304)
                exact ⟨_, rfl, hI343, hF347, _, rfl, by omega, ⟨⟨by omega, by omega, by omega, by omega⟩, (by intro i i0 i1; refine Eq.trans ?_ (if_neg (show ¬ (((-1 ≤ a1.toInt ∧ a1.toInt ≤ 11 ∧ 1 ≤ a2.toInt ∧ a2.toInt ≤ 9 ∧ 0 ≤ a3.toInt ∧ a3.toInt ≤ 99) ∧ (eA g0 233 0).toInt < 12) ∧ i = 10 + 3 * (eA g0 233 0).toInt + 0) from by omega)).symm; refine Eq.trans ?_ (if_neg (show ¬ (((-1 ≤ a1.toInt ∧ a1.toInt ≤ 11 ∧ 1 ≤ a2.toInt ∧ a2.toInt ≤ 9 ∧ 0 ≤ a3.toInt ∧ a3.toInt ≤ 99) ∧ (eA g0 233 0).toInt < 12) ∧ i = 10 + 3 * (eA g0 233 0).toInt + 1) from by omega)).symm; refine Eq.trans ?_ (if_neg (show ¬ (((-1 ≤ a1.toInt ∧ a1.toInt ≤ 11 ∧ 1 ≤ a2.toInt ∧ a2.toInt ≤ 9 ∧ 0 ≤ a3.toInt ∧ a3.toInt ≤ 99) ∧ (eA g0 233 0).toInt < 12) ∧ i = 10 + 3 * (eA g0 233 0).toInt + 2) from by omega)).symm; refine (eA_ti (((hF344.2.1 233 (by decide)).trans (gA_sI)))).trans ?_; (first | rfl | exact eA_ix (by omega) | omega))⟩⟩
