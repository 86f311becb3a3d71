def F_X11_status_231 : List (Nat × Nat) := [(231, 0)]
def A_X11_status_231 : List Nat := []
set_option maxRecDepth 100000 in
set_option maxHeartbeats 4000000 in
theorem T_X11_status_231 (d : Nat) {N : Nat} {g0 : List en_E} (hI0 : HI g0) : Ev (d + 1) 264 [.ref 231] (g0, N) (fun w h' => ∃ g', h' = (g', N) ∧ HI g' ∧ Fr F_X11_status_231 A_X11_status_231 g0 g' ∧ ∃ r : Int32, w = some (.int r) ∧ True) := by
  have hF0 : Fr F_X11_status_231 A_X11_status_231 g0 g0 := Fr.rf
  refine Ev.mk rfl rfl ⟨Nat.le_of_ble_eq_true rfl, Or.inr (q_rc hI0.1 kx_231 rfl)⟩ ?_
  show At _ none _ _ (0, [(0, .ref 231)], [], (_, _)) _
  refine At.enter rfl ?_
  refine r_aload_n rfl ?_
  refine r_iconst 0 rfl ?_
  refine q_putI (Sh.int hI0.1 kx_231 rfl) rfl ?_
  have hI7 := HI.wI0 hI0 kx_231 rfl (p := 231) (b := 0) (v := 0) rfl
  have hF8 := Fr.wI (p := 231) (b := 0) (v := 0) hF0 rfl
  refine r_aload_n rfl ?_
  obtain ⟨v9, hv9⟩ : ∃ v, gI g0 231 1 = v := ⟨_, rfl⟩
  refine q_getI (Sh.int hI7.1 kx_231 rfl) v9 ((gI_sI_ne (by decide)).trans hv9) ?_
  refine r_ireti ?_
  exact ⟨_, rfl, hI7, hF8, _, rfl, trivial⟩

def F_X11_stand_231 : List (Nat × Nat) := [(231, 0), (231, 1)]
def A_X11_stand_231 : List Nat := [232, 233]
set_option maxRecDepth 100000 in
set_option maxHeartbeats 4000000 in
theorem T_X11_stand_231 (d : Nat) {N : Nat} {g0 : List en_E} (hI0 : HI g0) (a1 : Int32) (a2 : Int32) (a3 : Int32) : Ev (d + 3) 172 [.ref 231, .int a1, .int a2, .int a3] (g0, N) (fun w h' => ∃ g', h' = (g', N) ∧ HI g' ∧ Fr F_X11_stand_231 A_X11_stand_231 g0 g' ∧ ∃ r : Int32, w = some (.int r) ∧ ((-5) ≤ r.toInt ∧ r.toInt ≤ 11) ∧ ((((¬ (-1 ≤ a1.toInt ∧ a1.toInt ≤ 11 ∧ 1 ≤ a2.toInt ∧ a2.toInt ≤ 9 ∧ 0 ≤ a3.toInt ∧ a3.toInt ≤ 99) → r.toInt = -1 ∧ (eA g' 233 0).toInt = (eA g0 233 0).toInt) ∧ ((-1 ≤ a1.toInt ∧ a1.toInt ≤ 11 ∧ 1 ≤ a2.toInt ∧ a2.toInt ≤ 9 ∧ 0 ≤ a3.toInt ∧ a3.toInt ≤ 99) ∧ 12 ≤ (eA g0 233 0).toInt → r.toInt = -5 ∧ (eA g' 233 0).toInt = (eA g0 233 0).toInt) ∧ ((-1 ≤ a1.toInt ∧ a1.toInt ≤ 11 ∧ 1 ≤ a2.toInt ∧ a2.toInt ≤ 9 ∧ 0 ≤ a3.toInt ∧ a3.toInt ≤ 99) ∧ (eA g0 233 0).toInt < 12 → r.toInt = (eA g0 233 0).toInt ∧ (eA g' 233 0).toInt = (eA g0 233 0).toInt + 1)) ∧ (eA g' 233 4).toInt = (eA g0 233 4).toInt ∧ (eA g' 233 5).toInt = (eA g0 233 5).toInt ∧ (eA g' 233 6).toInt = (eA g0 233 6).toInt) ∧ (∀ i : Int, 10 ≤ i → i < 110 → (eA g' 233 (i)).toInt = if ((-1 ≤ a1.toInt ∧ a1.toInt ≤ 11 ∧ 1 ≤ a2.toInt ∧ a2.toInt ≤ 9 ∧ 0 ≤ a3.toInt ∧ a3.toInt ≤ 99) ∧ (eA g0 233 0).toInt < 12) ∧ i = 10 + 3 * (eA g0 233 0).toInt + 0 then a1.toInt else if ((-1 ≤ a1.toInt ∧ a1.toInt ≤ 11 ∧ 1 ≤ a2.toInt ∧ a2.toInt ≤ 9 ∧ 0 ≤ a3.toInt ∧ a3.toInt ≤ 99) ∧ (eA g0 233 0).toInt < 12) ∧ i = 10 + 3 * (eA g0 233 0).toInt + 1 then a2.toInt else if ((-1 ≤ a1.toInt ∧ a1.toInt ≤ 11 ∧ 1 ≤ a2.toInt ∧ a2.toInt ≤ 9 ∧ 0 ≤ a3.toInt ∧ a3.toInt ≤ 99) ∧ (eA g0 233 0).toInt < 12) ∧ i = 10 + 3 * (eA g0 233 0).toInt + 2 then a3.toInt else (eA g0 233 (i)).toInt))) := by
  have hF0 : Fr F_X11_stand_231 A_X11_stand_231 g0 g0 := Fr.rf
  refine Ev.mk rfl rfl ⟨Nat.le_of_ble_eq_true rfl, Or.inr (q_rc hI0.1 kx_231 rfl)⟩ ?_
  show At _ none _ _ (0, [(0, .ref 231), (1, .int a1), (2, .int a2), (3, .int a3)], [], (_, _)) _
  refine At.enter rfl ?_
  refine r_aload_n rfl ?_
  refine r_iconst 0 rfl ?_
  refine q_putI (Sh.int hI0.1 kx_231 rfl) rfl ?_
  have hI173 := HI.wI0 hI0 kx_231 rfl (p := 231) (b := 0) (v := 0) rfl
  have hF174 := Fr.wI (p := 231) (b := 0) (v := 0) hF0 rfl
  refine r_iconst 0 rfl ?_
  refine r_iload_n rfl ?_
  refine q_inlS 10 rfl [.int 0, .int a1] [] (Nat.le_of_ble_eq_true rfl) rfl ?_
  refine Ev.mk rfl rfl ⟨Nat.le_of_ble_eq_true rfl, Or.inl rfl⟩ ?_
  show At _ none _ _ (0, [(0, .int 0), (1, .int a1)], [], (_, _)) _
  refine At.enter rfl ?_
  refine r_iload_n rfl ?_
  refine r_tsw 28 rfl ?_
  refine At.enter rfl ?_
  refine r_iload_n rfl ?_
  refine q_i2l (fun v175 hv175 => ?_)
  refine r_ldc2 (-1) rfl ?_
  refine r_ldc2 11 rfl ?_
  refine q_inlS 39 rfl [.long v175, .long (-1), .long 11] [] (Nat.le_of_ble_eq_true rfl) rfl ?_
  refine Ev.mk rfl rfl ⟨Nat.le_of_ble_eq_true rfl, Or.inl rfl⟩ ?_
  show At _ none _ _ (0, [(0, .long v175), (2, .long (-1)), (4, .long 11)], [], (_, _)) _
  refine At.enter rfl ?_
  refine r_lload_n rfl ?_
  refine r_lload_n rfl ?_
  refine r_lcmp _ rfl ?_
  refine r_ifs 6 rfl (fun c176 => ?_) (fun c176 => ?_)
  · have c176_ : v175.toInt < (-1) := en_j_lt_t c176
    refine At.enter rfl ?_
    refine r_iconst 0 rfl ?_
    refine Ar.fall 18 rfl ?_
    refine At.enter rfl ?_
    refine q_iretz (by decide) ?_
    refine At.enter rfl ?_
    refine q_iretz (by decide) ?_
    refine At.enter rfl ?_
    refine r_ift (by decide) ?_
    refine At.enter rfl ?_
    refine r_aload_n rfl ?_
    refine r_iconst (-1) rfl ?_
    refine r_callV 34 rfl [.ref 231, .int (-1)] [] (Nat.le_of_ble_eq_true rfl) rfl (T_X11_tell_231 _ hI173 (-1) (by decide)) ?_
    rintro _ _ ⟨g177, rfl, hI178, hF179, v180, rfl, hr181⟩
    refine At.sti ?_
    have hF182 := Fr.tr hF174 hF179 rfl rfl
    have zv183 : ((-1) : Int32).toInt = (-1) := rfl
    refine At.enter rfl ?_
    refine r_ireti ?_
    obtain ⟨v184, hv184⟩ : ∃ v, eA g0 233 0 = v := ⟨_, rfl⟩
    have tv184 := congrArg Int32.toInt hv184
    have wv184 := HI.t0 hI0
    rw [hv184] at wv184
    have tv184 := congrArg Int32.toInt hv184
    have x185 := HI.eqA hI178 (p := 233) (j := 0) ((((eA_c (hF179.2.1 233 (by decide))).trans (eA_c gA_sI)).trans hv184))
    obtain ⟨v186, hv186⟩ : ∃ v, eA g0 233 4 = v := ⟨_, rfl⟩
    have wv186 := HI.t4 hI0
    rw [hv186] at wv186
    have tv186 := congrArg Int32.toInt hv186
    have x187 := HI.eqA hI178 (p := 233) (j := 4) ((((eA_c (hF179.2.1 233 (by decide))).trans (eA_c gA_sI)).trans hv186))
    obtain ⟨v188, hv188⟩ : ∃ v, eA g0 233 5 = v := ⟨_, rfl⟩
    have wv188 := HI.t5 hI0
    rw [hv188] at wv188
    have tv188 := congrArg Int32.toInt hv188
    have x189 := HI.eqA hI178 (p := 233) (j := 5) ((((eA_c (hF179.2.1 233 (by decide))).trans (eA_c gA_sI)).trans hv188))
    obtain ⟨v190, hv190⟩ : ∃ v, eA g0 233 6 = v := ⟨_, rfl⟩
    have wv190 := HI.t6 hI0
    rw [hv190] at wv190
    have tv190 := congrArg Int32.toInt hv190
    have x191 := HI.eqA hI178 (p := 233) (j := 6) ((((eA_c (hF179.2.1 233 (by decide))).trans (eA_c gA_sI)).trans hv190))
    have x192 := HI.eqA hI0 (p := 233) (j := 0) (hv184)
    have x193 := HI.eqA hI0 (p := 233) (j := 4) (hv186)
    have x194 := HI.eqA hI0 (p := 233) (j := 5) (hv188)
    have x195 := HI.eqA hI0 (p := 233) (j := 6) (hv190)
    have x196 := HI.eqA hI0 (p := 233) (j := 0) (hv184)
    exact ⟨_, rfl, hI178, hF182, _, rfl, by omega, ⟨⟨by omega, by omega, by omega, by omega⟩, (by intro i i0 i1; refine Eq.trans ?_ (if_neg (show ¬ (((-1 ≤ a1.toInt ∧ a1.toInt ≤ 11 ∧ 1 ≤ a2.toInt ∧ a2.toInt ≤ 9 ∧ 0 ≤ a3.toInt ∧ a3.toInt ≤ 99) ∧ (eA g0 233 0).toInt < 12) ∧ i = 10 + 3 * (eA g0 233 0).toInt + 0) from by omega)).symm; refine Eq.trans ?_ (if_neg (show ¬ (((-1 ≤ a1.toInt ∧ a1.toInt ≤ 11 ∧ 1 ≤ a2.toInt ∧ a2.toInt ≤ 9 ∧ 0 ≤ a3.toInt ∧ a3.toInt ≤ 99) ∧ (eA g0 233 0).toInt < 12) ∧ i = 10 + 3 * (eA g0 233 0).toInt + 1) from by omega)).symm; refine Eq.trans ?_ (if_neg (show ¬ (((-1 ≤ a1.toInt ∧ a1.toInt ≤ 11 ∧ 1 ≤ a2.toInt ∧ a2.toInt ≤ 9 ∧ 0 ≤ a3.toInt ∧ a3.toInt ≤ 99) ∧ (eA g0 233 0).toInt < 12) ∧ i = 10 + 3 * (eA g0 233 0).toInt + 2) from by omega)).symm; refine (eA_ti (((hF179.2.1 233 (by decide)).trans (gA_sI)))).trans ?_; (first | rfl | exact eA_ix (by omega) | omega))⟩⟩
  · have c176_ : v175.toInt ≥ (-1) := en_j_lt_f c176
    refine At.enter rfl ?_
    refine r_lload_n rfl ?_
    refine r_lload rfl ?_
    refine r_lcmp _ rfl ?_
    refine r_ifs 13 rfl (fun c197 => ?_) (fun c197 => ?_)
    · have c197_ : v175.toInt > 11 := en_j_gt_t c197
      refine At.enter rfl ?_
      refine r_iconst 0 rfl ?_
      refine Ar.fall 18 rfl ?_
      refine At.enter rfl ?_
      refine q_iretz (by decide) ?_
      refine At.enter rfl ?_
      refine q_iretz (by decide) ?_
      refine At.enter rfl ?_
      refine r_ift (by decide) ?_
      refine At.enter rfl ?_
      refine r_aload_n rfl ?_
      refine r_iconst (-1) rfl ?_
      refine r_callV 34 rfl [.ref 231, .int (-1)] [] (Nat.le_of_ble_eq_true rfl) rfl (T_X11_tell_231 _ hI173 (-1) (by decide)) ?_
      rintro _ _ ⟨g198, rfl, hI199, hF200, v201, rfl, hr202⟩
      refine At.sti ?_
      have hF203 := Fr.tr hF174 hF200 rfl rfl
      have zv204 : ((-1) : Int32).toInt = (-1) := rfl
      refine At.enter rfl ?_
      refine r_ireti ?_
      obtain ⟨v205, hv205⟩ : ∃ v, eA g0 233 0 = v := ⟨_, rfl⟩
      have tv205 := congrArg Int32.toInt hv205
      have wv205 := HI.t0 hI0
      rw [hv205] at wv205
      have tv205 := congrArg Int32.toInt hv205
      have x206 := HI.eqA hI199 (p := 233) (j := 0) ((((eA_c (hF200.2.1 233 (by decide))).trans (eA_c gA_sI)).trans hv205))
      obtain ⟨v207, hv207⟩ : ∃ v, eA g0 233 4 = v := ⟨_, rfl⟩
      have wv207 := HI.t4 hI0
      rw [hv207] at wv207
      have tv207 := congrArg Int32.toInt hv207
      have x208 := HI.eqA hI199 (p := 233) (j := 4) ((((eA_c (hF200.2.1 233 (by decide))).trans (eA_c gA_sI)).trans hv207))
      obtain ⟨v209, hv209⟩ : ∃ v, eA g0 233 5 = v := ⟨_, rfl⟩
      have wv209 := HI.t5 hI0
      rw [hv209] at wv209
      have tv209 := congrArg Int32.toInt hv209
      have x210 := HI.eqA hI199 (p := 233) (j := 5) ((((eA_c (hF200.2.1 233 (by decide))).trans (eA_c gA_sI)).trans hv209))
      obtain ⟨v211, hv211⟩ : ∃ v, eA g0 233 6 = v := ⟨_, rfl⟩
      have wv211 := HI.t6 hI0
      rw [hv211] at wv211
      have tv211 := congrArg Int32.toInt hv211
      have x212 := HI.eqA hI199 (p := 233) (j := 6) ((((eA_c (hF200.2.1 233 (by decide))).trans (eA_c gA_sI)).trans hv211))
      have x213 := HI.eqA hI0 (p := 233) (j := 0) (hv205)
      have x214 := HI.eqA hI0 (p := 233) (j := 4) (hv207)
      have x215 := HI.eqA hI0 (p := 233) (j := 5) (hv209)
      have x216 := HI.eqA hI0 (p := 233) (j := 6) (hv211)
      have x217 := HI.eqA hI0 (p := 233) (j := 0) (hv205)
      exact ⟨_, rfl, hI199, hF203, _, rfl, by omega, ⟨⟨by omega, by omega, by omega, by omega⟩, (by intro i i0 i1; refine Eq.trans ?_ (if_neg (show ¬ (((-1 ≤ a1.toInt ∧ a1.toInt ≤ 11 ∧ 1 ≤ a2.toInt ∧ a2.toInt ≤ 9 ∧ 0 ≤ a3.toInt ∧ a3.toInt ≤ 99) ∧ (eA g0 233 0).toInt < 12) ∧ i = 10 + 3 * (eA g0 233 0).toInt + 0) from by omega)).symm; refine Eq.trans ?_ (if_neg (show ¬ (((-1 ≤ a1.toInt ∧ a1.toInt ≤ 11 ∧ 1 ≤ a2.toInt ∧ a2.toInt ≤ 9 ∧ 0 ≤ a3.toInt ∧ a3.toInt ≤ 99) ∧ (eA g0 233 0).toInt < 12) ∧ i = 10 + 3 * (eA g0 233 0).toInt + 1) from by omega)).symm; refine Eq.trans ?_ (if_neg (show ¬ (((-1 ≤ a1.toInt ∧ a1.toInt ≤ 11 ∧ 1 ≤ a2.toInt ∧ a2.toInt ≤ 9 ∧ 0 ≤ a3.toInt ∧ a3.toInt ≤ 99) ∧ (eA g0 233 0).toInt < 12) ∧ i = 10 + 3 * (eA g0 233 0).toInt + 2) from by omega)).symm; refine (eA_ti (((hF200.2.1 233 (by decide)).trans (gA_sI)))).trans ?_; (first | rfl | exact eA_ix (by omega) | omega))⟩⟩
    · have c197_ : v175.toInt ≤ 11 := en_j_gt_f c197
      refine At.enter rfl ?_
      refine r_iconst 1 rfl ?_
      refine r_goto ?_
      refine At.enter rfl ?_
      refine q_iretz (by decide) ?_
      refine At.enter rfl ?_
      refine q_iretz (by decide) ?_
      refine At.enter rfl ?_
      refine r_iff 13 rfl (by decide) ?_
      refine At.enter rfl ?_
      refine r_iconst 1 rfl ?_
      refine r_iload_n rfl ?_
      refine q_inlS 18 rfl [.int 1, .int a2] [] (Nat.le_of_ble_eq_true rfl) rfl ?_
      refine Ev.mk rfl rfl ⟨Nat.le_of_ble_eq_true rfl, Or.inl rfl⟩ ?_
      show At _ none _ _ (0, [(0, .int 1), (1, .int a2)], [], (_, _)) _
      refine At.enter rfl ?_
      refine r_iload_n rfl ?_
      refine r_tsw 40 rfl ?_
      refine At.enter rfl ?_
      refine r_iload_n rfl ?_
      refine q_i2l (fun v218 hv218 => ?_)
      refine r_lconst 1 rfl ?_
      refine r_ldc2 9 rfl ?_
      refine q_inlS 49 rfl [.long v218, .long 1, .long 9] [] (Nat.le_of_ble_eq_true rfl) rfl ?_
      refine Ev.mk rfl rfl ⟨Nat.le_of_ble_eq_true rfl, Or.inl rfl⟩ ?_
      show At _ none _ _ (0, [(0, .long v218), (2, .long 1), (4, .long 9)], [], (_, _)) _
      refine At.enter rfl ?_
      refine r_lload_n rfl ?_
      refine r_lload_n rfl ?_
      refine r_lcmp _ rfl ?_
      refine r_ifs 6 rfl (fun c219 => ?_) (fun c219 => ?_)
      · have c219_ : v218.toInt < 1 := en_j_lt_t c219
        refine At.enter rfl ?_
        refine r_iconst 0 rfl ?_
        refine Ar.fall 18 rfl ?_
        refine At.enter rfl ?_
        refine q_iretz (by decide) ?_
        refine At.enter rfl ?_
        refine q_iretz (by decide) ?_
        refine At.enter rfl ?_
        refine r_ift (by decide) ?_
        refine At.enter rfl ?_
        refine r_aload_n rfl ?_
        refine r_iconst (-1) rfl ?_
        refine r_callV 34 rfl [.ref 231, .int (-1)] [] (Nat.le_of_ble_eq_true rfl) rfl (T_X11_tell_231 _ hI173 (-1) (by decide)) ?_
        rintro _ _ ⟨g220, rfl, hI221, hF222, v223, rfl, hr224⟩
        refine At.sti ?_
        have hF225 := Fr.tr hF174 hF222 rfl rfl
        have zv226 : ((-1) : Int32).toInt = (-1) := rfl
        refine At.enter rfl ?_
        refine r_ireti ?_
        obtain ⟨v227, hv227⟩ : ∃ v, eA g0 233 0 = v := ⟨_, rfl⟩
        have tv227 := congrArg Int32.toInt hv227
        have wv227 := HI.t0 hI0
        rw [hv227] at wv227
        have tv227 := congrArg Int32.toInt hv227
        have x228 := HI.eqA hI221 (p := 233) (j := 0) ((((eA_c (hF222.2.1 233 (by decide))).trans (eA_c gA_sI)).trans hv227))
        obtain ⟨v229, hv229⟩ : ∃ v, eA g0 233 4 = v := ⟨_, rfl⟩
        have wv229 := HI.t4 hI0
        rw [hv229] at wv229
        have tv229 := congrArg Int32.toInt hv229
        have x230 := HI.eqA hI221 (p := 233) (j := 4) ((((eA_c (hF222.2.1 233 (by decide))).trans (eA_c gA_sI)).trans hv229))
        obtain ⟨v231, hv231⟩ : ∃ v, eA g0 233 5 = v := ⟨_, rfl⟩
        have wv231 := HI.t5 hI0
        rw [hv231] at wv231
        have tv231 := congrArg Int32.toInt hv231
        have x232 := HI.eqA hI221 (p := 233) (j := 5) ((((eA_c (hF222.2.1 233 (by decide))).trans (eA_c gA_sI)).trans hv231))
        obtain ⟨v233, hv233⟩ : ∃ v, eA g0 233 6 = v := ⟨_, rfl⟩
        have wv233 := HI.t6 hI0
        rw [hv233] at wv233
        have tv233 := congrArg Int32.toInt hv233
        have x234 := HI.eqA hI221 (p := 233) (j := 6) ((((eA_c (hF222.2.1 233 (by decide))).trans (eA_c gA_sI)).trans hv233))
        have x235 := HI.eqA hI0 (p := 233) (j := 0) (hv227)
        have x236 := HI.eqA hI0 (p := 233) (j := 4) (hv229)
        have x237 := HI.eqA hI0 (p := 233) (j := 5) (hv231)
        have x238 := HI.eqA hI0 (p := 233) (j := 6) (hv233)
        have x239 := HI.eqA hI0 (p := 233) (j := 0) (hv227)
        exact ⟨_, rfl, hI221, hF225, _, rfl, by omega, ⟨⟨by omega, by omega, by omega, by omega⟩, (by intro i i0 i1; refine Eq.trans ?_ (if_neg (show ¬ (((-1 ≤ a1.toInt ∧ a1.toInt ≤ 11 ∧ 1 ≤ a2.toInt ∧ a2.toInt ≤ 9 ∧ 0 ≤ a3.toInt ∧ a3.toInt ≤ 99) ∧ (eA g0 233 0).toInt < 12) ∧ i = 10 + 3 * (eA g0 233 0).toInt + 0) from by omega)).symm; refine Eq.trans ?_ (if_neg (show ¬ (((-1 ≤ a1.toInt ∧ a1.toInt ≤ 11 ∧ 1 ≤ a2.toInt ∧ a2.toInt ≤ 9 ∧ 0 ≤ a3.toInt ∧ a3.toInt ≤ 99) ∧ (eA g0 233 0).toInt < 12) ∧ i = 10 + 3 * (eA g0 233 0).toInt + 1) from by omega)).symm; refine Eq.trans ?_ (if_neg (show ¬ (((-1 ≤ a1.toInt ∧ a1.toInt ≤ 11 ∧ 1 ≤ a2.toInt ∧ a2.toInt ≤ 9 ∧ 0 ≤ a3.toInt ∧ a3.toInt ≤ 99) ∧ (eA g0 233 0).toInt < 12) ∧ i = 10 + 3 * (eA g0 233 0).toInt + 2) from by omega)).symm; refine (eA_ti (((hF222.2.1 233 (by decide)).trans (gA_sI)))).trans ?_; (first | rfl | exact eA_ix (by omega) | omega))⟩⟩
      · have c219_ : v218.toInt ≥ 1 := en_j_lt_f c219
        refine At.enter rfl ?_
        refine r_lload_n rfl ?_
        refine r_lload rfl ?_
        refine r_lcmp _ rfl ?_
        refine r_ifs 13 rfl (fun c240 => ?_) (fun c240 => ?_)
        · have c240_ : v218.toInt > 9 := en_j_gt_t c240
          refine At.enter rfl ?_
          refine r_iconst 0 rfl ?_
          refine Ar.fall 18 rfl ?_
          refine At.enter rfl ?_
          refine q_iretz (by decide) ?_
          refine At.enter rfl ?_
          refine q_iretz (by decide) ?_
          refine At.enter rfl ?_
          refine r_ift (by decide) ?_
          refine At.enter rfl ?_
          refine r_aload_n rfl ?_
          refine r_iconst (-1) rfl ?_
          refine r_callV 34 rfl [.ref 231, .int (-1)] [] (Nat.le_of_ble_eq_true rfl) rfl (T_X11_tell_231 _ hI173 (-1) (by decide)) ?_
          rintro _ _ ⟨g241, rfl, hI242, hF243, v244, rfl, hr245⟩
          refine At.sti ?_
          have hF246 := Fr.tr hF174 hF243 rfl rfl
          have zv247 : ((-1) : Int32).toInt = (-1) := rfl
          refine At.enter rfl ?_
          refine r_ireti ?_
          obtain ⟨v248, hv248⟩ : ∃ v, eA g0 233 0 = v := ⟨_, rfl⟩
          have tv248 := congrArg Int32.toInt hv248
          have wv248 := HI.t0 hI0
          rw [hv248] at wv248
          have tv248 := congrArg Int32.toInt hv248
          have x249 := HI.eqA hI242 (p := 233) (j := 0) ((((eA_c (hF243.2.1 233 (by decide))).trans (eA_c gA_sI)).trans hv248))
          obtain ⟨v250, hv250⟩ : ∃ v, eA g0 233 4 = v := ⟨_, rfl⟩
          have wv250 := HI.t4 hI0
          rw [hv250] at wv250
          have tv250 := congrArg Int32.toInt hv250
          have x251 := HI.eqA hI242 (p := 233) (j := 4) ((((eA_c (hF243.2.1 233 (by decide))).trans (eA_c gA_sI)).trans hv250))
          obtain ⟨v252, hv252⟩ : ∃ v, eA g0 233 5 = v := ⟨_, rfl⟩
          have wv252 := HI.t5 hI0
          rw [hv252] at wv252
          have tv252 := congrArg Int32.toInt hv252
          have x253 := HI.eqA hI242 (p := 233) (j := 5) ((((eA_c (hF243.2.1 233 (by decide))).trans (eA_c gA_sI)).trans hv252))
          obtain ⟨v254, hv254⟩ : ∃ v, eA g0 233 6 = v := ⟨_, rfl⟩
          have wv254 := HI.t6 hI0
          rw [hv254] at wv254
          have tv254 := congrArg Int32.toInt hv254
          have x255 := HI.eqA hI242 (p := 233) (j := 6) ((((eA_c (hF243.2.1 233 (by decide))).trans (eA_c gA_sI)).trans hv254))
          have x256 := HI.eqA hI0 (p := 233) (j := 0) (hv248)
          have x257 := HI.eqA hI0 (p := 233) (j := 4) (hv250)
          have x258 := HI.eqA hI0 (p := 233) (j := 5) (hv252)
          have x259 := HI.eqA hI0 (p := 233) (j := 6) (hv254)
          have x260 := HI.eqA hI0 (p := 233) (j := 0) (hv248)
          exact ⟨_, rfl, hI242, hF246, _, rfl, by omega, ⟨⟨by omega, by omega, by omega, by omega⟩, (by intro i i0 i1; refine Eq.trans ?_ (if_neg (show ¬ (((-1 ≤ a1.toInt ∧ a1.toInt ≤ 11 ∧ 1 ≤ a2.toInt ∧ a2.toInt ≤ 9 ∧ 0 ≤ a3.toInt ∧ a3.toInt ≤ 99) ∧ (eA g0 233 0).toInt < 12) ∧ i = 10 + 3 * (eA g0 233 0).toInt + 0) from by omega)).symm; refine Eq.trans ?_ (if_neg (show ¬ (((-1 ≤ a1.toInt ∧ a1.toInt ≤ 11 ∧ 1 ≤ a2.toInt ∧ a2.toInt ≤ 9 ∧ 0 ≤ a3.toInt ∧ a3.toInt ≤ 99) ∧ (eA g0 233 0).toInt < 12) ∧ i = 10 + 3 * (eA g0 233 0).toInt + 1) from by omega)).symm; refine Eq.trans ?_ (if_neg (show ¬ (((-1 ≤ a1.toInt ∧ a1.toInt ≤ 11 ∧ 1 ≤ a2.toInt ∧ a2.toInt ≤ 9 ∧ 0 ≤ a3.toInt ∧ a3.toInt ≤ 99) ∧ (eA g0 233 0).toInt < 12) ∧ i = 10 + 3 * (eA g0 233 0).toInt + 2) from by omega)).symm; refine (eA_ti (((hF243.2.1 233 (by decide)).trans (gA_sI)))).trans ?_; (first | rfl | exact eA_ix (by omega) | omega))⟩⟩
        · have c240_ : v218.toInt ≤ 9 := en_j_gt_f c240
          refine At.enter rfl ?_
          refine r_iconst 1 rfl ?_
          refine r_goto ?_
          refine At.enter rfl ?_
          refine q_iretz (by decide) ?_
          refine At.enter rfl ?_
          refine q_iretz (by decide) ?_
          refine At.enter rfl ?_
          refine r_iff 21 rfl (by decide) ?_
          refine At.enter rfl ?_
          refine r_iconst 2 rfl ?_
          refine r_iload_n rfl ?_
          refine q_inlS 26 rfl [.int 2, .int a3] [] (Nat.le_of_ble_eq_true rfl) rfl ?_
          refine Ev.mk rfl rfl ⟨Nat.le_of_ble_eq_true rfl, Or.inl rfl⟩ ?_
          show At _ none _ _ (0, [(0, .int 2), (1, .int a3)], [], (_, _)) _
          refine At.enter rfl ?_
          refine r_iload_n rfl ?_
          refine r_tsw 50 rfl ?_
          refine At.enter rfl ?_
          refine r_iload_n rfl ?_
          refine q_i2l (fun v261 hv261 => ?_)
          refine r_lconst 0 rfl ?_
          refine r_ldc2 99 rfl ?_
          refine q_inlS 59 rfl [.long v261, .long 0, .long 99] [] (Nat.le_of_ble_eq_true rfl) rfl ?_
          refine Ev.mk rfl rfl ⟨Nat.le_of_ble_eq_true rfl, Or.inl rfl⟩ ?_
          show At _ none _ _ (0, [(0, .long v261), (2, .long 0), (4, .long 99)], [], (_, _)) _
          refine At.enter rfl ?_
          refine r_lload_n rfl ?_
          refine r_lload_n rfl ?_
          refine r_lcmp _ rfl ?_
          refine r_ifs 6 rfl (fun c262 => ?_) (fun c262 => ?_)
          · have c262_ : v261.toInt < 0 := en_j_lt_t c262
            refine At.enter rfl ?_
            refine r_iconst 0 rfl ?_
            refine Ar.fall 18 rfl ?_
            refine At.enter rfl ?_
            refine q_iretz (by decide) ?_
            refine At.enter rfl ?_
            refine q_iretz (by decide) ?_
            refine At.enter rfl ?_
            refine r_iff 29 rfl (by decide) ?_
            refine At.enter rfl ?_
            refine r_aload_n rfl ?_
            refine r_iconst (-1) rfl ?_
            refine r_callV 34 rfl [.ref 231, .int (-1)] [] (Nat.le_of_ble_eq_true rfl) rfl (T_X11_tell_231 _ hI173 (-1) (by decide)) ?_
            rintro _ _ ⟨g263, rfl, hI264, hF265, v266, rfl, hr267⟩
            refine At.sti ?_
            have hF268 := Fr.tr hF174 hF265 rfl rfl
            have zv269 : ((-1) : Int32).toInt = (-1) := rfl
            refine At.enter rfl ?_
            refine r_ireti ?_
            obtain ⟨v270, hv270⟩ : ∃ v, eA g0 233 0 = v := ⟨_, rfl⟩
            have tv270 := congrArg Int32.toInt hv270
            have wv270 := HI.t0 hI0
            rw [hv270] at wv270
            have tv270 := congrArg Int32.toInt hv270
            have x271 := HI.eqA hI264 (p := 233) (j := 0) ((((eA_c (hF265.2.1 233 (by decide))).trans (eA_c gA_sI)).trans hv270))
            obtain ⟨v272, hv272⟩ : ∃ v, eA g0 233 4 = v := ⟨_, rfl⟩
            have wv272 := HI.t4 hI0
            rw [hv272] at wv272
            have tv272 := congrArg Int32.toInt hv272
            have x273 := HI.eqA hI264 (p := 233) (j := 4) ((((eA_c (hF265.2.1 233 (by decide))).trans (eA_c gA_sI)).trans hv272))
            obtain ⟨v274, hv274⟩ : ∃ v, eA g0 233 5 = v := ⟨_, rfl⟩
            have wv274 := HI.t5 hI0
            rw [hv274] at wv274
            have tv274 := congrArg Int32.toInt hv274
            have x275 := HI.eqA hI264 (p := 233) (j := 5) ((((eA_c (hF265.2.1 233 (by decide))).trans (eA_c gA_sI)).trans hv274))
            obtain ⟨v276, hv276⟩ : ∃ v, eA g0 233 6 = v := ⟨_, rfl⟩
            have wv276 := HI.t6 hI0
            rw [hv276] at wv276
            have tv276 := congrArg Int32.toInt hv276
            have x277 := HI.eqA hI264 (p := 233) (j := 6) ((((eA_c (hF265.2.1 233 (by decide))).trans (eA_c gA_sI)).trans hv276))
            have x278 := HI.eqA hI0 (p := 233) (j := 0) (hv270)
            have x279 := HI.eqA hI0 (p := 233) (j := 4) (hv272)
            have x280 := HI.eqA hI0 (p := 233) (j := 5) (hv274)
            have x281 := HI.eqA hI0 (p := 233) (j := 6) (hv276)
            have x282 := HI.eqA hI0 (p := 233) (j := 0) (hv270)
            exact ⟨_, rfl, hI264, hF268, _, rfl, by omega, ⟨⟨by omega, by omega, by omega, by omega⟩, (by intro i i0 i1; refine Eq.trans ?_ (if_neg (show ¬ (((-1 ≤ a1.toInt ∧ a1.toInt ≤ 11 ∧ 1 ≤ a2.toInt ∧ a2.toInt ≤ 9 ∧ 0 ≤ a3.toInt ∧ a3.toInt ≤ 99) ∧ (eA g0 233 0).toInt < 12) ∧ i = 10 + 3 * (eA g0 233 0).toInt + 0) from by omega)).symm; refine Eq.trans ?_ (if_neg (show ¬ (((-1 ≤ a1.toInt ∧ a1.toInt ≤ 11 ∧ 1 ≤ a2.toInt ∧ a2.toInt ≤ 9 ∧ 0 ≤ a3.toInt ∧ a3.toInt ≤ 99) ∧ (eA g0 233 0).toInt < 12) ∧ i = 10 + 3 * (eA g0 233 0).toInt + 1) from by omega)).symm; refine Eq.trans ?_ (if_neg (show ¬ (((-1 ≤ a1.toInt ∧ a1.toInt ≤ 11 ∧ 1 ≤ a2.toInt ∧ a2.toInt ≤ 9 ∧ 0 ≤ a3.toInt ∧ a3.toInt ≤ 99) ∧ (eA g0 233 0).toInt < 12) ∧ i = 10 + 3 * (eA g0 233 0).toInt + 2) from by omega)).symm; refine (eA_ti (((hF265.2.1 233 (by decide)).trans (gA_sI)))).trans ?_; (first | rfl | exact eA_ix (by omega) | omega))⟩⟩
          · have c262_ : v261.toInt ≥ 0 := en_j_lt_f c262
            refine At.enter rfl ?_
            refine r_lload_n rfl ?_
            refine r_lload rfl ?_
            refine r_lcmp _ rfl ?_
            refine r_ifs 13 rfl (fun c283 => ?_) (fun c283 => ?_)
            · have c283_ : v261.toInt > 99 := en_j_gt_t c283
              refine At.enter rfl ?_
              refine r_iconst 0 rfl ?_
              refine Ar.fall 18 rfl ?_
              refine At.enter rfl ?_
              refine q_iretz (by decide) ?_
              refine At.enter rfl ?_
              refine q_iretz (by decide) ?_
              refine At.enter rfl ?_
              refine r_iff 29 rfl (by decide) ?_
              refine At.enter rfl ?_
              refine r_aload_n rfl ?_
              refine r_iconst (-1) rfl ?_
              refine r_callV 34 rfl [.ref 231, .int (-1)] [] (Nat.le_of_ble_eq_true rfl) rfl (T_X11_tell_231 _ hI173 (-1) (by decide)) ?_
              rintro _ _ ⟨g284, rfl, hI285, hF286, v287, rfl, hr288⟩
              refine At.sti ?_
              have hF289 := Fr.tr hF174 hF286 rfl rfl
              have zv290 : ((-1) : Int32).toInt = (-1) := rfl
              refine At.enter rfl ?_
              refine r_ireti ?_
              obtain ⟨v291, hv291⟩ : ∃ v, eA g0 233 0 = v := ⟨_, rfl⟩
              have tv291 := congrArg Int32.toInt hv291
              have wv291 := HI.t0 hI0
              rw [hv291] at wv291
              have tv291 := congrArg Int32.toInt hv291
              have x292 := HI.eqA hI285 (p := 233) (j := 0) ((((eA_c (hF286.2.1 233 (by decide))).trans (eA_c gA_sI)).trans hv291))
              obtain ⟨v293, hv293⟩ : ∃ v, eA g0 233 4 = v := ⟨_, rfl⟩
              have wv293 := HI.t4 hI0
              rw [hv293] at wv293
              have tv293 := congrArg Int32.toInt hv293
              have x294 := HI.eqA hI285 (p := 233) (j := 4) ((((eA_c (hF286.2.1 233 (by decide))).trans (eA_c gA_sI)).trans hv293))
              obtain ⟨v295, hv295⟩ : ∃ v, eA g0 233 5 = v := ⟨_, rfl⟩
              have wv295 := HI.t5 hI0
              rw [hv295] at wv295
              have tv295 := congrArg Int32.toInt hv295
              have x296 := HI.eqA hI285 (p := 233) (j := 5) ((((eA_c (hF286.2.1 233 (by decide))).trans (eA_c gA_sI)).trans hv295))
              obtain ⟨v297, hv297⟩ : ∃ v, eA g0 233 6 = v := ⟨_, rfl⟩
              have wv297 := HI.t6 hI0
              rw [hv297] at wv297
              have tv297 := congrArg Int32.toInt hv297
              have x298 := HI.eqA hI285 (p := 233) (j := 6) ((((eA_c (hF286.2.1 233 (by decide))).trans (eA_c gA_sI)).trans hv297))
              have x299 := HI.eqA hI0 (p := 233) (j := 0) (hv291)
              have x300 := HI.eqA hI0 (p := 233) (j := 4) (hv293)
              have x301 := HI.eqA hI0 (p := 233) (j := 5) (hv295)
              have x302 := HI.eqA hI0 (p := 233) (j := 6) (hv297)
              have x303 := HI.eqA hI0 (p := 233) (j := 0) (hv291)
              exact ⟨_, rfl, hI285, hF289, _, rfl, by omega, ⟨⟨by omega, by omega, by omega, by omega⟩, (by intro i i0 i1; refine Eq.trans ?_ (if_neg (show ¬ (((-1 ≤ a1.toInt ∧ a1.toInt ≤ 11 ∧ 1 ≤ a2.toInt ∧ a2.toInt ≤ 9 ∧ 0 ≤ a3.toInt ∧ a3.toInt ≤ 99) ∧ (eA g0 233 0).toInt < 12) ∧ i = 10 + 3 * (eA g0 233 0).toInt + 0) from by omega)).symm; refine Eq.trans ?_ (if_neg (show ¬ (((-1 ≤ a1.toInt ∧ a1.toInt ≤ 11 ∧ 1 ≤ a2.toInt ∧ a2.toInt ≤ 9 ∧ 0 ≤ a3.toInt ∧ a3.toInt ≤ 99) ∧ (eA g0 233 0).toInt < 12) ∧ i = 10 + 3 * (eA g0 233 0).toInt + 1) from by omega)).symm; refine Eq.trans ?_ (if_neg (show ¬ (((-1 ≤ a1.toInt ∧ a1.toInt ≤ 11 ∧ 1 ≤ a2.toInt ∧ a2.toInt ≤ 9 ∧ 0 ≤ a3.toInt ∧ a3.toInt ≤ 99) ∧ (eA g0 233 0).toInt < 12) ∧ i = 10 + 3 * (eA g0 233 0).toInt + 2) from by omega)).symm; refine (eA_ti (((hF286.2.1 233 (by decide)).trans (gA_sI)))).trans ?_; (first | rfl | exact eA_ix (by omega) | omega))⟩⟩
            · have c283_ : v261.toInt ≤ 99 := en_j_gt_f c283
              refine At.enter rfl ?_
              refine r_iconst 1 rfl ?_
              refine r_goto ?_
              refine At.enter rfl ?_
              refine q_iretz (by decide) ?_
              refine At.enter rfl ?_
              refine q_iretz (by decide) ?_
              refine At.enter rfl ?_
              refine r_ift (by decide) ?_
              refine At.enter rfl ?_
              refine r_aload_n rfl ?_
              refine q_getR (Sh.ref hI173.1 kx_231 rfl) ?_
              refine r_iconst 0 rfl ?_
              obtain ⟨v304, hv304⟩ : ∃ v, eA g0 233 0 = v := ⟨_, rfl⟩
              have tv304 := congrArg Int32.toInt hv304
              have wv304 := HI.t0 hI0
              rw [hv304] at wv304
              refine q_iald (Sh.arr hI173.1 ka_233) 0 rfl (by decide) v304 ((eA_c (gA_sI)).trans hv304) ?_
              refine r_istore ([(4, .int v304), (0, .ref 231), (1, .int a1), (2, .int a2), (3, .int a3)]) rfl ?_
              refine r_iload rfl ?_
              refine r_bipush 12 rfl ?_
              refine r_ics 50 rfl (fun c305 => ?_) (fun c305 => ?_)
              · have c305_ : v304.toInt ≠ 12 := en_i_ne_t c305
                refine At.enter rfl ?_
                refine r_aload_n rfl ?_
                refine q_getR (Sh.ref hI173.1 kx_231 rfl) ?_
                refine r_bipush 10 rfl ?_
                refine r_iconst 3 rfl ?_
                refine r_iload rfl ?_
                refine q_imul (3 * v304.toInt) rfl (by omega) (fun v306 hv306 => ?_)
                refine q_iadd (10 + v306.toInt) rfl (by omega) (fun v307 hv307 => ?_)
                refine r_iload_n rfl ?_
                refine q_iast (Sh.arr hI173.1 ka_233) ((3 * v304.toInt + 10)) (by omega) (by omega) ?_
                have hI308 := HI.ws hI173 (j := (3 * v304.toInt + 10)) (v := a1) (v304.toInt) 0 (by omega) (by decide) (by omega) (by omega)
                have hF309 := Fr.wA (p := 233) (j := (3 * v304.toInt + 10)) (v := a1) hF174 rfl
                refine r_aload_n rfl ?_
                refine q_getR (Sh.ref hI308.1 kx_231 rfl) ?_
                refine r_bipush 10 rfl ?_
                refine r_iconst 3 rfl ?_
                refine r_iload rfl ?_
                refine q_imul (3 * v304.toInt) rfl (by omega) (fun v310 hv310 => ?_)
                refine q_iadd (10 + v310.toInt) rfl (by omega) (fun v311 hv311 => ?_)
                refine r_iconst 1 rfl ?_
                refine q_iadd (v311.toInt + 1) rfl (by omega) (fun v312 hv312 => ?_)
                refine r_iload_n rfl ?_
                refine q_iast (Sh.arr hI308.1 ka_233) ((3 * v304.toInt + 11)) (by omega) (by omega) ?_
                have hI313 := HI.ws hI308 (j := (3 * v304.toInt + 11)) (v := a2) (v304.toInt) 1 (by omega) (by decide) (by omega) (by omega)
                have hF314 := Fr.wA (p := 233) (j := (3 * v304.toInt + 11)) (v := a2) hF309 rfl
                refine r_aload_n rfl ?_
                refine q_getR (Sh.ref hI313.1 kx_231 rfl) ?_
                refine r_bipush 10 rfl ?_
                refine r_iconst 3 rfl ?_
                refine r_iload rfl ?_
                refine q_imul (3 * v304.toInt) rfl (by omega) (fun v315 hv315 => ?_)
                refine q_iadd (10 + v315.toInt) rfl (by omega) (fun v316 hv316 => ?_)
                refine r_iconst 2 rfl ?_
                refine q_iadd (v316.toInt + 2) rfl (by omega) (fun v317 hv317 => ?_)
                refine r_iload_n rfl ?_
                refine q_iast (Sh.arr hI313.1 ka_233) ((3 * v304.toInt + 12)) (by omega) (by omega) ?_
                have hI318 := HI.ws hI313 (j := (3 * v304.toInt + 12)) (v := a3) (v304.toInt) 2 (by omega) (by decide) (by omega) (by omega)
                have hF319 := Fr.wA (p := 233) (j := (3 * v304.toInt + 12)) (v := a3) hF314 rfl
                refine r_aload_n rfl ?_
                refine q_getR (Sh.ref hI318.1 kx_231 rfl) ?_
                refine r_iconst 0 rfl ?_
                refine r_dup2 ⟨rfl, rfl⟩ ?_
                refine q_iald (Sh.arr hI318.1 ka_233) 0 rfl (by decide) v304 (((eA_sA_ne hI313.1 ka_233 (by first | decide | omega) (by first | decide | omega) (by first | decide | omega)).trans ((eA_sA_ne hI308.1 ka_233 (by first | decide | omega) (by first | decide | omega) (by first | decide | omega)).trans ((eA_sA_ne hI173.1 ka_233 (by first | decide | omega) (by first | decide | omega) (by first | decide | omega)).trans (eA_c gA_sI)))).trans hv304) ?_
                refine r_iconst 1 rfl ?_
                refine q_iadd (v304.toInt + 1) rfl (by omega) (fun v320 hv320 => ?_)
                refine q_iast (Sh.arr hI318.1 ka_233) (0) rfl (by decide) ?_
                have x323 := HI.eqA hI318 (p := 233) (j := 0) ((((eA_sA_ne hI313.1 ka_233 (by first | decide | omega) (by first | decide | omega) (by first | decide | omega)).trans ((eA_sA_ne hI308.1 ka_233 (by first | decide | omega) (by first | decide | omega) (by first | decide | omega)).trans ((eA_sA_ne hI173.1 ka_233 (by first | decide | omega) (by first | decide | omega) (by first | decide | omega)).trans (eA_c gA_sI)))).trans hv304))
                have hI321 := HI.wt0 hI318 (v := v320) (by rw [(((eA_sA_ne hI313.1 ka_233 (by first | decide | omega) (by first | decide | omega) (by first | decide | omega)).trans ((eA_sA_ne hI308.1 ka_233 (by first | decide | omega) (by first | decide | omega) (by first | decide | omega)).trans ((eA_sA_ne hI173.1 ka_233 (by first | decide | omega) (by first | decide | omega) (by first | decide | omega)).trans (eA_c gA_sI)))).trans hv304)]; omega) (by omega) (i := (3 * v304.toInt + 11)) (by rw [(((eA_sA_ne hI313.1 ka_233 (by first | decide | omega) (by first | decide | omega) (by first | decide | omega)).trans ((eA_sA_ne hI308.1 ka_233 (by first | decide | omega) (by first | decide | omega) (by first | decide | omega)).trans ((eA_sA_ne hI173.1 ka_233 (by first | decide | omega) (by first | decide | omega) (by first | decide | omega)).trans (eA_c gA_sI)))).trans hv304)]; omega) (by rw [((eA_sA_ne hI313.1 ka_233 (by first | decide | omega) (by first | decide | omega) (by first | decide | omega)).trans (eA_sA_eq hI308.1 ka_233 (by first | rfl | omega) (by first | decide | omega) (by first | decide | omega)))]; omega)
                have hF322 := Fr.wA (p := 233) (j := 0) (v := v320) hF319 rfl
                refine r_aload_n rfl ?_
                refine r_iload rfl ?_
                refine r_callV 116 rfl [.ref 231, .int v304] [] (Nat.le_of_ble_eq_true rfl) rfl (T_X11_tell_231 _ hI321 v304 (by omega)) ?_
                rintro _ _ ⟨g324, rfl, hI325, hF326, v327, rfl, hr328⟩
                refine At.sti ?_
                have hF329 := Fr.tr hF322 hF326 rfl rfl
                refine At.enter rfl ?_
                refine r_ireti ?_
                have x330 := HI.eqA hI325 (p := 233) (j := 0) (((eA_c (hF326.2.1 233 (by decide))).trans (eA_sA_eq hI318.1 ka_233 (by first | rfl | omega) (by first | decide | omega) (by first | decide | omega))))
                obtain ⟨v331, hv331⟩ : ∃ v, eA g0 233 4 = v := ⟨_, rfl⟩
                have wv331 := HI.t4 hI0
                rw [hv331] at wv331
                have tv331 := congrArg Int32.toInt hv331
                have x332 := HI.eqA hI325 (p := 233) (j := 4) ((((eA_c (hF326.2.1 233 (by decide))).trans ((eA_sA_ne hI318.1 ka_233 (by first | decide | omega) (by first | decide | omega) (by first | decide | omega)).trans ((eA_sA_ne hI313.1 ka_233 (by first | decide | omega) (by first | decide | omega) (by first | decide | omega)).trans ((eA_sA_ne hI308.1 ka_233 (by first | decide | omega) (by first | decide | omega) (by first | decide | omega)).trans ((eA_sA_ne hI173.1 ka_233 (by first | decide | omega) (by first | decide | omega) (by first | decide | omega)).trans (eA_c gA_sI)))))).trans hv331))
                obtain ⟨v333, hv333⟩ : ∃ v, eA g0 233 5 = v := ⟨_, rfl⟩
                have wv333 := HI.t5 hI0
                rw [hv333] at wv333
                have tv333 := congrArg Int32.toInt hv333
                have x334 := HI.eqA hI325 (p := 233) (j := 5) ((((eA_c (hF326.2.1 233 (by decide))).trans ((eA_sA_ne hI318.1 ka_233 (by first | decide | omega) (by first | decide | omega) (by first | decide | omega)).trans ((eA_sA_ne hI313.1 ka_233 (by first | decide | omega) (by first | decide | omega) (by first | decide | omega)).trans ((eA_sA_ne hI308.1 ka_233 (by first | decide | omega) (by first | decide | omega) (by first | decide | omega)).trans ((eA_sA_ne hI173.1 ka_233 (by first | decide | omega) (by first | decide | omega) (by first | decide | omega)).trans (eA_c gA_sI)))))).trans hv333))
                obtain ⟨v335, hv335⟩ : ∃ v, eA g0 233 6 = v := ⟨_, rfl⟩
                have wv335 := HI.t6 hI0
                rw [hv335] at wv335
                have tv335 := congrArg Int32.toInt hv335
                have x336 := HI.eqA hI325 (p := 233) (j := 6) ((((eA_c (hF326.2.1 233 (by decide))).trans ((eA_sA_ne hI318.1 ka_233 (by first | decide | omega) (by first | decide | omega) (by first | decide | omega)).trans ((eA_sA_ne hI313.1 ka_233 (by first | decide | omega) (by first | decide | omega) (by first | decide | omega)).trans ((eA_sA_ne hI308.1 ka_233 (by first | decide | omega) (by first | decide | omega) (by first | decide | omega)).trans ((eA_sA_ne hI173.1 ka_233 (by first | decide | omega) (by first | decide | omega) (by first | decide | omega)).trans (eA_c gA_sI)))))).trans hv335))
                have x337 := HI.eqA hI0 (p := 233) (j := 0) (hv304)
                have x338 := HI.eqA hI0 (p := 233) (j := 4) (hv331)
                have x339 := HI.eqA hI0 (p := 233) (j := 5) (hv333)
                have x340 := HI.eqA hI0 (p := 233) (j := 6) (hv335)
                have x341 := HI.eqA hI0 (p := 233) (j := 0) (hv304)
                exact ⟨_, rfl, hI325, hF329, _, rfl, by omega, ⟨⟨by omega, by omega, by omega, by omega⟩, (by intro i i0 i1; exact (Decidable.em (((-1 ≤ a1.toInt ∧ a1.toInt ≤ 11 ∧ 1 ≤ a2.toInt ∧ a2.toInt ≤ 9 ∧ 0 ≤ a3.toInt ∧ a3.toInt ≤ 99) ∧ (eA g0 233 0).toInt < 12) ∧ i = 10 + 3 * (eA g0 233 0).toInt + 0)).elim (fun k81_ => by refine Eq.trans ?_ (if_pos k81_).symm; refine (eA_ti ((hF326.2.1 233 (by decide)))).trans ?_; exact (Decidable.em (i = 0)).elim (fun k82_ => by refine (eA_eqT hI318.1 ka_233 k82_ (by first | decide | omega) (by first | decide | omega)).trans ?_; (first | (rfl) | (omega))) (fun k82_ => by refine (eA_neT hI318.1 ka_233 k82_ (by first | decide | omega) (by omega)).trans ?_; exact (Decidable.em (i = (3 * v304.toInt + 12))).elim (fun k83_ => by refine (eA_eqT hI313.1 ka_233 k83_ (by first | decide | omega) (by first | decide | omega)).trans ?_; (first | (rfl) | (omega))) (fun k83_ => by refine (eA_neT hI313.1 ka_233 k83_ (by first | decide | omega) (by omega)).trans ?_; exact (Decidable.em (i = (3 * v304.toInt + 11))).elim (fun k84_ => by refine (eA_eqT hI308.1 ka_233 k84_ (by first | decide | omega) (by first | decide | omega)).trans ?_; (first | (rfl) | (omega))) (fun k84_ => by refine (eA_neT hI308.1 ka_233 k84_ (by first | decide | omega) (by omega)).trans ?_; exact (Decidable.em (i = (3 * v304.toInt + 10))).elim (fun k85_ => by refine (eA_eqT hI173.1 ka_233 k85_ (by first | decide | omega) (by first | decide | omega)).trans ?_; (first | (rfl) | (omega))) (fun k85_ => by refine (eA_neT hI173.1 ka_233 k85_ (by first | decide | omega) (by omega)).trans ?_; refine (eA_ti ((gA_sI))).trans ?_; (first | rfl | exact eA_ix (by omega) | omega)))))) (fun k81_ => by refine Eq.trans ?_ (if_neg k81_).symm; exact (Decidable.em (((-1 ≤ a1.toInt ∧ a1.toInt ≤ 11 ∧ 1 ≤ a2.toInt ∧ a2.toInt ≤ 9 ∧ 0 ≤ a3.toInt ∧ a3.toInt ≤ 99) ∧ (eA g0 233 0).toInt < 12) ∧ i = 10 + 3 * (eA g0 233 0).toInt + 1)).elim (fun k86_ => by refine Eq.trans ?_ (if_pos k86_).symm; refine (eA_ti ((hF326.2.1 233 (by decide)))).trans ?_; exact (Decidable.em (i = 0)).elim (fun k87_ => by refine (eA_eqT hI318.1 ka_233 k87_ (by first | decide | omega) (by first | decide | omega)).trans ?_; (first | (rfl) | (omega))) (fun k87_ => by refine (eA_neT hI318.1 ka_233 k87_ (by first | decide | omega) (by omega)).trans ?_; exact (Decidable.em (i = (3 * v304.toInt + 12))).elim (fun k88_ => by refine (eA_eqT hI313.1 ka_233 k88_ (by first | decide | omega) (by first | decide | omega)).trans ?_; (first | (rfl) | (omega))) (fun k88_ => by refine (eA_neT hI313.1 ka_233 k88_ (by first | decide | omega) (by omega)).trans ?_; exact (Decidable.em (i = (3 * v304.toInt + 11))).elim (fun k89_ => by refine (eA_eqT hI308.1 ka_233 k89_ (by first | decide | omega) (by first | decide | omega)).trans ?_; (first | (rfl) | (omega))) (fun k89_ => by refine (eA_neT hI308.1 ka_233 k89_ (by first | decide | omega) (by omega)).trans ?_; exact (Decidable.em (i = (3 * v304.toInt + 10))).elim (fun k90_ => by refine (eA_eqT hI173.1 ka_233 k90_ (by first | decide | omega) (by first | decide | omega)).trans ?_; (first | (rfl) | (omega))) (fun k90_ => by refine (eA_neT hI173.1 ka_233 k90_ (by first | decide | omega) (by omega)).trans ?_; refine (eA_ti ((gA_sI))).trans ?_; (first | rfl | exact eA_ix (by omega) | omega)))))) (fun k86_ => by refine Eq.trans ?_ (if_neg k86_).symm; exact (Decidable.em (((-1 ≤ a1.toInt ∧ a1.toInt ≤ 11 ∧ 1 ≤ a2.toInt ∧ a2.toInt ≤ 9 ∧ 0 ≤ a3.toInt ∧ a3.toInt ≤ 99) ∧ (eA g0 233 0).toInt < 12) ∧ i = 10 + 3 * (eA g0 233 0).toInt + 2)).elim (fun k91_ => by refine Eq.trans ?_ (if_pos k91_).symm; refine (eA_ti ((hF326.2.1 233 (by decide)))).trans ?_; exact (Decidable.em (i = 0)).elim (fun k92_ => by refine (eA_eqT hI318.1 ka_233 k92_ (by first | decide | omega) (by first | decide | omega)).trans ?_; (first | (rfl) | (omega))) (fun k92_ => by refine (eA_neT hI318.1 ka_233 k92_ (by first | decide | omega) (by omega)).trans ?_; exact (Decidable.em (i = (3 * v304.toInt + 12))).elim (fun k93_ => by refine (eA_eqT hI313.1 ka_233 k93_ (by first | decide | omega) (by first | decide | omega)).trans ?_; (first | (rfl) | (omega))) (fun k93_ => by refine (eA_neT hI313.1 ka_233 k93_ (by first | decide | omega) (by omega)).trans ?_; exact (Decidable.em (i = (3 * v304.toInt + 11))).elim (fun k94_ => by refine (eA_eqT hI308.1 ka_233 k94_ (by first | decide | omega) (by first | decide | omega)).trans ?_; (first | (rfl) | (omega))) (fun k94_ => by refine (eA_neT hI308.1 ka_233 k94_ (by first | decide | omega) (by omega)).trans ?_; exact (Decidable.em (i = (3 * v304.toInt + 10))).elim (fun k95_ => by refine (eA_eqT hI173.1 ka_233 k95_ (by first | decide | omega) (by first | decide | omega)).trans ?_; (first | (rfl) | (omega))) (fun k95_ => by refine (eA_neT hI173.1 ka_233 k95_ (by first | decide | omega) (by omega)).trans ?_; refine (eA_ti ((gA_sI))).trans ?_; (first | rfl | exact eA_ix (by omega) | omega)))))) (fun k91_ => by refine Eq.trans ?_ (if_neg k91_).symm; refine (eA_ti ((hF326.2.1 233 (by decide)))).trans ?_; exact (Decidable.em (i = 0)).elim (fun k96_ => by refine (eA_eqT hI318.1 ka_233 k96_ (by first | decide | omega) (by first | decide | omega)).trans ?_; (first | (rfl) | (omega))) (fun k96_ => by refine (eA_neT hI318.1 ka_233 k96_ (by first | decide | omega) (by omega)).trans ?_; exact (Decidable.em (i = (3 * v304.toInt + 12))).elim (fun k97_ => by refine (eA_eqT hI313.1 ka_233 k97_ (by first | decide | omega) (by first | decide | omega)).trans ?_; (first | (rfl) | (omega))) (fun k97_ => by refine (eA_neT hI313.1 ka_233 k97_ (by first | decide | omega) (by omega)).trans ?_; exact (Decidable.em (i = (3 * v304.toInt + 11))).elim (fun k98_ => by refine (eA_eqT hI308.1 ka_233 k98_ (by first | decide | omega) (by first | decide | omega)).trans ?_; (first | (rfl) | (omega))) (fun k98_ => by refine (eA_neT hI308.1 ka_233 k98_ (by first | decide | omega) (by omega)).trans ?_; exact (Decidable.em (i = (3 * v304.toInt + 10))).elim (fun k99_ => by refine (eA_eqT hI173.1 ka_233 k99_ (by first | decide | omega) (by first | decide | omega)).trans ?_; (first | (rfl) | (omega))) (fun k99_ => by refine (eA_neT hI173.1 ka_233 k99_ (by first | decide | omega) (by omega)).trans ?_; refine (eA_ti ((gA_sI))).trans ?_; (first | rfl | exact eA_ix (by omega) | omega)))))))))⟩⟩
              · have c305_ : v304.toInt = 12 := en_i_ne_f c305
                refine At.enter rfl ?_
                refine r_aload_n rfl ?_
                refine r_bipush (-5) rfl ?_
                refine r_callV 56 rfl [.ref 231, .int (-5)] [] (Nat.le_of_ble_eq_true rfl) rfl (T_X11_tell_231 _ hI173 (-5) (by decide)) ?_
                rintro _ _ ⟨g342, rfl, hI343, hF344, v345, rfl, hr346⟩
                refine At.sti ?_
                have hF347 := Fr.tr hF174 hF344 rfl rfl
                have zv348 : ((-5) : Int32).toInt = (-5) := rfl
                refine At.enter rfl ?_
                refine r_ireti ?_
                have x349 := HI.eqA hI343 (p := 233) (j := 0) ((((eA_c (hF344.2.1 233 (by decide))).trans (eA_c gA_sI)).trans hv304))
                obtain ⟨v350, hv350⟩ : ∃ v, eA g0 233 4 = v := ⟨_, rfl⟩
                have wv350 := HI.t4 hI0
                rw [hv350] at wv350
                have tv350 := congrArg Int32.toInt hv350
                have x351 := HI.eqA hI343 (p := 233) (j := 4) ((((eA_c (hF344.2.1 233 (by decide))).trans (eA_c gA_sI)).trans hv350))
                obtain ⟨v352, hv352⟩ : ∃ v, eA g0 233 5 = v := ⟨_, rfl⟩
                have wv352 := HI.t5 hI0
                rw [hv352] at wv352
                have tv352 := congrArg Int32.toInt hv352
                have x353 := HI.eqA hI343 (p := 233) (j := 5) ((((eA_c (hF344.2.1 233 (by decide))).trans (eA_c gA_sI)).trans hv352))
                obtain ⟨v354, hv354⟩ : ∃ v, eA g0 233 6 = v := ⟨_, rfl⟩
                have wv354 := HI.t6 hI0
                rw [hv354] at wv354
                have tv354 := congrArg Int32.toInt hv354
                have x355 := HI.eqA hI343 (p := 233) (j := 6) ((((eA_c (hF344.2.1 233 (by decide))).trans (eA_c gA_sI)).trans hv354))
                have x356 := HI.eqA hI0 (p := 233) (j := 0) (hv304)
                have x357 := HI.eqA hI0 (p := 233) (j := 4) (hv350)
                have x358 := HI.eqA hI0 (p := 233) (j := 5) (hv352)
                have x359 := HI.eqA hI0 (p := 233) (j := 6) (hv354)
                have x360 := HI.eqA hI0 (p := 233) (j := 0) (hv304)
                exact ⟨_, rfl, hI343, hF347, _, rfl, by omega, ⟨⟨by omega, by omega, by omega, by omega⟩, (by intro i i0 i1; refine Eq.trans ?_ (if_neg (show ¬ (((-1 ≤ a1.toInt ∧ a1.toInt ≤ 11 ∧ 1 ≤ a2.toInt ∧ a2.toInt ≤ 9 ∧ 0 ≤ a3.toInt ∧ a3.toInt ≤ 99) ∧ (eA g0 233 0).toInt < 12) ∧ i = 10 + 3 * (eA g0 233 0).toInt + 0) from by omega)).symm; refine Eq.trans ?_ (if_neg (show ¬ (((-1 ≤ a1.toInt ∧ a1.toInt ≤ 11 ∧ 1 ≤ a2.toInt ∧ a2.toInt ≤ 9 ∧ 0 ≤ a3.toInt ∧ a3.toInt ≤ 99) ∧ (eA g0 233 0).toInt < 12) ∧ i = 10 + 3 * (eA g0 233 0).toInt + 1) from by omega)).symm; refine Eq.trans ?_ (if_neg (show ¬ (((-1 ≤ a1.toInt ∧ a1.toInt ≤ 11 ∧ 1 ≤ a2.toInt ∧ a2.toInt ≤ 9 ∧ 0 ≤ a3.toInt ∧ a3.toInt ≤ 99) ∧ (eA g0 233 0).toInt < 12) ∧ i = 10 + 3 * (eA g0 233 0).toInt + 2) from by omega)).symm; refine (eA_ti (((hF344.2.1 233 (by decide)).trans (gA_sI)))).trans ?_; (first | rfl | exact eA_ix (by omega) | omega))⟩⟩

def F_X11_put_231 : List (Nat × Nat) := [(231, 0), (231, 1)]
def A_X11_put_231 : List Nat := [232, 233]
set_option maxRecDepth 100000 in
set_option maxHeartbeats 4000000 in
theorem T_X11_put_231 (d : Nat) {N : Nat} {g0 : List en_E} (hI0 : HI g0) (a1 : Int32) (a2 : Int32) (a3 : Int32) : Ev (d + 3) 173 [.ref 231, .int a1, .int a2, .int a3] (g0, N) (fun w h' => ∃ g', h' = (g', N) ∧ HI g' ∧ Fr F_X11_put_231 A_X11_put_231 g0 g' ∧ ∃ r : Int32, w = some (.int r) ∧ ((-2) ≤ r.toInt ∧ r.toInt ≤ 99) ∧ ((((eA g' 233 0).toInt = (eA g0 233 0).toInt ∧ (eA g' 233 4).toInt = (eA g0 233 4).toInt ∧ (eA g' 233 5).toInt = (eA g0 233 5).toInt ∧ (eA g' 233 6).toInt = (eA g0 233 6).toInt) ∧ (¬ ((a2.toInt = 0 ∧ -1 ≤ a3.toInt ∧ a3.toInt ≤ 11) ∨ (a2.toInt = 1 ∧ 1 ≤ a3.toInt ∧ a3.toInt ≤ 9) ∨ (a2.toInt = 2 ∧ 0 ≤ a3.toInt ∧ a3.toInt ≤ 99)) → r.toInt = -1) ∧ (((a2.toInt = 0 ∧ -1 ≤ a3.toInt ∧ a3.toInt ≤ 11) ∨ (a2.toInt = 1 ∧ 1 ≤ a3.toInt ∧ a3.toInt ≤ 9) ∨ (a2.toInt = 2 ∧ 0 ≤ a3.toInt ∧ a3.toInt ≤ 99)) ∧ ¬ (0 ≤ a1.toInt ∧ a1.toInt < (eA g0 233 0).toInt) → r.toInt = -2) ∧ (((a2.toInt = 0 ∧ -1 ≤ a3.toInt ∧ a3.toInt ≤ 11) ∨ (a2.toInt = 1 ∧ 1 ≤ a3.toInt ∧ a3.toInt ≤ 9) ∨ (a2.toInt = 2 ∧ 0 ≤ a3.toInt ∧ a3.toInt ≤ 99)) ∧ 0 ≤ a1.toInt ∧ a1.toInt < (eA g0 233 0).toInt → r.toInt = (eA g0 233 (10 + 3 * a1.toInt + a2.toInt)).toInt)) ∧ (∀ i : Int, 10 ≤ i → i < 110 → (eA g' 233 (i)).toInt = if (((a2.toInt = 0 ∧ -1 ≤ a3.toInt ∧ a3.toInt ≤ 11) ∨ (a2.toInt = 1 ∧ 1 ≤ a3.toInt ∧ a3.toInt ≤ 9) ∨ (a2.toInt = 2 ∧ 0 ≤ a3.toInt ∧ a3.toInt ≤ 99)) ∧ 0 ≤ a1.toInt ∧ a1.toInt < (eA g0 233 0).toInt) ∧ i = 10 + 3 * a1.toInt + a2.toInt then a3.toInt else (eA g0 233 (i)).toInt))) := by
  have hF0 : Fr F_X11_put_231 A_X11_put_231 g0 g0 := Fr.rf
  refine Ev.mk rfl rfl ⟨Nat.le_of_ble_eq_true rfl, Or.inr (q_rc hI0.1 kx_231 rfl)⟩ ?_
  show At _ none _ _ (0, [(0, .ref 231), (1, .int a1), (2, .int a2), (3, .int a3)], [], (_, _)) _
  refine At.enter rfl ?_
  refine r_aload_n rfl ?_
  refine r_iconst 0 rfl ?_
  refine q_putI (Sh.int hI0.1 kx_231 rfl) rfl ?_
  have hI293 := HI.wI0 hI0 kx_231 rfl (p := 231) (b := 0) (v := 0) rfl
  have hF294 := Fr.wI (p := 231) (b := 0) (v := 0) hF0 rfl
  refine r_iload_n rfl ?_
  refine r_iload_n rfl ?_
  refine q_inlS 10 rfl [.int a2, .int a3] [] (Nat.le_of_ble_eq_true rfl) rfl ?_
  refine Ev.mk rfl rfl ⟨Nat.le_of_ble_eq_true rfl, Or.inl rfl⟩ ?_
  show At _ none _ _ (0, [(0, .int a2), (1, .int a3)], [], (_, _)) _
  refine At.enter rfl ?_
  refine r_iload_n rfl ?_
  by_cases c295_0 : a2.toInt = 0
  · refine r_tsw 28 (by rw [c295_0]; rfl) ?_
    refine At.enter rfl ?_
    refine r_iload_n rfl ?_
    refine q_i2l (fun v296 hv296 => ?_)
    refine r_ldc2 (-1) rfl ?_
    refine r_ldc2 11 rfl ?_
    refine q_inlS 39 rfl [.long v296, .long (-1), .long 11] [] (Nat.le_of_ble_eq_true rfl) rfl ?_
    refine Ev.mk rfl rfl ⟨Nat.le_of_ble_eq_true rfl, Or.inl rfl⟩ ?_
    show At _ none _ _ (0, [(0, .long v296), (2, .long (-1)), (4, .long 11)], [], (_, _)) _
    refine At.enter rfl ?_
    refine r_lload_n rfl ?_
    refine r_lload_n rfl ?_
    refine r_lcmp _ rfl ?_
    refine r_ifs 6 rfl (fun c297 => ?_) (fun c297 => ?_)
    · have c297_ : v296.toInt < (-1) := en_j_lt_t c297
      refine At.enter rfl ?_
      refine r_iconst 0 rfl ?_
      refine Ar.fall 18 rfl ?_
      refine At.enter rfl ?_
      refine q_iretz (by decide) ?_
      refine At.enter rfl ?_
      refine q_iretz (by decide) ?_
      refine At.enter rfl ?_
      refine r_iff 13 rfl (by decide) ?_
      refine At.enter rfl ?_
      refine r_aload_n rfl ?_
      refine r_iconst (-1) rfl ?_
      refine r_callV 18 rfl [.ref 231, .int (-1)] [] (Nat.le_of_ble_eq_true rfl) rfl (T_X11_tell_231 _ hI293 (-1) (by decide)) ?_
      rintro _ _ ⟨g298, rfl, hI299, hF300, v301, rfl, hr302⟩
      refine At.sti ?_
      have hF303 := Fr.tr hF294 hF300 rfl rfl
      have zv304 : ((-1) : Int32).toInt = (-1) := rfl
      refine At.enter rfl ?_
      refine r_ireti ?_
      obtain ⟨v305, hv305⟩ : ∃ v, eA g0 233 0 = v := ⟨_, rfl⟩
      have tv305 := congrArg Int32.toInt hv305
      have wv305 := HI.t0 hI0
      rw [hv305] at wv305
      have tv305 := congrArg Int32.toInt hv305
      have x306 := HI.eqA hI0 (p := 233) (j := 0) (hv305)
      have y307 := congrArg Int32.toInt hv305
      have x308 := HI.eqA hI299 (p := 233) (j := 0) ((((eA_c (hF300.2.1 233 (by decide))).trans (eA_c gA_sI)).trans hv305))
      obtain ⟨v309, hv309⟩ : ∃ v, eA g0 233 4 = v := ⟨_, rfl⟩
      have wv309 := HI.t4 hI0
      rw [hv309] at wv309
      have tv309 := congrArg Int32.toInt hv309
      have x310 := HI.eqA hI299 (p := 233) (j := 4) ((((eA_c (hF300.2.1 233 (by decide))).trans (eA_c gA_sI)).trans hv309))
      obtain ⟨v311, hv311⟩ : ∃ v, eA g0 233 5 = v := ⟨_, rfl⟩
      have wv311 := HI.t5 hI0
      rw [hv311] at wv311
      have tv311 := congrArg Int32.toInt hv311
      have x312 := HI.eqA hI299 (p := 233) (j := 5) ((((eA_c (hF300.2.1 233 (by decide))).trans (eA_c gA_sI)).trans hv311))
      obtain ⟨v313, hv313⟩ : ∃ v, eA g0 233 6 = v := ⟨_, rfl⟩
      have wv313 := HI.t6 hI0
      rw [hv313] at wv313
      have tv313 := congrArg Int32.toInt hv313
      have x314 := HI.eqA hI299 (p := 233) (j := 6) ((((eA_c (hF300.2.1 233 (by decide))).trans (eA_c gA_sI)).trans hv313))
      have x315 := HI.eqA hI0 (p := 233) (j := 0) (hv305)
      have x316 := HI.eqA hI0 (p := 233) (j := 4) (hv309)
      have x317 := HI.eqA hI0 (p := 233) (j := 5) (hv311)
      have x318 := HI.eqA hI0 (p := 233) (j := 6) (hv313)
      have x319 := HI.eqA hI0 (p := 233) (j := 0) (hv305)
      exact ⟨_, rfl, hI299, hF303, _, rfl, by omega, ⟨⟨⟨by omega, by omega, by omega, by omega⟩, by omega, by omega, by omega⟩, (by intro i i0 i1; refine Eq.trans ?_ (if_neg (show ¬ ((((a2.toInt = 0 ∧ -1 ≤ a3.toInt ∧ a3.toInt ≤ 11) ∨ (a2.toInt = 1 ∧ 1 ≤ a3.toInt ∧ a3.toInt ≤ 9) ∨ (a2.toInt = 2 ∧ 0 ≤ a3.toInt ∧ a3.toInt ≤ 99)) ∧ 0 ≤ a1.toInt ∧ a1.toInt < (eA g0 233 0).toInt) ∧ i = 10 + 3 * a1.toInt + a2.toInt) from by omega)).symm; refine (eA_ti (((hF300.2.1 233 (by decide)).trans (gA_sI)))).trans ?_; (first | rfl | exact eA_ix (by omega) | omega))⟩⟩
    · have c297_ : v296.toInt ≥ (-1) := en_j_lt_f c297
      refine At.enter rfl ?_
      refine r_lload_n rfl ?_
      refine r_lload rfl ?_
      refine r_lcmp _ rfl ?_
      refine r_ifs 13 rfl (fun c320 => ?_) (fun c320 => ?_)
      · have c320_ : v296.toInt > 11 := en_j_gt_t c320
        refine At.enter rfl ?_
        refine r_iconst 0 rfl ?_
        refine Ar.fall 18 rfl ?_
        refine At.enter rfl ?_
        refine q_iretz (by decide) ?_
        refine At.enter rfl ?_
        refine q_iretz (by decide) ?_
        refine At.enter rfl ?_
        refine r_iff 13 rfl (by decide) ?_
        refine At.enter rfl ?_
        refine r_aload_n rfl ?_
        refine r_iconst (-1) rfl ?_
        refine r_callV 18 rfl [.ref 231, .int (-1)] [] (Nat.le_of_ble_eq_true rfl) rfl (T_X11_tell_231 _ hI293 (-1) (by decide)) ?_
        rintro _ _ ⟨g321, rfl, hI322, hF323, v324, rfl, hr325⟩
        refine At.sti ?_
        have hF326 := Fr.tr hF294 hF323 rfl rfl
        have zv327 : ((-1) : Int32).toInt = (-1) := rfl
        refine At.enter rfl ?_
        refine r_ireti ?_
        obtain ⟨v328, hv328⟩ : ∃ v, eA g0 233 0 = v := ⟨_, rfl⟩
        have tv328 := congrArg Int32.toInt hv328
        have wv328 := HI.t0 hI0
        rw [hv328] at wv328
        have tv328 := congrArg Int32.toInt hv328
        have x329 := HI.eqA hI0 (p := 233) (j := 0) (hv328)
        have y330 := congrArg Int32.toInt hv328
        have x331 := HI.eqA hI322 (p := 233) (j := 0) ((((eA_c (hF323.2.1 233 (by decide))).trans (eA_c gA_sI)).trans hv328))
        obtain ⟨v332, hv332⟩ : ∃ v, eA g0 233 4 = v := ⟨_, rfl⟩
        have wv332 := HI.t4 hI0
        rw [hv332] at wv332
        have tv332 := congrArg Int32.toInt hv332
        have x333 := HI.eqA hI322 (p := 233) (j := 4) ((((eA_c (hF323.2.1 233 (by decide))).trans (eA_c gA_sI)).trans hv332))
        obtain ⟨v334, hv334⟩ : ∃ v, eA g0 233 5 = v := ⟨_, rfl⟩
        have wv334 := HI.t5 hI0
        rw [hv334] at wv334
        have tv334 := congrArg Int32.toInt hv334
        have x335 := HI.eqA hI322 (p := 233) (j := 5) ((((eA_c (hF323.2.1 233 (by decide))).trans (eA_c gA_sI)).trans hv334))
        obtain ⟨v336, hv336⟩ : ∃ v, eA g0 233 6 = v := ⟨_, rfl⟩
        have wv336 := HI.t6 hI0
        rw [hv336] at wv336
        have tv336 := congrArg Int32.toInt hv336
        have x337 := HI.eqA hI322 (p := 233) (j := 6) ((((eA_c (hF323.2.1 233 (by decide))).trans (eA_c gA_sI)).trans hv336))
        have x338 := HI.eqA hI0 (p := 233) (j := 0) (hv328)
        have x339 := HI.eqA hI0 (p := 233) (j := 4) (hv332)
        have x340 := HI.eqA hI0 (p := 233) (j := 5) (hv334)
        have x341 := HI.eqA hI0 (p := 233) (j := 6) (hv336)
        have x342 := HI.eqA hI0 (p := 233) (j := 0) (hv328)
        exact ⟨_, rfl, hI322, hF326, _, rfl, by omega, ⟨⟨⟨by omega, by omega, by omega, by omega⟩, by omega, by omega, by omega⟩, (by intro i i0 i1; refine Eq.trans ?_ (if_neg (show ¬ ((((a2.toInt = 0 ∧ -1 ≤ a3.toInt ∧ a3.toInt ≤ 11) ∨ (a2.toInt = 1 ∧ 1 ≤ a3.toInt ∧ a3.toInt ≤ 9) ∨ (a2.toInt = 2 ∧ 0 ≤ a3.toInt ∧ a3.toInt ≤ 99)) ∧ 0 ≤ a1.toInt ∧ a1.toInt < (eA g0 233 0).toInt) ∧ i = 10 + 3 * a1.toInt + a2.toInt) from by omega)).symm; refine (eA_ti (((hF323.2.1 233 (by decide)).trans (gA_sI)))).trans ?_; (first | rfl | exact eA_ix (by omega) | omega))⟩⟩
      · have c320_ : v296.toInt ≤ 11 := en_j_gt_f c320
        refine At.enter rfl ?_
        refine r_iconst 1 rfl ?_
        refine r_goto ?_
        refine At.enter rfl ?_
        refine q_iretz (by decide) ?_
        refine At.enter rfl ?_
        refine q_iretz (by decide) ?_
        refine At.enter rfl ?_
        refine r_ift (by decide) ?_
        refine At.enter rfl ?_
        refine r_aload_n rfl ?_
        refine r_iload_n rfl ?_
        refine q_inlV 24 rfl [.ref 231, .int a1] [] (Nat.le_of_ble_eq_true rfl) rfl ?_
        refine Ev.mk rfl rfl ⟨Nat.le_of_ble_eq_true rfl, Or.inr (q_rc hI293.1 kx_231 rfl)⟩ ?_
        show At _ none _ _ (0, [(0, .ref 231), (1, .int a1)], [], (_, _)) _
        refine At.enter rfl ?_
        refine r_iload_n rfl ?_
        refine q_i2l (fun v343 hv343 => ?_)
        refine r_lconst 0 rfl ?_
        refine r_aload_n rfl ?_
        refine q_getR (Sh.ref hI293.1 kx_231 rfl) ?_
        refine r_iconst 0 rfl ?_
        obtain ⟨v344, hv344⟩ : ∃ v, eA g0 233 0 = v := ⟨_, rfl⟩
        have tv344 := congrArg Int32.toInt hv344
        have wv344 := HI.t0 hI0
        rw [hv344] at wv344
        refine q_iald (Sh.arr hI293.1 ka_233) 0 rfl (by decide) v344 ((eA_c (gA_sI)).trans hv344) ?_
        refine q_i2l (fun v345 hv345 => ?_)
        refine r_lconst 1 rfl ?_
        refine q_lsub (v345.toInt - 1) rfl (by omega) (fun v346 hv346 => ?_)
        refine q_inlS 15 rfl [.long v343, .long 0, .long v346] [] (Nat.le_of_ble_eq_true rfl) rfl ?_
        refine Ev.mk rfl rfl ⟨Nat.le_of_ble_eq_true rfl, Or.inl rfl⟩ ?_
        show At _ none _ _ (0, [(0, .long v343), (2, .long 0), (4, .long v346)], [], (_, _)) _
        refine At.enter rfl ?_
        refine r_lload_n rfl ?_
        refine r_lload_n rfl ?_
        refine r_lcmp _ rfl ?_
        refine r_ifs 6 rfl (fun c347 => ?_) (fun c347 => ?_)
        · have c347_ : v343.toInt < 0 := en_j_lt_t c347
          refine At.enter rfl ?_
          refine r_iconst 0 rfl ?_
          refine Ar.fall 18 rfl ?_
          refine At.enter rfl ?_
          refine q_iretz (by decide) ?_
          refine At.enter rfl ?_
          refine q_iretz (by decide) ?_
          refine At.enter rfl ?_
          refine r_ift (by decide) ?_
          refine At.enter rfl ?_
          refine r_aload_n rfl ?_
          refine r_bipush (-2) rfl ?_
          refine r_callV 49 rfl [.ref 231, .int (-2)] [] (Nat.le_of_ble_eq_true rfl) rfl (T_X11_tell_231 _ hI293 (-2) (by decide)) ?_
          rintro _ _ ⟨g348, rfl, hI349, hF350, v351, rfl, hr352⟩
          refine At.sti ?_
          have hF353 := Fr.tr hF294 hF350 rfl rfl
          have zv354 : ((-2) : Int32).toInt = (-2) := rfl
          refine At.enter rfl ?_
          refine r_ireti ?_
          have x355 := HI.eqA hI0 (p := 233) (j := 0) (hv344)
          have y356 := congrArg Int32.toInt hv344
          have x357 := HI.eqA hI349 (p := 233) (j := 0) ((((eA_c (hF350.2.1 233 (by decide))).trans (eA_c gA_sI)).trans hv344))
          obtain ⟨v358, hv358⟩ : ∃ v, eA g0 233 4 = v := ⟨_, rfl⟩
          have wv358 := HI.t4 hI0
          rw [hv358] at wv358
          have tv358 := congrArg Int32.toInt hv358
          have x359 := HI.eqA hI349 (p := 233) (j := 4) ((((eA_c (hF350.2.1 233 (by decide))).trans (eA_c gA_sI)).trans hv358))
          obtain ⟨v360, hv360⟩ : ∃ v, eA g0 233 5 = v := ⟨_, rfl⟩
          have wv360 := HI.t5 hI0
          rw [hv360] at wv360
          have tv360 := congrArg Int32.toInt hv360
          have x361 := HI.eqA hI349 (p := 233) (j := 5) ((((eA_c (hF350.2.1 233 (by decide))).trans (eA_c gA_sI)).trans hv360))
          obtain ⟨v362, hv362⟩ : ∃ v, eA g0 233 6 = v := ⟨_, rfl⟩
          have wv362 := HI.t6 hI0
          rw [hv362] at wv362
          have tv362 := congrArg Int32.toInt hv362
          have x363 := HI.eqA hI349 (p := 233) (j := 6) ((((eA_c (hF350.2.1 233 (by decide))).trans (eA_c gA_sI)).trans hv362))
          have x364 := HI.eqA hI0 (p := 233) (j := 0) (hv344)
          have x365 := HI.eqA hI0 (p := 233) (j := 4) (hv358)
          have x366 := HI.eqA hI0 (p := 233) (j := 5) (hv360)
          have x367 := HI.eqA hI0 (p := 233) (j := 6) (hv362)
          have x368 := HI.eqA hI0 (p := 233) (j := 0) (hv344)
          exact ⟨_, rfl, hI349, hF353, _, rfl, by omega, ⟨⟨⟨by omega, by omega, by omega, by omega⟩, by omega, by omega, by omega⟩, (by intro i i0 i1; refine Eq.trans ?_ (if_neg (show ¬ ((((a2.toInt = 0 ∧ -1 ≤ a3.toInt ∧ a3.toInt ≤ 11) ∨ (a2.toInt = 1 ∧ 1 ≤ a3.toInt ∧ a3.toInt ≤ 9) ∨ (a2.toInt = 2 ∧ 0 ≤ a3.toInt ∧ a3.toInt ≤ 99)) ∧ 0 ≤ a1.toInt ∧ a1.toInt < (eA g0 233 0).toInt) ∧ i = 10 + 3 * a1.toInt + a2.toInt) from by omega)).symm; refine (eA_ti (((hF350.2.1 233 (by decide)).trans (gA_sI)))).trans ?_; (first | rfl | exact eA_ix (by omega) | omega))⟩⟩
        · have c347_ : v343.toInt ≥ 0 := en_j_lt_f c347
          refine At.enter rfl ?_
          refine r_lload_n rfl ?_
          refine r_lload rfl ?_
          refine r_lcmp _ rfl ?_
          refine r_ifs 13 rfl (fun c369 => ?_) (fun c369 => ?_)
          · have c369_ : v343.toInt > v346.toInt := en_j_gt_t c369
            refine At.enter rfl ?_
            refine r_iconst 0 rfl ?_
            refine Ar.fall 18 rfl ?_
            refine At.enter rfl ?_
            refine q_iretz (by decide) ?_
            refine At.enter rfl ?_
            refine q_iretz (by decide) ?_
            refine At.enter rfl ?_
            refine r_ift (by decide) ?_
            refine At.enter rfl ?_
            refine r_aload_n rfl ?_
            refine r_bipush (-2) rfl ?_
            refine r_callV 49 rfl [.ref 231, .int (-2)] [] (Nat.le_of_ble_eq_true rfl) rfl (T_X11_tell_231 _ hI293 (-2) (by decide)) ?_
            rintro _ _ ⟨g370, rfl, hI371, hF372, v373, rfl, hr374⟩
            refine At.sti ?_
            have hF375 := Fr.tr hF294 hF372 rfl rfl
            have zv376 : ((-2) : Int32).toInt = (-2) := rfl
            refine At.enter rfl ?_
            refine r_ireti ?_
            have x377 := HI.eqA hI0 (p := 233) (j := 0) (hv344)
            have y378 := congrArg Int32.toInt hv344
            have x379 := HI.eqA hI371 (p := 233) (j := 0) ((((eA_c (hF372.2.1 233 (by decide))).trans (eA_c gA_sI)).trans hv344))
            obtain ⟨v380, hv380⟩ : ∃ v, eA g0 233 4 = v := ⟨_, rfl⟩
            have wv380 := HI.t4 hI0
            rw [hv380] at wv380
            have tv380 := congrArg Int32.toInt hv380
            have x381 := HI.eqA hI371 (p := 233) (j := 4) ((((eA_c (hF372.2.1 233 (by decide))).trans (eA_c gA_sI)).trans hv380))
            obtain ⟨v382, hv382⟩ : ∃ v, eA g0 233 5 = v := ⟨_, rfl⟩
            have wv382 := HI.t5 hI0
            rw [hv382] at wv382
            have tv382 := congrArg Int32.toInt hv382
            have x383 := HI.eqA hI371 (p := 233) (j := 5) ((((eA_c (hF372.2.1 233 (by decide))).trans (eA_c gA_sI)).trans hv382))
            obtain ⟨v384, hv384⟩ : ∃ v, eA g0 233 6 = v := ⟨_, rfl⟩
            have wv384 := HI.t6 hI0
            rw [hv384] at wv384
            have tv384 := congrArg Int32.toInt hv384
            have x385 := HI.eqA hI371 (p := 233) (j := 6) ((((eA_c (hF372.2.1 233 (by decide))).trans (eA_c gA_sI)).trans hv384))
            have x386 := HI.eqA hI0 (p := 233) (j := 0) (hv344)
            have x387 := HI.eqA hI0 (p := 233) (j := 4) (hv380)
            have x388 := HI.eqA hI0 (p := 233) (j := 5) (hv382)
            have x389 := HI.eqA hI0 (p := 233) (j := 6) (hv384)
            have x390 := HI.eqA hI0 (p := 233) (j := 0) (hv344)
            exact ⟨_, rfl, hI371, hF375, _, rfl, by omega, ⟨⟨⟨by omega, by omega, by omega, by omega⟩, by omega, by omega, by omega⟩, (by intro i i0 i1; refine Eq.trans ?_ (if_neg (show ¬ ((((a2.toInt = 0 ∧ -1 ≤ a3.toInt ∧ a3.toInt ≤ 11) ∨ (a2.toInt = 1 ∧ 1 ≤ a3.toInt ∧ a3.toInt ≤ 9) ∨ (a2.toInt = 2 ∧ 0 ≤ a3.toInt ∧ a3.toInt ≤ 99)) ∧ 0 ≤ a1.toInt ∧ a1.toInt < (eA g0 233 0).toInt) ∧ i = 10 + 3 * a1.toInt + a2.toInt) from by omega)).symm; refine (eA_ti (((hF372.2.1 233 (by decide)).trans (gA_sI)))).trans ?_; (first | rfl | exact eA_ix (by omega) | omega))⟩⟩
          · have c369_ : v343.toInt ≤ v346.toInt := en_j_gt_f c369
            refine At.enter rfl ?_
            refine r_iconst 1 rfl ?_
            refine r_goto ?_
            refine At.enter rfl ?_
            refine q_iretz (by decide) ?_
            refine At.enter rfl ?_
            refine q_iretz (by decide) ?_
            refine At.enter rfl ?_
            refine r_iff 27 rfl (by decide) ?_
            refine At.enter rfl ?_
            refine r_aload_n rfl ?_
            refine r_bipush 10 rfl ?_
            refine r_iconst 3 rfl ?_
            refine r_iload_n rfl ?_
            refine q_imul (3 * a1.toInt) rfl (by omega) (fun v391 hv391 => ?_)
            refine q_iadd (10 + v391.toInt) rfl (by omega) (fun v392 hv392 => ?_)
            refine r_iload_n rfl ?_
            refine q_iadd (v392.toInt + a2.toInt) rfl (by omega) (fun v393 hv393 => ?_)
            refine r_iload_n rfl ?_
            refine q_inlV 40 rfl [.ref 231, .int v393, .int a3] [] (Nat.le_of_ble_eq_true rfl) rfl ?_
            refine Ev.mk rfl rfl ⟨Nat.le_of_ble_eq_true rfl, Or.inr (q_rc hI293.1 kx_231 rfl)⟩ ?_
            show At _ none _ _ (0, [(0, .ref 231), (1, .int v393), (2, .int a3)], [], (_, _)) _
            refine At.enter rfl ?_
            refine r_aload_n rfl ?_
            refine q_getR (Sh.ref hI293.1 kx_231 rfl) ?_
            refine r_iload_n rfl ?_
            obtain ⟨v394, hv394⟩ : ∃ v, eA g0 233 (3 * a1.toInt + a2.toInt + 10) = v := ⟨_, rfl⟩
            have wv394 := HI.s0 hI0 (j := (3 * a1.toInt + a2.toInt + 10)) (a1.toInt) (by omega) (by omega)
            rw [hv394] at wv394
            refine q_iald (Sh.arr hI293.1 ka_233) (3 * a1.toInt + a2.toInt + 10) (by omega) (by omega) v394 ((eA_c (gA_sI)).trans hv394) ?_
            refine r_istore_n ([(3, .int v394), (0, .ref 231), (1, .int v393), (2, .int a3)]) rfl ?_
            refine r_aload_n rfl ?_
            refine q_getR (Sh.ref hI293.1 kx_231 rfl) ?_
            refine r_iload_n rfl ?_
            refine r_iload_n rfl ?_
            refine q_iast (Sh.arr hI293.1 ka_233) ((3 * a1.toInt + a2.toInt + 10)) (by omega) (by omega) ?_
            have hI395 := HI.ws hI293 (j := (3 * a1.toInt + a2.toInt + 10)) (v := a3) (a1.toInt) 0 (by omega) (by decide) (by omega) (by omega)
            have hF396 := Fr.wA (p := 233) (j := (3 * a1.toInt + a2.toInt + 10)) (v := a3) hF294 rfl
            refine r_aload_n rfl ?_
            refine r_iload_n rfl ?_
            refine q_inlV 19 rfl [.ref 231, .int v394] [] (Nat.le_of_ble_eq_true rfl) rfl ?_
            refine Ev.mk rfl rfl ⟨Nat.le_of_ble_eq_true rfl, Or.inr (q_rc hI395.1 kx_231 rfl)⟩ ?_
            show At _ none _ _ (0, [(0, .ref 231), (1, .int v394)], [], (_, _)) _
            refine At.enter rfl ?_
            refine r_aload_n rfl ?_
            refine r_iconst 0 rfl ?_
            refine q_putI (Sh.int hI395.1 kx_231 rfl) rfl ?_
            have hI397 := HI.wI0 hI395 kx_231 rfl (p := 231) (b := 1) (v := 0) rfl
            have hF398 := Fr.wI (p := 231) (b := 1) (v := 0) hF396 rfl
            refine r_iload_n rfl ?_
            refine q_ireti ?_
            refine At.enter rfl ?_
            refine q_ireti ?_
            refine At.enter rfl ?_
            refine r_goto ?_
            refine At.enter rfl ?_
            refine r_ireti ?_
            have x399 := HI.eqA hI0 (p := 233) (j := 0) (hv344)
            have y400 := congrArg Int32.toInt hv344
            have y401 := (eA_ix (g := g0) (p := 233) (show 10 + 3 * a1.toInt + a2.toInt = (3 * a1.toInt + a2.toInt + 10) from by omega)).trans (congrArg Int32.toInt hv394)
            have x402 := HI.eqA hI397 (p := 233) (j := 0) ((((eA_c gA_sI).trans ((eA_sA_ne hI293.1 ka_233 (by first | decide | omega) (by first | decide | omega) (by first | decide | omega)).trans (eA_c gA_sI))).trans hv344))
            obtain ⟨v403, hv403⟩ : ∃ v, eA g0 233 4 = v := ⟨_, rfl⟩
            have wv403 := HI.t4 hI0
            rw [hv403] at wv403
            have tv403 := congrArg Int32.toInt hv403
            have x404 := HI.eqA hI397 (p := 233) (j := 4) ((((eA_c gA_sI).trans ((eA_sA_ne hI293.1 ka_233 (by first | decide | omega) (by first | decide | omega) (by first | decide | omega)).trans (eA_c gA_sI))).trans hv403))
            obtain ⟨v405, hv405⟩ : ∃ v, eA g0 233 5 = v := ⟨_, rfl⟩
            have wv405 := HI.t5 hI0
            rw [hv405] at wv405
            have tv405 := congrArg Int32.toInt hv405
            have x406 := HI.eqA hI397 (p := 233) (j := 5) ((((eA_c gA_sI).trans ((eA_sA_ne hI293.1 ka_233 (by first | decide | omega) (by first | decide | omega) (by first | decide | omega)).trans (eA_c gA_sI))).trans hv405))
            obtain ⟨v407, hv407⟩ : ∃ v, eA g0 233 6 = v := ⟨_, rfl⟩
            have wv407 := HI.t6 hI0
            rw [hv407] at wv407
            have tv407 := congrArg Int32.toInt hv407
            have x408 := HI.eqA hI397 (p := 233) (j := 6) ((((eA_c gA_sI).trans ((eA_sA_ne hI293.1 ka_233 (by first | decide | omega) (by first | decide | omega) (by first | decide | omega)).trans (eA_c gA_sI))).trans hv407))
            have x409 := HI.eqA hI0 (p := 233) (j := 0) (hv344)
            have x410 := HI.eqA hI0 (p := 233) (j := 4) (hv403)
            have x411 := HI.eqA hI0 (p := 233) (j := 5) (hv405)
            have x412 := HI.eqA hI0 (p := 233) (j := 6) (hv407)
            have x413 := HI.eqA hI0 (p := 233) (j := 0) (hv344)
            exact ⟨_, rfl, hI397, hF398, _, rfl, by omega, ⟨⟨⟨by omega, by omega, by omega, by omega⟩, by omega, by omega, by omega⟩, (by intro i i0 i1; exact (Decidable.em ((((a2.toInt = 0 ∧ -1 ≤ a3.toInt ∧ a3.toInt ≤ 11) ∨ (a2.toInt = 1 ∧ 1 ≤ a3.toInt ∧ a3.toInt ≤ 9) ∨ (a2.toInt = 2 ∧ 0 ≤ a3.toInt ∧ a3.toInt ≤ 99)) ∧ 0 ≤ a1.toInt ∧ a1.toInt < (eA g0 233 0).toInt) ∧ i = 10 + 3 * a1.toInt + a2.toInt)).elim (fun k100_ => by refine Eq.trans ?_ (if_pos k100_).symm; refine (eA_ti ((gA_sI))).trans ?_; exact (Decidable.em (i = (3 * a1.toInt + a2.toInt + 10))).elim (fun k101_ => by refine (eA_eqT hI293.1 ka_233 k101_ (by first | decide | omega) (by first | decide | omega)).trans ?_; (first | (rfl) | (omega))) (fun k101_ => by refine (eA_neT hI293.1 ka_233 k101_ (by first | decide | omega) (by omega)).trans ?_; refine (eA_ti ((gA_sI))).trans ?_; (first | rfl | exact eA_ix (by omega) | omega))) (fun k100_ => by refine Eq.trans ?_ (if_neg k100_).symm; refine (eA_ti ((gA_sI))).trans ?_; exact (Decidable.em (i = (3 * a1.toInt + a2.toInt + 10))).elim (fun k102_ => by refine (eA_eqT hI293.1 ka_233 k102_ (by first | decide | omega) (by first | decide | omega)).trans ?_; (first | (rfl) | (omega))) (fun k102_ => by refine (eA_neT hI293.1 ka_233 k102_ (by first | decide | omega) (by omega)).trans ?_; refine (eA_ti ((gA_sI))).trans ?_; (first | rfl | exact eA_ix (by omega) | omega))))⟩⟩
  by_cases c295_1 : a2.toInt = 1
  · refine r_tsw 40 (by rw [c295_1]; rfl) ?_
    refine At.enter rfl ?_
    refine r_iload_n rfl ?_
    refine q_i2l (fun v414 hv414 => ?_)
    refine r_lconst 1 rfl ?_
    refine r_ldc2 9 rfl ?_
    refine q_inlS 49 rfl [.long v414, .long 1, .long 9] [] (Nat.le_of_ble_eq_true rfl) rfl ?_
    refine Ev.mk rfl rfl ⟨Nat.le_of_ble_eq_true rfl, Or.inl rfl⟩ ?_
    show At _ none _ _ (0, [(0, .long v414), (2, .long 1), (4, .long 9)], [], (_, _)) _
    refine At.enter rfl ?_
    refine r_lload_n rfl ?_
    refine r_lload_n rfl ?_
    refine r_lcmp _ rfl ?_
    refine r_ifs 6 rfl (fun c415 => ?_) (fun c415 => ?_)
    · have c415_ : v414.toInt < 1 := en_j_lt_t c415
      refine At.enter rfl ?_
      refine r_iconst 0 rfl ?_
      refine Ar.fall 18 rfl ?_
      refine At.enter rfl ?_
      refine q_iretz (by decide) ?_
      refine At.enter rfl ?_
      refine q_iretz (by decide) ?_
      refine At.enter rfl ?_
      refine r_iff 13 rfl (by decide) ?_
      refine At.enter rfl ?_
      refine r_aload_n rfl ?_
      refine r_iconst (-1) rfl ?_
      refine r_callV 18 rfl [.ref 231, .int (-1)] [] (Nat.le_of_ble_eq_true rfl) rfl (T_X11_tell_231 _ hI293 (-1) (by decide)) ?_
      rintro _ _ ⟨g416, rfl, hI417, hF418, v419, rfl, hr420⟩
      refine At.sti ?_
      have hF421 := Fr.tr hF294 hF418 rfl rfl
      have zv422 : ((-1) : Int32).toInt = (-1) := rfl
      refine At.enter rfl ?_
      refine r_ireti ?_
      obtain ⟨v423, hv423⟩ : ∃ v, eA g0 233 0 = v := ⟨_, rfl⟩
      have tv423 := congrArg Int32.toInt hv423
      have wv423 := HI.t0 hI0
      rw [hv423] at wv423
      have tv423 := congrArg Int32.toInt hv423
      have x424 := HI.eqA hI0 (p := 233) (j := 0) (hv423)
      have y425 := congrArg Int32.toInt hv423
      have x426 := HI.eqA hI417 (p := 233) (j := 0) ((((eA_c (hF418.2.1 233 (by decide))).trans (eA_c gA_sI)).trans hv423))
      obtain ⟨v427, hv427⟩ : ∃ v, eA g0 233 4 = v := ⟨_, rfl⟩
      have wv427 := HI.t4 hI0
      rw [hv427] at wv427
      have tv427 := congrArg Int32.toInt hv427
      have x428 := HI.eqA hI417 (p := 233) (j := 4) ((((eA_c (hF418.2.1 233 (by decide))).trans (eA_c gA_sI)).trans hv427))
      obtain ⟨v429, hv429⟩ : ∃ v, eA g0 233 5 = v := ⟨_, rfl⟩
      have wv429 := HI.t5 hI0
      rw [hv429] at wv429
      have tv429 := congrArg Int32.toInt hv429
      have x430 := HI.eqA hI417 (p := 233) (j := 5) ((((eA_c (hF418.2.1 233 (by decide))).trans (eA_c gA_sI)).trans hv429))
      obtain ⟨v431, hv431⟩ : ∃ v, eA g0 233 6 = v := ⟨_, rfl⟩
      have wv431 := HI.t6 hI0
      rw [hv431] at wv431
      have tv431 := congrArg Int32.toInt hv431
      have x432 := HI.eqA hI417 (p := 233) (j := 6) ((((eA_c (hF418.2.1 233 (by decide))).trans (eA_c gA_sI)).trans hv431))
      have x433 := HI.eqA hI0 (p := 233) (j := 0) (hv423)
      have x434 := HI.eqA hI0 (p := 233) (j := 4) (hv427)
      have x435 := HI.eqA hI0 (p := 233) (j := 5) (hv429)
      have x436 := HI.eqA hI0 (p := 233) (j := 6) (hv431)
      have x437 := HI.eqA hI0 (p := 233) (j := 0) (hv423)
      exact ⟨_, rfl, hI417, hF421, _, rfl, by omega, ⟨⟨⟨by omega, by omega, by omega, by omega⟩, by omega, by omega, by omega⟩, (by intro i i0 i1; refine Eq.trans ?_ (if_neg (show ¬ ((((a2.toInt = 0 ∧ -1 ≤ a3.toInt ∧ a3.toInt ≤ 11) ∨ (a2.toInt = 1 ∧ 1 ≤ a3.toInt ∧ a3.toInt ≤ 9) ∨ (a2.toInt = 2 ∧ 0 ≤ a3.toInt ∧ a3.toInt ≤ 99)) ∧ 0 ≤ a1.toInt ∧ a1.toInt < (eA g0 233 0).toInt) ∧ i = 10 + 3 * a1.toInt + a2.toInt) from by omega)).symm; refine (eA_ti (((hF418.2.1 233 (by decide)).trans (gA_sI)))).trans ?_; (first | rfl | exact eA_ix (by omega) | omega))⟩⟩
    · have c415_ : v414.toInt ≥ 1 := en_j_lt_f c415
      refine At.enter rfl ?_
      refine r_lload_n rfl ?_
      refine r_lload rfl ?_
      refine r_lcmp _ rfl ?_
      refine r_ifs 13 rfl (fun c438 => ?_) (fun c438 => ?_)
      · have c438_ : v414.toInt > 9 := en_j_gt_t c438
        refine At.enter rfl ?_
        refine r_iconst 0 rfl ?_
        refine Ar.fall 18 rfl ?_
        refine At.enter rfl ?_
        refine q_iretz (by decide) ?_
        refine At.enter rfl ?_
        refine q_iretz (by decide) ?_
        refine At.enter rfl ?_
        refine r_iff 13 rfl (by decide) ?_
        refine At.enter rfl ?_
        refine r_aload_n rfl ?_
        refine r_iconst (-1) rfl ?_
        refine r_callV 18 rfl [.ref 231, .int (-1)] [] (Nat.le_of_ble_eq_true rfl) rfl (T_X11_tell_231 _ hI293 (-1) (by decide)) ?_
        rintro _ _ ⟨g439, rfl, hI440, hF441, v442, rfl, hr443⟩
        refine At.sti ?_
        have hF444 := Fr.tr hF294 hF441 rfl rfl
        have zv445 : ((-1) : Int32).toInt = (-1) := rfl
        refine At.enter rfl ?_
        refine r_ireti ?_
        obtain ⟨v446, hv446⟩ : ∃ v, eA g0 233 0 = v := ⟨_, rfl⟩
        have tv446 := congrArg Int32.toInt hv446
        have wv446 := HI.t0 hI0
        rw [hv446] at wv446
        have tv446 := congrArg Int32.toInt hv446
        have x447 := HI.eqA hI0 (p := 233) (j := 0) (hv446)
        have y448 := congrArg Int32.toInt hv446
        have x449 := HI.eqA hI440 (p := 233) (j := 0) ((((eA_c (hF441.2.1 233 (by decide))).trans (eA_c gA_sI)).trans hv446))
        obtain ⟨v450, hv450⟩ : ∃ v, eA g0 233 4 = v := ⟨_, rfl⟩
        have wv450 := HI.t4 hI0
        rw [hv450] at wv450
        have tv450 := congrArg Int32.toInt hv450
        have x451 := HI.eqA hI440 (p := 233) (j := 4) ((((eA_c (hF441.2.1 233 (by decide))).trans (eA_c gA_sI)).trans hv450))
        obtain ⟨v452, hv452⟩ : ∃ v, eA g0 233 5 = v := ⟨_, rfl⟩
        have wv452 := HI.t5 hI0
        rw [hv452] at wv452
        have tv452 := congrArg Int32.toInt hv452
        have x453 := HI.eqA hI440 (p := 233) (j := 5) ((((eA_c (hF441.2.1 233 (by decide))).trans (eA_c gA_sI)).trans hv452))
        obtain ⟨v454, hv454⟩ : ∃ v, eA g0 233 6 = v := ⟨_, rfl⟩
        have wv454 := HI.t6 hI0
        rw [hv454] at wv454
        have tv454 := congrArg Int32.toInt hv454
        have x455 := HI.eqA hI440 (p := 233) (j := 6) ((((eA_c (hF441.2.1 233 (by decide))).trans (eA_c gA_sI)).trans hv454))
        have x456 := HI.eqA hI0 (p := 233) (j := 0) (hv446)
        have x457 := HI.eqA hI0 (p := 233) (j := 4) (hv450)
        have x458 := HI.eqA hI0 (p := 233) (j := 5) (hv452)
        have x459 := HI.eqA hI0 (p := 233) (j := 6) (hv454)
        have x460 := HI.eqA hI0 (p := 233) (j := 0) (hv446)
        exact ⟨_, rfl, hI440, hF444, _, rfl, by omega, ⟨⟨⟨by omega, by omega, by omega, by omega⟩, by omega, by omega, by omega⟩, (by intro i i0 i1; refine Eq.trans ?_ (if_neg (show ¬ ((((a2.toInt = 0 ∧ -1 ≤ a3.toInt ∧ a3.toInt ≤ 11) ∨ (a2.toInt = 1 ∧ 1 ≤ a3.toInt ∧ a3.toInt ≤ 9) ∨ (a2.toInt = 2 ∧ 0 ≤ a3.toInt ∧ a3.toInt ≤ 99)) ∧ 0 ≤ a1.toInt ∧ a1.toInt < (eA g0 233 0).toInt) ∧ i = 10 + 3 * a1.toInt + a2.toInt) from by omega)).symm; refine (eA_ti (((hF441.2.1 233 (by decide)).trans (gA_sI)))).trans ?_; (first | rfl | exact eA_ix (by omega) | omega))⟩⟩
      · have c438_ : v414.toInt ≤ 9 := en_j_gt_f c438
        refine At.enter rfl ?_
        refine r_iconst 1 rfl ?_
        refine r_goto ?_
        refine At.enter rfl ?_
        refine q_iretz (by decide) ?_
        refine At.enter rfl ?_
        refine q_iretz (by decide) ?_
        refine At.enter rfl ?_
        refine r_ift (by decide) ?_
        refine At.enter rfl ?_
        refine r_aload_n rfl ?_
        refine r_iload_n rfl ?_
        refine q_inlV 24 rfl [.ref 231, .int a1] [] (Nat.le_of_ble_eq_true rfl) rfl ?_
        refine Ev.mk rfl rfl ⟨Nat.le_of_ble_eq_true rfl, Or.inr (q_rc hI293.1 kx_231 rfl)⟩ ?_
        show At _ none _ _ (0, [(0, .ref 231), (1, .int a1)], [], (_, _)) _
        refine At.enter rfl ?_
        refine r_iload_n rfl ?_
        refine q_i2l (fun v461 hv461 => ?_)
        refine r_lconst 0 rfl ?_
        refine r_aload_n rfl ?_
        refine q_getR (Sh.ref hI293.1 kx_231 rfl) ?_
        refine r_iconst 0 rfl ?_
        obtain ⟨v462, hv462⟩ : ∃ v, eA g0 233 0 = v := ⟨_, rfl⟩
        have tv462 := congrArg Int32.toInt hv462
        have wv462 := HI.t0 hI0
        rw [hv462] at wv462
        refine q_iald (Sh.arr hI293.1 ka_233) 0 rfl (by decide) v462 ((eA_c (gA_sI)).trans hv462) ?_
        refine q_i2l (fun v463 hv463 => ?_)
        refine r_lconst 1 rfl ?_
        refine q_lsub (v463.toInt - 1) rfl (by omega) (fun v464 hv464 => ?_)
        refine q_inlS 15 rfl [.long v461, .long 0, .long v464] [] (Nat.le_of_ble_eq_true rfl) rfl ?_
        refine Ev.mk rfl rfl ⟨Nat.le_of_ble_eq_true rfl, Or.inl rfl⟩ ?_
        show At _ none _ _ (0, [(0, .long v461), (2, .long 0), (4, .long v464)], [], (_, _)) _
        refine At.enter rfl ?_
        refine r_lload_n rfl ?_
        refine r_lload_n rfl ?_
        refine r_lcmp _ rfl ?_
        refine r_ifs 6 rfl (fun c465 => ?_) (fun c465 => ?_)
        · have c465_ : v461.toInt < 0 := en_j_lt_t c465
          refine At.enter rfl ?_
          refine r_iconst 0 rfl ?_
          refine Ar.fall 18 rfl ?_
          refine At.enter rfl ?_
          refine q_iretz (by decide) ?_
          refine At.enter rfl ?_
          refine q_iretz (by decide) ?_
          refine At.enter rfl ?_
          refine r_ift (by decide) ?_
          refine At.enter rfl ?_
          refine r_aload_n rfl ?_
          refine r_bipush (-2) rfl ?_
          refine r_callV 49 rfl [.ref 231, .int (-2)] [] (Nat.le_of_ble_eq_true rfl) rfl (T_X11_tell_231 _ hI293 (-2) (by decide)) ?_
          rintro _ _ ⟨g466, rfl, hI467, hF468, v469, rfl, hr470⟩
          refine At.sti ?_
          have hF471 := Fr.tr hF294 hF468 rfl rfl
          have zv472 : ((-2) : Int32).toInt = (-2) := rfl
          refine At.enter rfl ?_
          refine r_ireti ?_
          have x473 := HI.eqA hI0 (p := 233) (j := 0) (hv462)
          have y474 := congrArg Int32.toInt hv462
          have x475 := HI.eqA hI467 (p := 233) (j := 0) ((((eA_c (hF468.2.1 233 (by decide))).trans (eA_c gA_sI)).trans hv462))
          obtain ⟨v476, hv476⟩ : ∃ v, eA g0 233 4 = v := ⟨_, rfl⟩
          have wv476 := HI.t4 hI0
          rw [hv476] at wv476
          have tv476 := congrArg Int32.toInt hv476
          have x477 := HI.eqA hI467 (p := 233) (j := 4) ((((eA_c (hF468.2.1 233 (by decide))).trans (eA_c gA_sI)).trans hv476))
          obtain ⟨v478, hv478⟩ : ∃ v, eA g0 233 5 = v := ⟨_, rfl⟩
          have wv478 := HI.t5 hI0
          rw [hv478] at wv478
          have tv478 := congrArg Int32.toInt hv478
          have x479 := HI.eqA hI467 (p := 233) (j := 5) ((((eA_c (hF468.2.1 233 (by decide))).trans (eA_c gA_sI)).trans hv478))
          obtain ⟨v480, hv480⟩ : ∃ v, eA g0 233 6 = v := ⟨_, rfl⟩
          have wv480 := HI.t6 hI0
          rw [hv480] at wv480
          have tv480 := congrArg Int32.toInt hv480
          have x481 := HI.eqA hI467 (p := 233) (j := 6) ((((eA_c (hF468.2.1 233 (by decide))).trans (eA_c gA_sI)).trans hv480))
          have x482 := HI.eqA hI0 (p := 233) (j := 0) (hv462)
          have x483 := HI.eqA hI0 (p := 233) (j := 4) (hv476)
          have x484 := HI.eqA hI0 (p := 233) (j := 5) (hv478)
          have x485 := HI.eqA hI0 (p := 233) (j := 6) (hv480)
          have x486 := HI.eqA hI0 (p := 233) (j := 0) (hv462)
          exact ⟨_, rfl, hI467, hF471, _, rfl, by omega, ⟨⟨⟨by omega, by omega, by omega, by omega⟩, by omega, by omega, by omega⟩, (by intro i i0 i1; refine Eq.trans ?_ (if_neg (show ¬ ((((a2.toInt = 0 ∧ -1 ≤ a3.toInt ∧ a3.toInt ≤ 11) ∨ (a2.toInt = 1 ∧ 1 ≤ a3.toInt ∧ a3.toInt ≤ 9) ∨ (a2.toInt = 2 ∧ 0 ≤ a3.toInt ∧ a3.toInt ≤ 99)) ∧ 0 ≤ a1.toInt ∧ a1.toInt < (eA g0 233 0).toInt) ∧ i = 10 + 3 * a1.toInt + a2.toInt) from by omega)).symm; refine (eA_ti (((hF468.2.1 233 (by decide)).trans (gA_sI)))).trans ?_; (first | rfl | exact eA_ix (by omega) | omega))⟩⟩
        · have c465_ : v461.toInt ≥ 0 := en_j_lt_f c465
          refine At.enter rfl ?_
          refine r_lload_n rfl ?_
          refine r_lload rfl ?_
          refine r_lcmp _ rfl ?_
          refine r_ifs 13 rfl (fun c487 => ?_) (fun c487 => ?_)
          · have c487_ : v461.toInt > v464.toInt := en_j_gt_t c487
            refine At.enter rfl ?_
            refine r_iconst 0 rfl ?_
            refine Ar.fall 18 rfl ?_
            refine At.enter rfl ?_
            refine q_iretz (by decide) ?_
            refine At.enter rfl ?_
            refine q_iretz (by decide) ?_
            refine At.enter rfl ?_
            refine r_ift (by decide) ?_
            refine At.enter rfl ?_
            refine r_aload_n rfl ?_
            refine r_bipush (-2) rfl ?_
            refine r_callV 49 rfl [.ref 231, .int (-2)] [] (Nat.le_of_ble_eq_true rfl) rfl (T_X11_tell_231 _ hI293 (-2) (by decide)) ?_
            rintro _ _ ⟨g488, rfl, hI489, hF490, v491, rfl, hr492⟩
            refine At.sti ?_
            have hF493 := Fr.tr hF294 hF490 rfl rfl
            have zv494 : ((-2) : Int32).toInt = (-2) := rfl
            refine At.enter rfl ?_
            refine r_ireti ?_
            have x495 := HI.eqA hI0 (p := 233) (j := 0) (hv462)
            have y496 := congrArg Int32.toInt hv462
            have x497 := HI.eqA hI489 (p := 233) (j := 0) ((((eA_c (hF490.2.1 233 (by decide))).trans (eA_c gA_sI)).trans hv462))
            obtain ⟨v498, hv498⟩ : ∃ v, eA g0 233 4 = v := ⟨_, rfl⟩
            have wv498 := HI.t4 hI0
            rw [hv498] at wv498
            have tv498 := congrArg Int32.toInt hv498
            have x499 := HI.eqA hI489 (p := 233) (j := 4) ((((eA_c (hF490.2.1 233 (by decide))).trans (eA_c gA_sI)).trans hv498))
            obtain ⟨v500, hv500⟩ : ∃ v, eA g0 233 5 = v := ⟨_, rfl⟩
            have wv500 := HI.t5 hI0
            rw [hv500] at wv500
            have tv500 := congrArg Int32.toInt hv500
            have x501 := HI.eqA hI489 (p := 233) (j := 5) ((((eA_c (hF490.2.1 233 (by decide))).trans (eA_c gA_sI)).trans hv500))
            obtain ⟨v502, hv502⟩ : ∃ v, eA g0 233 6 = v := ⟨_, rfl⟩
            have wv502 := HI.t6 hI0
            rw [hv502] at wv502
            have tv502 := congrArg Int32.toInt hv502
            have x503 := HI.eqA hI489 (p := 233) (j := 6) ((((eA_c (hF490.2.1 233 (by decide))).trans (eA_c gA_sI)).trans hv502))
            have x504 := HI.eqA hI0 (p := 233) (j := 0) (hv462)
            have x505 := HI.eqA hI0 (p := 233) (j := 4) (hv498)
            have x506 := HI.eqA hI0 (p := 233) (j := 5) (hv500)
            have x507 := HI.eqA hI0 (p := 233) (j := 6) (hv502)
            have x508 := HI.eqA hI0 (p := 233) (j := 0) (hv462)
            exact ⟨_, rfl, hI489, hF493, _, rfl, by omega, ⟨⟨⟨by omega, by omega, by omega, by omega⟩, by omega, by omega, by omega⟩, (by intro i i0 i1; refine Eq.trans ?_ (if_neg (show ¬ ((((a2.toInt = 0 ∧ -1 ≤ a3.toInt ∧ a3.toInt ≤ 11) ∨ (a2.toInt = 1 ∧ 1 ≤ a3.toInt ∧ a3.toInt ≤ 9) ∨ (a2.toInt = 2 ∧ 0 ≤ a3.toInt ∧ a3.toInt ≤ 99)) ∧ 0 ≤ a1.toInt ∧ a1.toInt < (eA g0 233 0).toInt) ∧ i = 10 + 3 * a1.toInt + a2.toInt) from by omega)).symm; refine (eA_ti (((hF490.2.1 233 (by decide)).trans (gA_sI)))).trans ?_; (first | rfl | exact eA_ix (by omega) | omega))⟩⟩
          · have c487_ : v461.toInt ≤ v464.toInt := en_j_gt_f c487
            refine At.enter rfl ?_
            refine r_iconst 1 rfl ?_
            refine r_goto ?_
            refine At.enter rfl ?_
            refine q_iretz (by decide) ?_
            refine At.enter rfl ?_
            refine q_iretz (by decide) ?_
            refine At.enter rfl ?_
            refine r_iff 27 rfl (by decide) ?_
            refine At.enter rfl ?_
            refine r_aload_n rfl ?_
            refine r_bipush 10 rfl ?_
            refine r_iconst 3 rfl ?_
            refine r_iload_n rfl ?_
            refine q_imul (3 * a1.toInt) rfl (by omega) (fun v509 hv509 => ?_)
            refine q_iadd (10 + v509.toInt) rfl (by omega) (fun v510 hv510 => ?_)
            refine r_iload_n rfl ?_
            refine q_iadd (v510.toInt + a2.toInt) rfl (by omega) (fun v511 hv511 => ?_)
            refine r_iload_n rfl ?_
            refine q_inlV 40 rfl [.ref 231, .int v511, .int a3] [] (Nat.le_of_ble_eq_true rfl) rfl ?_
            refine Ev.mk rfl rfl ⟨Nat.le_of_ble_eq_true rfl, Or.inr (q_rc hI293.1 kx_231 rfl)⟩ ?_
            show At _ none _ _ (0, [(0, .ref 231), (1, .int v511), (2, .int a3)], [], (_, _)) _
            refine At.enter rfl ?_
            refine r_aload_n rfl ?_
            refine q_getR (Sh.ref hI293.1 kx_231 rfl) ?_
            refine r_iload_n rfl ?_
            obtain ⟨v512, hv512⟩ : ∃ v, eA g0 233 (3 * a1.toInt + a2.toInt + 10) = v := ⟨_, rfl⟩
            have wv512 := HI.s1 hI0 (j := (3 * a1.toInt + a2.toInt + 10)) (a1.toInt) (by omega) (by omega)
            rw [hv512] at wv512
            refine q_iald (Sh.arr hI293.1 ka_233) (3 * a1.toInt + a2.toInt + 10) (by omega) (by omega) v512 ((eA_c (gA_sI)).trans hv512) ?_
            refine r_istore_n ([(3, .int v512), (0, .ref 231), (1, .int v511), (2, .int a3)]) rfl ?_
            refine r_aload_n rfl ?_
            refine q_getR (Sh.ref hI293.1 kx_231 rfl) ?_
            refine r_iload_n rfl ?_
            refine r_iload_n rfl ?_
            refine q_iast (Sh.arr hI293.1 ka_233) ((3 * a1.toInt + a2.toInt + 10)) (by omega) (by omega) ?_
            have hI513 := HI.ws hI293 (j := (3 * a1.toInt + a2.toInt + 10)) (v := a3) (a1.toInt) 1 (by omega) (by decide) (by omega) (by omega)
            have hF514 := Fr.wA (p := 233) (j := (3 * a1.toInt + a2.toInt + 10)) (v := a3) hF294 rfl
            refine r_aload_n rfl ?_
            refine r_iload_n rfl ?_
            refine q_inlV 19 rfl [.ref 231, .int v512] [] (Nat.le_of_ble_eq_true rfl) rfl ?_
            refine Ev.mk rfl rfl ⟨Nat.le_of_ble_eq_true rfl, Or.inr (q_rc hI513.1 kx_231 rfl)⟩ ?_
            show At _ none _ _ (0, [(0, .ref 231), (1, .int v512)], [], (_, _)) _
            refine At.enter rfl ?_
            refine r_aload_n rfl ?_
            refine r_iconst 0 rfl ?_
            refine q_putI (Sh.int hI513.1 kx_231 rfl) rfl ?_
            have hI515 := HI.wI0 hI513 kx_231 rfl (p := 231) (b := 1) (v := 0) rfl
            have hF516 := Fr.wI (p := 231) (b := 1) (v := 0) hF514 rfl
            refine r_iload_n rfl ?_
            refine q_ireti ?_
            refine At.enter rfl ?_
            refine q_ireti ?_
            refine At.enter rfl ?_
            refine r_goto ?_
            refine At.enter rfl ?_
            refine r_ireti ?_
            have x517 := HI.eqA hI0 (p := 233) (j := 0) (hv462)
            have y518 := congrArg Int32.toInt hv462
            have y519 := (eA_ix (g := g0) (p := 233) (show 10 + 3 * a1.toInt + a2.toInt = (3 * a1.toInt + a2.toInt + 10) from by omega)).trans (congrArg Int32.toInt hv512)
            have x520 := HI.eqA hI515 (p := 233) (j := 0) ((((eA_c gA_sI).trans ((eA_sA_ne hI293.1 ka_233 (by first | decide | omega) (by first | decide | omega) (by first | decide | omega)).trans (eA_c gA_sI))).trans hv462))
            obtain ⟨v521, hv521⟩ : ∃ v, eA g0 233 4 = v := ⟨_, rfl⟩
            have wv521 := HI.t4 hI0
            rw [hv521] at wv521
            have tv521 := congrArg Int32.toInt hv521
            have x522 := HI.eqA hI515 (p := 233) (j := 4) ((((eA_c gA_sI).trans ((eA_sA_ne hI293.1 ka_233 (by first | decide | omega) (by first | decide | omega) (by first | decide | omega)).trans (eA_c gA_sI))).trans hv521))
            obtain ⟨v523, hv523⟩ : ∃ v, eA g0 233 5 = v := ⟨_, rfl⟩
            have wv523 := HI.t5 hI0
            rw [hv523] at wv523
            have tv523 := congrArg Int32.toInt hv523
            have x524 := HI.eqA hI515 (p := 233) (j := 5) ((((eA_c gA_sI).trans ((eA_sA_ne hI293.1 ka_233 (by first | decide | omega) (by first | decide | omega) (by first | decide | omega)).trans (eA_c gA_sI))).trans hv523))
            obtain ⟨v525, hv525⟩ : ∃ v, eA g0 233 6 = v := ⟨_, rfl⟩
            have wv525 := HI.t6 hI0
            rw [hv525] at wv525
            have tv525 := congrArg Int32.toInt hv525
            have x526 := HI.eqA hI515 (p := 233) (j := 6) ((((eA_c gA_sI).trans ((eA_sA_ne hI293.1 ka_233 (by first | decide | omega) (by first | decide | omega) (by first | decide | omega)).trans (eA_c gA_sI))).trans hv525))
            have x527 := HI.eqA hI0 (p := 233) (j := 0) (hv462)
            have x528 := HI.eqA hI0 (p := 233) (j := 4) (hv521)
            have x529 := HI.eqA hI0 (p := 233) (j := 5) (hv523)
            have x530 := HI.eqA hI0 (p := 233) (j := 6) (hv525)
            have x531 := HI.eqA hI0 (p := 233) (j := 0) (hv462)
            exact ⟨_, rfl, hI515, hF516, _, rfl, by omega, ⟨⟨⟨by omega, by omega, by omega, by omega⟩, by omega, by omega, by omega⟩, (by intro i i0 i1; exact (Decidable.em ((((a2.toInt = 0 ∧ -1 ≤ a3.toInt ∧ a3.toInt ≤ 11) ∨ (a2.toInt = 1 ∧ 1 ≤ a3.toInt ∧ a3.toInt ≤ 9) ∨ (a2.toInt = 2 ∧ 0 ≤ a3.toInt ∧ a3.toInt ≤ 99)) ∧ 0 ≤ a1.toInt ∧ a1.toInt < (eA g0 233 0).toInt) ∧ i = 10 + 3 * a1.toInt + a2.toInt)).elim (fun k103_ => by refine Eq.trans ?_ (if_pos k103_).symm; refine (eA_ti ((gA_sI))).trans ?_; exact (Decidable.em (i = (3 * a1.toInt + a2.toInt + 10))).elim (fun k104_ => by refine (eA_eqT hI293.1 ka_233 k104_ (by first | decide | omega) (by first | decide | omega)).trans ?_; (first | (rfl) | (omega))) (fun k104_ => by refine (eA_neT hI293.1 ka_233 k104_ (by first | decide | omega) (by omega)).trans ?_; refine (eA_ti ((gA_sI))).trans ?_; (first | rfl | exact eA_ix (by omega) | omega))) (fun k103_ => by refine Eq.trans ?_ (if_neg k103_).symm; refine (eA_ti ((gA_sI))).trans ?_; exact (Decidable.em (i = (3 * a1.toInt + a2.toInt + 10))).elim (fun k105_ => by refine (eA_eqT hI293.1 ka_233 k105_ (by first | decide | omega) (by first | decide | omega)).trans ?_; (first | (rfl) | (omega))) (fun k105_ => by refine (eA_neT hI293.1 ka_233 k105_ (by first | decide | omega) (by omega)).trans ?_; refine (eA_ti ((gA_sI))).trans ?_; (first | rfl | exact eA_ix (by omega) | omega))))⟩⟩
  by_cases c295_2 : a2.toInt = 2
  · refine r_tsw 50 (by rw [c295_2]; rfl) ?_
    refine At.enter rfl ?_
    refine r_iload_n rfl ?_
    refine q_i2l (fun v532 hv532 => ?_)
    refine r_lconst 0 rfl ?_
    refine r_ldc2 99 rfl ?_
    refine q_inlS 59 rfl [.long v532, .long 0, .long 99] [] (Nat.le_of_ble_eq_true rfl) rfl ?_
    refine Ev.mk rfl rfl ⟨Nat.le_of_ble_eq_true rfl, Or.inl rfl⟩ ?_
    show At _ none _ _ (0, [(0, .long v532), (2, .long 0), (4, .long 99)], [], (_, _)) _
    refine At.enter rfl ?_
    refine r_lload_n rfl ?_
    refine r_lload_n rfl ?_
    refine r_lcmp _ rfl ?_
    refine r_ifs 6 rfl (fun c533 => ?_) (fun c533 => ?_)
    · have c533_ : v532.toInt < 0 := en_j_lt_t c533
      refine At.enter rfl ?_
      refine r_iconst 0 rfl ?_
      refine Ar.fall 18 rfl ?_
      refine At.enter rfl ?_
      refine q_iretz (by decide) ?_
      refine At.enter rfl ?_
      refine q_iretz (by decide) ?_
      refine At.enter rfl ?_
      refine r_iff 13 rfl (by decide) ?_
      refine At.enter rfl ?_
      refine r_aload_n rfl ?_
      refine r_iconst (-1) rfl ?_
      refine r_callV 18 rfl [.ref 231, .int (-1)] [] (Nat.le_of_ble_eq_true rfl) rfl (T_X11_tell_231 _ hI293 (-1) (by decide)) ?_
      rintro _ _ ⟨g534, rfl, hI535, hF536, v537, rfl, hr538⟩
      refine At.sti ?_
      have hF539 := Fr.tr hF294 hF536 rfl rfl
      have zv540 : ((-1) : Int32).toInt = (-1) := rfl
      refine At.enter rfl ?_
      refine r_ireti ?_
      obtain ⟨v541, hv541⟩ : ∃ v, eA g0 233 0 = v := ⟨_, rfl⟩
      have tv541 := congrArg Int32.toInt hv541
      have wv541 := HI.t0 hI0
      rw [hv541] at wv541
      have tv541 := congrArg Int32.toInt hv541
      have x542 := HI.eqA hI0 (p := 233) (j := 0) (hv541)
      have y543 := congrArg Int32.toInt hv541
      have x544 := HI.eqA hI535 (p := 233) (j := 0) ((((eA_c (hF536.2.1 233 (by decide))).trans (eA_c gA_sI)).trans hv541))
      obtain ⟨v545, hv545⟩ : ∃ v, eA g0 233 4 = v := ⟨_, rfl⟩
      have wv545 := HI.t4 hI0
      rw [hv545] at wv545
      have tv545 := congrArg Int32.toInt hv545
      have x546 := HI.eqA hI535 (p := 233) (j := 4) ((((eA_c (hF536.2.1 233 (by decide))).trans (eA_c gA_sI)).trans hv545))
      obtain ⟨v547, hv547⟩ : ∃ v, eA g0 233 5 = v := ⟨_, rfl⟩
      have wv547 := HI.t5 hI0
      rw [hv547] at wv547
      have tv547 := congrArg Int32.toInt hv547
      have x548 := HI.eqA hI535 (p := 233) (j := 5) ((((eA_c (hF536.2.1 233 (by decide))).trans (eA_c gA_sI)).trans hv547))
      obtain ⟨v549, hv549⟩ : ∃ v, eA g0 233 6 = v := ⟨_, rfl⟩
      have wv549 := HI.t6 hI0
      rw [hv549] at wv549
      have tv549 := congrArg Int32.toInt hv549
      have x550 := HI.eqA hI535 (p := 233) (j := 6) ((((eA_c (hF536.2.1 233 (by decide))).trans (eA_c gA_sI)).trans hv549))
      have x551 := HI.eqA hI0 (p := 233) (j := 0) (hv541)
      have x552 := HI.eqA hI0 (p := 233) (j := 4) (hv545)
      have x553 := HI.eqA hI0 (p := 233) (j := 5) (hv547)
      have x554 := HI.eqA hI0 (p := 233) (j := 6) (hv549)
      have x555 := HI.eqA hI0 (p := 233) (j := 0) (hv541)
      exact ⟨_, rfl, hI535, hF539, _, rfl, by omega, ⟨⟨⟨by omega, by omega, by omega, by omega⟩, by omega, by omega, by omega⟩, (by intro i i0 i1; refine Eq.trans ?_ (if_neg (show ¬ ((((a2.toInt = 0 ∧ -1 ≤ a3.toInt ∧ a3.toInt ≤ 11) ∨ (a2.toInt = 1 ∧ 1 ≤ a3.toInt ∧ a3.toInt ≤ 9) ∨ (a2.toInt = 2 ∧ 0 ≤ a3.toInt ∧ a3.toInt ≤ 99)) ∧ 0 ≤ a1.toInt ∧ a1.toInt < (eA g0 233 0).toInt) ∧ i = 10 + 3 * a1.toInt + a2.toInt) from by omega)).symm; refine (eA_ti (((hF536.2.1 233 (by decide)).trans (gA_sI)))).trans ?_; (first | rfl | exact eA_ix (by omega) | omega))⟩⟩
    · have c533_ : v532.toInt ≥ 0 := en_j_lt_f c533
      refine At.enter rfl ?_
      refine r_lload_n rfl ?_
      refine r_lload rfl ?_
      refine r_lcmp _ rfl ?_
      refine r_ifs 13 rfl (fun c556 => ?_) (fun c556 => ?_)
      · have c556_ : v532.toInt > 99 := en_j_gt_t c556
        refine At.enter rfl ?_
        refine r_iconst 0 rfl ?_
        refine Ar.fall 18 rfl ?_
        refine At.enter rfl ?_
        refine q_iretz (by decide) ?_
        refine At.enter rfl ?_
        refine q_iretz (by decide) ?_
        refine At.enter rfl ?_
        refine r_iff 13 rfl (by decide) ?_
        refine At.enter rfl ?_
        refine r_aload_n rfl ?_
        refine r_iconst (-1) rfl ?_
        refine r_callV 18 rfl [.ref 231, .int (-1)] [] (Nat.le_of_ble_eq_true rfl) rfl (T_X11_tell_231 _ hI293 (-1) (by decide)) ?_
        rintro _ _ ⟨g557, rfl, hI558, hF559, v560, rfl, hr561⟩
        refine At.sti ?_
        have hF562 := Fr.tr hF294 hF559 rfl rfl
        have zv563 : ((-1) : Int32).toInt = (-1) := rfl
        refine At.enter rfl ?_
        refine r_ireti ?_
        obtain ⟨v564, hv564⟩ : ∃ v, eA g0 233 0 = v := ⟨_, rfl⟩
        have tv564 := congrArg Int32.toInt hv564
        have wv564 := HI.t0 hI0
        rw [hv564] at wv564
        have tv564 := congrArg Int32.toInt hv564
        have x565 := HI.eqA hI0 (p := 233) (j := 0) (hv564)
        have y566 := congrArg Int32.toInt hv564
        have x567 := HI.eqA hI558 (p := 233) (j := 0) ((((eA_c (hF559.2.1 233 (by decide))).trans (eA_c gA_sI)).trans hv564))
        obtain ⟨v568, hv568⟩ : ∃ v, eA g0 233 4 = v := ⟨_, rfl⟩
        have wv568 := HI.t4 hI0
        rw [hv568] at wv568
        have tv568 := congrArg Int32.toInt hv568
        have x569 := HI.eqA hI558 (p := 233) (j := 4) ((((eA_c (hF559.2.1 233 (by decide))).trans (eA_c gA_sI)).trans hv568))
        obtain ⟨v570, hv570⟩ : ∃ v, eA g0 233 5 = v := ⟨_, rfl⟩
        have wv570 := HI.t5 hI0
        rw [hv570] at wv570
        have tv570 := congrArg Int32.toInt hv570
        have x571 := HI.eqA hI558 (p := 233) (j := 5) ((((eA_c (hF559.2.1 233 (by decide))).trans (eA_c gA_sI)).trans hv570))
        obtain ⟨v572, hv572⟩ : ∃ v, eA g0 233 6 = v := ⟨_, rfl⟩
        have wv572 := HI.t6 hI0
        rw [hv572] at wv572
        have tv572 := congrArg Int32.toInt hv572
        have x573 := HI.eqA hI558 (p := 233) (j := 6) ((((eA_c (hF559.2.1 233 (by decide))).trans (eA_c gA_sI)).trans hv572))
        have x574 := HI.eqA hI0 (p := 233) (j := 0) (hv564)
        have x575 := HI.eqA hI0 (p := 233) (j := 4) (hv568)
        have x576 := HI.eqA hI0 (p := 233) (j := 5) (hv570)
        have x577 := HI.eqA hI0 (p := 233) (j := 6) (hv572)
        have x578 := HI.eqA hI0 (p := 233) (j := 0) (hv564)
        exact ⟨_, rfl, hI558, hF562, _, rfl, by omega, ⟨⟨⟨by omega, by omega, by omega, by omega⟩, by omega, by omega, by omega⟩, (by intro i i0 i1; refine Eq.trans ?_ (if_neg (show ¬ ((((a2.toInt = 0 ∧ -1 ≤ a3.toInt ∧ a3.toInt ≤ 11) ∨ (a2.toInt = 1 ∧ 1 ≤ a3.toInt ∧ a3.toInt ≤ 9) ∨ (a2.toInt = 2 ∧ 0 ≤ a3.toInt ∧ a3.toInt ≤ 99)) ∧ 0 ≤ a1.toInt ∧ a1.toInt < (eA g0 233 0).toInt) ∧ i = 10 + 3 * a1.toInt + a2.toInt) from by omega)).symm; refine (eA_ti (((hF559.2.1 233 (by decide)).trans (gA_sI)))).trans ?_; (first | rfl | exact eA_ix (by omega) | omega))⟩⟩
      · have c556_ : v532.toInt ≤ 99 := en_j_gt_f c556
        refine At.enter rfl ?_
        refine r_iconst 1 rfl ?_
        refine r_goto ?_
        refine At.enter rfl ?_
        refine q_iretz (by decide) ?_
        refine At.enter rfl ?_
        refine q_iretz (by decide) ?_
        refine At.enter rfl ?_
        refine r_ift (by decide) ?_
        refine At.enter rfl ?_
        refine r_aload_n rfl ?_
        refine r_iload_n rfl ?_
        refine q_inlV 24 rfl [.ref 231, .int a1] [] (Nat.le_of_ble_eq_true rfl) rfl ?_
        refine Ev.mk rfl rfl ⟨Nat.le_of_ble_eq_true rfl, Or.inr (q_rc hI293.1 kx_231 rfl)⟩ ?_
        show At _ none _ _ (0, [(0, .ref 231), (1, .int a1)], [], (_, _)) _
        refine At.enter rfl ?_
        refine r_iload_n rfl ?_
        refine q_i2l (fun v579 hv579 => ?_)
        refine r_lconst 0 rfl ?_
        refine r_aload_n rfl ?_
        refine q_getR (Sh.ref hI293.1 kx_231 rfl) ?_
        refine r_iconst 0 rfl ?_
        obtain ⟨v580, hv580⟩ : ∃ v, eA g0 233 0 = v := ⟨_, rfl⟩
        have tv580 := congrArg Int32.toInt hv580
        have wv580 := HI.t0 hI0
        rw [hv580] at wv580
        refine q_iald (Sh.arr hI293.1 ka_233) 0 rfl (by decide) v580 ((eA_c (gA_sI)).trans hv580) ?_
        refine q_i2l (fun v581 hv581 => ?_)
        refine r_lconst 1 rfl ?_
        refine q_lsub (v581.toInt - 1) rfl (by omega) (fun v582 hv582 => ?_)
        refine q_inlS 15 rfl [.long v579, .long 0, .long v582] [] (Nat.le_of_ble_eq_true rfl) rfl ?_
        refine Ev.mk rfl rfl ⟨Nat.le_of_ble_eq_true rfl, Or.inl rfl⟩ ?_
        show At _ none _ _ (0, [(0, .long v579), (2, .long 0), (4, .long v582)], [], (_, _)) _
        refine At.enter rfl ?_
        refine r_lload_n rfl ?_
        refine r_lload_n rfl ?_
        refine r_lcmp _ rfl ?_
        refine r_ifs 6 rfl (fun c583 => ?_) (fun c583 => ?_)
        · have c583_ : v579.toInt < 0 := en_j_lt_t c583
          refine At.enter rfl ?_
          refine r_iconst 0 rfl ?_
          refine Ar.fall 18 rfl ?_
          refine At.enter rfl ?_
          refine q_iretz (by decide) ?_
          refine At.enter rfl ?_
          refine q_iretz (by decide) ?_
          refine At.enter rfl ?_
          refine r_ift (by decide) ?_
          refine At.enter rfl ?_
          refine r_aload_n rfl ?_
          refine r_bipush (-2) rfl ?_
          refine r_callV 49 rfl [.ref 231, .int (-2)] [] (Nat.le_of_ble_eq_true rfl) rfl (T_X11_tell_231 _ hI293 (-2) (by decide)) ?_
          rintro _ _ ⟨g584, rfl, hI585, hF586, v587, rfl, hr588⟩
          refine At.sti ?_
          have hF589 := Fr.tr hF294 hF586 rfl rfl
          have zv590 : ((-2) : Int32).toInt = (-2) := rfl
          refine At.enter rfl ?_
          refine r_ireti ?_
          have x591 := HI.eqA hI0 (p := 233) (j := 0) (hv580)
          have y592 := congrArg Int32.toInt hv580
          have x593 := HI.eqA hI585 (p := 233) (j := 0) ((((eA_c (hF586.2.1 233 (by decide))).trans (eA_c gA_sI)).trans hv580))
          obtain ⟨v594, hv594⟩ : ∃ v, eA g0 233 4 = v := ⟨_, rfl⟩
          have wv594 := HI.t4 hI0
          rw [hv594] at wv594
          have tv594 := congrArg Int32.toInt hv594
          have x595 := HI.eqA hI585 (p := 233) (j := 4) ((((eA_c (hF586.2.1 233 (by decide))).trans (eA_c gA_sI)).trans hv594))
          obtain ⟨v596, hv596⟩ : ∃ v, eA g0 233 5 = v := ⟨_, rfl⟩
          have wv596 := HI.t5 hI0
          rw [hv596] at wv596
          have tv596 := congrArg Int32.toInt hv596
          have x597 := HI.eqA hI585 (p := 233) (j := 5) ((((eA_c (hF586.2.1 233 (by decide))).trans (eA_c gA_sI)).trans hv596))
          obtain ⟨v598, hv598⟩ : ∃ v, eA g0 233 6 = v := ⟨_, rfl⟩
          have wv598 := HI.t6 hI0
          rw [hv598] at wv598
          have tv598 := congrArg Int32.toInt hv598
          have x599 := HI.eqA hI585 (p := 233) (j := 6) ((((eA_c (hF586.2.1 233 (by decide))).trans (eA_c gA_sI)).trans hv598))
          have x600 := HI.eqA hI0 (p := 233) (j := 0) (hv580)
          have x601 := HI.eqA hI0 (p := 233) (j := 4) (hv594)
          have x602 := HI.eqA hI0 (p := 233) (j := 5) (hv596)
          have x603 := HI.eqA hI0 (p := 233) (j := 6) (hv598)
          have x604 := HI.eqA hI0 (p := 233) (j := 0) (hv580)
          exact ⟨_, rfl, hI585, hF589, _, rfl, by omega, ⟨⟨⟨by omega, by omega, by omega, by omega⟩, by omega, by omega, by omega⟩, (by intro i i0 i1; refine Eq.trans ?_ (if_neg (show ¬ ((((a2.toInt = 0 ∧ -1 ≤ a3.toInt ∧ a3.toInt ≤ 11) ∨ (a2.toInt = 1 ∧ 1 ≤ a3.toInt ∧ a3.toInt ≤ 9) ∨ (a2.toInt = 2 ∧ 0 ≤ a3.toInt ∧ a3.toInt ≤ 99)) ∧ 0 ≤ a1.toInt ∧ a1.toInt < (eA g0 233 0).toInt) ∧ i = 10 + 3 * a1.toInt + a2.toInt) from by omega)).symm; refine (eA_ti (((hF586.2.1 233 (by decide)).trans (gA_sI)))).trans ?_; (first | rfl | exact eA_ix (by omega) | omega))⟩⟩
        · have c583_ : v579.toInt ≥ 0 := en_j_lt_f c583
          refine At.enter rfl ?_
          refine r_lload_n rfl ?_
          refine r_lload rfl ?_
          refine r_lcmp _ rfl ?_
          refine r_ifs 13 rfl (fun c605 => ?_) (fun c605 => ?_)
          · have c605_ : v579.toInt > v582.toInt := en_j_gt_t c605
            refine At.enter rfl ?_
            refine r_iconst 0 rfl ?_
            refine Ar.fall 18 rfl ?_
            refine At.enter rfl ?_
            refine q_iretz (by decide) ?_
            refine At.enter rfl ?_
            refine q_iretz (by decide) ?_
            refine At.enter rfl ?_
            refine r_ift (by decide) ?_
            refine At.enter rfl ?_
            refine r_aload_n rfl ?_
            refine r_bipush (-2) rfl ?_
            refine r_callV 49 rfl [.ref 231, .int (-2)] [] (Nat.le_of_ble_eq_true rfl) rfl (T_X11_tell_231 _ hI293 (-2) (by decide)) ?_
            rintro _ _ ⟨g606, rfl, hI607, hF608, v609, rfl, hr610⟩
            refine At.sti ?_
            have hF611 := Fr.tr hF294 hF608 rfl rfl
            have zv612 : ((-2) : Int32).toInt = (-2) := rfl
            refine At.enter rfl ?_
            refine r_ireti ?_
            have x613 := HI.eqA hI0 (p := 233) (j := 0) (hv580)
            have y614 := congrArg Int32.toInt hv580
            have x615 := HI.eqA hI607 (p := 233) (j := 0) ((((eA_c (hF608.2.1 233 (by decide))).trans (eA_c gA_sI)).trans hv580))
            obtain ⟨v616, hv616⟩ : ∃ v, eA g0 233 4 = v := ⟨_, rfl⟩
            have wv616 := HI.t4 hI0
            rw [hv616] at wv616
            have tv616 := congrArg Int32.toInt hv616
            have x617 := HI.eqA hI607 (p := 233) (j := 4) ((((eA_c (hF608.2.1 233 (by decide))).trans (eA_c gA_sI)).trans hv616))
            obtain ⟨v618, hv618⟩ : ∃ v, eA g0 233 5 = v := ⟨_, rfl⟩
            have wv618 := HI.t5 hI0
            rw [hv618] at wv618
            have tv618 := congrArg Int32.toInt hv618
            have x619 := HI.eqA hI607 (p := 233) (j := 5) ((((eA_c (hF608.2.1 233 (by decide))).trans (eA_c gA_sI)).trans hv618))
            obtain ⟨v620, hv620⟩ : ∃ v, eA g0 233 6 = v := ⟨_, rfl⟩
            have wv620 := HI.t6 hI0
            rw [hv620] at wv620
            have tv620 := congrArg Int32.toInt hv620
            have x621 := HI.eqA hI607 (p := 233) (j := 6) ((((eA_c (hF608.2.1 233 (by decide))).trans (eA_c gA_sI)).trans hv620))
            have x622 := HI.eqA hI0 (p := 233) (j := 0) (hv580)
            have x623 := HI.eqA hI0 (p := 233) (j := 4) (hv616)
            have x624 := HI.eqA hI0 (p := 233) (j := 5) (hv618)
            have x625 := HI.eqA hI0 (p := 233) (j := 6) (hv620)
            have x626 := HI.eqA hI0 (p := 233) (j := 0) (hv580)
            exact ⟨_, rfl, hI607, hF611, _, rfl, by omega, ⟨⟨⟨by omega, by omega, by omega, by omega⟩, by omega, by omega, by omega⟩, (by intro i i0 i1; refine Eq.trans ?_ (if_neg (show ¬ ((((a2.toInt = 0 ∧ -1 ≤ a3.toInt ∧ a3.toInt ≤ 11) ∨ (a2.toInt = 1 ∧ 1 ≤ a3.toInt ∧ a3.toInt ≤ 9) ∨ (a2.toInt = 2 ∧ 0 ≤ a3.toInt ∧ a3.toInt ≤ 99)) ∧ 0 ≤ a1.toInt ∧ a1.toInt < (eA g0 233 0).toInt) ∧ i = 10 + 3 * a1.toInt + a2.toInt) from by omega)).symm; refine (eA_ti (((hF608.2.1 233 (by decide)).trans (gA_sI)))).trans ?_; (first | rfl | exact eA_ix (by omega) | omega))⟩⟩
          · have c605_ : v579.toInt ≤ v582.toInt := en_j_gt_f c605
            refine At.enter rfl ?_
            refine r_iconst 1 rfl ?_
            refine r_goto ?_
            refine At.enter rfl ?_
            refine q_iretz (by decide) ?_
            refine At.enter rfl ?_
            refine q_iretz (by decide) ?_
            refine At.enter rfl ?_
            refine r_iff 27 rfl (by decide) ?_
            refine At.enter rfl ?_
            refine r_aload_n rfl ?_
            refine r_bipush 10 rfl ?_
            refine r_iconst 3 rfl ?_
            refine r_iload_n rfl ?_
            refine q_imul (3 * a1.toInt) rfl (by omega) (fun v627 hv627 => ?_)
            refine q_iadd (10 + v627.toInt) rfl (by omega) (fun v628 hv628 => ?_)
            refine r_iload_n rfl ?_
            refine q_iadd (v628.toInt + a2.toInt) rfl (by omega) (fun v629 hv629 => ?_)
            refine r_iload_n rfl ?_
            refine q_inlV 40 rfl [.ref 231, .int v629, .int a3] [] (Nat.le_of_ble_eq_true rfl) rfl ?_
            refine Ev.mk rfl rfl ⟨Nat.le_of_ble_eq_true rfl, Or.inr (q_rc hI293.1 kx_231 rfl)⟩ ?_
            show At _ none _ _ (0, [(0, .ref 231), (1, .int v629), (2, .int a3)], [], (_, _)) _
            refine At.enter rfl ?_
            refine r_aload_n rfl ?_
            refine q_getR (Sh.ref hI293.1 kx_231 rfl) ?_
            refine r_iload_n rfl ?_
            obtain ⟨v630, hv630⟩ : ∃ v, eA g0 233 (3 * a1.toInt + a2.toInt + 10) = v := ⟨_, rfl⟩
            have wv630 := HI.s2 hI0 (j := (3 * a1.toInt + a2.toInt + 10)) (a1.toInt) (by omega) (by omega)
            rw [hv630] at wv630
            refine q_iald (Sh.arr hI293.1 ka_233) (3 * a1.toInt + a2.toInt + 10) (by omega) (by omega) v630 ((eA_c (gA_sI)).trans hv630) ?_
            refine r_istore_n ([(3, .int v630), (0, .ref 231), (1, .int v629), (2, .int a3)]) rfl ?_
            refine r_aload_n rfl ?_
            refine q_getR (Sh.ref hI293.1 kx_231 rfl) ?_
            refine r_iload_n rfl ?_
            refine r_iload_n rfl ?_
            refine q_iast (Sh.arr hI293.1 ka_233) ((3 * a1.toInt + a2.toInt + 10)) (by omega) (by omega) ?_
            have hI631 := HI.ws hI293 (j := (3 * a1.toInt + a2.toInt + 10)) (v := a3) (a1.toInt) 2 (by omega) (by decide) (by omega) (by omega)
            have hF632 := Fr.wA (p := 233) (j := (3 * a1.toInt + a2.toInt + 10)) (v := a3) hF294 rfl
            refine r_aload_n rfl ?_
            refine r_iload_n rfl ?_
            refine q_inlV 19 rfl [.ref 231, .int v630] [] (Nat.le_of_ble_eq_true rfl) rfl ?_
            refine Ev.mk rfl rfl ⟨Nat.le_of_ble_eq_true rfl, Or.inr (q_rc hI631.1 kx_231 rfl)⟩ ?_
            show At _ none _ _ (0, [(0, .ref 231), (1, .int v630)], [], (_, _)) _
            refine At.enter rfl ?_
            refine r_aload_n rfl ?_
            refine r_iconst 0 rfl ?_
            refine q_putI (Sh.int hI631.1 kx_231 rfl) rfl ?_
            have hI633 := HI.wI0 hI631 kx_231 rfl (p := 231) (b := 1) (v := 0) rfl
            have hF634 := Fr.wI (p := 231) (b := 1) (v := 0) hF632 rfl
            refine r_iload_n rfl ?_
            refine q_ireti ?_
            refine At.enter rfl ?_
            refine q_ireti ?_
            refine At.enter rfl ?_
            refine r_goto ?_
            refine At.enter rfl ?_
            refine r_ireti ?_
            have x635 := HI.eqA hI0 (p := 233) (j := 0) (hv580)
            have y636 := congrArg Int32.toInt hv580
            have y637 := (eA_ix (g := g0) (p := 233) (show 10 + 3 * a1.toInt + a2.toInt = (3 * a1.toInt + a2.toInt + 10) from by omega)).trans (congrArg Int32.toInt hv630)
            have x638 := HI.eqA hI633 (p := 233) (j := 0) ((((eA_c gA_sI).trans ((eA_sA_ne hI293.1 ka_233 (by first | decide | omega) (by first | decide | omega) (by first | decide | omega)).trans (eA_c gA_sI))).trans hv580))
            obtain ⟨v639, hv639⟩ : ∃ v, eA g0 233 4 = v := ⟨_, rfl⟩
            have wv639 := HI.t4 hI0
            rw [hv639] at wv639
            have tv639 := congrArg Int32.toInt hv639
            have x640 := HI.eqA hI633 (p := 233) (j := 4) ((((eA_c gA_sI).trans ((eA_sA_ne hI293.1 ka_233 (by first | decide | omega) (by first | decide | omega) (by first | decide | omega)).trans (eA_c gA_sI))).trans hv639))
            obtain ⟨v641, hv641⟩ : ∃ v, eA g0 233 5 = v := ⟨_, rfl⟩
            have wv641 := HI.t5 hI0
            rw [hv641] at wv641
            have tv641 := congrArg Int32.toInt hv641
            have x642 := HI.eqA hI633 (p := 233) (j := 5) ((((eA_c gA_sI).trans ((eA_sA_ne hI293.1 ka_233 (by first | decide | omega) (by first | decide | omega) (by first | decide | omega)).trans (eA_c gA_sI))).trans hv641))
            obtain ⟨v643, hv643⟩ : ∃ v, eA g0 233 6 = v := ⟨_, rfl⟩
            have wv643 := HI.t6 hI0
            rw [hv643] at wv643
            have tv643 := congrArg Int32.toInt hv643
            have x644 := HI.eqA hI633 (p := 233) (j := 6) ((((eA_c gA_sI).trans ((eA_sA_ne hI293.1 ka_233 (by first | decide | omega) (by first | decide | omega) (by first | decide | omega)).trans (eA_c gA_sI))).trans hv643))
            have x645 := HI.eqA hI0 (p := 233) (j := 0) (hv580)
            have x646 := HI.eqA hI0 (p := 233) (j := 4) (hv639)
            have x647 := HI.eqA hI0 (p := 233) (j := 5) (hv641)
            have x648 := HI.eqA hI0 (p := 233) (j := 6) (hv643)
            have x649 := HI.eqA hI0 (p := 233) (j := 0) (hv580)
            exact ⟨_, rfl, hI633, hF634, _, rfl, by omega, ⟨⟨⟨by omega, by omega, by omega, by omega⟩, by omega, by omega, by omega⟩, (by intro i i0 i1; exact (Decidable.em ((((a2.toInt = 0 ∧ -1 ≤ a3.toInt ∧ a3.toInt ≤ 11) ∨ (a2.toInt = 1 ∧ 1 ≤ a3.toInt ∧ a3.toInt ≤ 9) ∨ (a2.toInt = 2 ∧ 0 ≤ a3.toInt ∧ a3.toInt ≤ 99)) ∧ 0 ≤ a1.toInt ∧ a1.toInt < (eA g0 233 0).toInt) ∧ i = 10 + 3 * a1.toInt + a2.toInt)).elim (fun k106_ => by refine Eq.trans ?_ (if_pos k106_).symm; refine (eA_ti ((gA_sI))).trans ?_; exact (Decidable.em (i = (3 * a1.toInt + a2.toInt + 10))).elim (fun k107_ => by refine (eA_eqT hI293.1 ka_233 k107_ (by first | decide | omega) (by first | decide | omega)).trans ?_; (first | (rfl) | (omega))) (fun k107_ => by refine (eA_neT hI293.1 ka_233 k107_ (by first | decide | omega) (by omega)).trans ?_; refine (eA_ti ((gA_sI))).trans ?_; (first | rfl | exact eA_ix (by omega) | omega))) (fun k106_ => by refine Eq.trans ?_ (if_neg k106_).symm; refine (eA_ti ((gA_sI))).trans ?_; exact (Decidable.em (i = (3 * a1.toInt + a2.toInt + 10))).elim (fun k108_ => by refine (eA_eqT hI293.1 ka_233 k108_ (by first | decide | omega) (by first | decide | omega)).trans ?_; (first | (rfl) | (omega))) (fun k108_ => by refine (eA_neT hI293.1 ka_233 k108_ (by first | decide | omega) (by omega)).trans ?_; refine (eA_ti ((gA_sI))).trans ?_; (first | rfl | exact eA_ix (by omega) | omega))))⟩⟩
  have c650 : a2.toInt < 0 ∨ 2 < a2.toInt := by omega
  refine r_tsw 60 (by unfold en_sw; rw [if_pos c650]; rfl) ?_
  refine At.enter rfl ?_
  refine r_iconst 0 rfl ?_
  refine q_iretz (by decide) ?_
  refine At.enter rfl ?_
  refine r_iff 13 rfl (by decide) ?_
  refine At.enter rfl ?_
  refine r_aload_n rfl ?_
  refine r_iconst (-1) rfl ?_
  refine r_callV 18 rfl [.ref 231, .int (-1)] [] (Nat.le_of_ble_eq_true rfl) rfl (T_X11_tell_231 _ hI293 (-1) (by decide)) ?_
  rintro _ _ ⟨g651, rfl, hI652, hF653, v654, rfl, hr655⟩
  refine At.sti ?_
  have hF656 := Fr.tr hF294 hF653 rfl rfl
  have zv657 : ((-1) : Int32).toInt = (-1) := rfl
  refine At.enter rfl ?_
  refine r_ireti ?_
  obtain ⟨v658, hv658⟩ : ∃ v, eA g0 233 0 = v := ⟨_, rfl⟩
  have tv658 := congrArg Int32.toInt hv658
  have wv658 := HI.t0 hI0
  rw [hv658] at wv658
  have tv658 := congrArg Int32.toInt hv658
  have x659 := HI.eqA hI0 (p := 233) (j := 0) (hv658)
  have y660 := congrArg Int32.toInt hv658
  have x661 := HI.eqA hI652 (p := 233) (j := 0) ((((eA_c (hF653.2.1 233 (by decide))).trans (eA_c gA_sI)).trans hv658))
  obtain ⟨v662, hv662⟩ : ∃ v, eA g0 233 4 = v := ⟨_, rfl⟩
  have wv662 := HI.t4 hI0
  rw [hv662] at wv662
  have tv662 := congrArg Int32.toInt hv662
  have x663 := HI.eqA hI652 (p := 233) (j := 4) ((((eA_c (hF653.2.1 233 (by decide))).trans (eA_c gA_sI)).trans hv662))
  obtain ⟨v664, hv664⟩ : ∃ v, eA g0 233 5 = v := ⟨_, rfl⟩
  have wv664 := HI.t5 hI0
  rw [hv664] at wv664
  have tv664 := congrArg Int32.toInt hv664
  have x665 := HI.eqA hI652 (p := 233) (j := 5) ((((eA_c (hF653.2.1 233 (by decide))).trans (eA_c gA_sI)).trans hv664))
  obtain ⟨v666, hv666⟩ : ∃ v, eA g0 233 6 = v := ⟨_, rfl⟩
  have wv666 := HI.t6 hI0
  rw [hv666] at wv666
  have tv666 := congrArg Int32.toInt hv666
  have x667 := HI.eqA hI652 (p := 233) (j := 6) ((((eA_c (hF653.2.1 233 (by decide))).trans (eA_c gA_sI)).trans hv666))
  have x668 := HI.eqA hI0 (p := 233) (j := 0) (hv658)
  have x669 := HI.eqA hI0 (p := 233) (j := 4) (hv662)
  have x670 := HI.eqA hI0 (p := 233) (j := 5) (hv664)
  have x671 := HI.eqA hI0 (p := 233) (j := 6) (hv666)
  have x672 := HI.eqA hI0 (p := 233) (j := 0) (hv658)
  exact ⟨_, rfl, hI652, hF656, _, rfl, by omega, ⟨⟨⟨by omega, by omega, by omega, by omega⟩, by omega, by omega, by omega⟩, (by intro i i0 i1; refine Eq.trans ?_ (if_neg (show ¬ ((((a2.toInt = 0 ∧ -1 ≤ a3.toInt ∧ a3.toInt ≤ 11) ∨ (a2.toInt = 1 ∧ 1 ≤ a3.toInt ∧ a3.toInt ≤ 9) ∨ (a2.toInt = 2 ∧ 0 ≤ a3.toInt ∧ a3.toInt ≤ 99)) ∧ 0 ≤ a1.toInt ∧ a1.toInt < (eA g0 233 0).toInt) ∧ i = 10 + 3 * a1.toInt + a2.toInt) from by omega)).symm; refine (eA_ti (((hF653.2.1 233 (by decide)).trans (gA_sI)))).trans ?_; (first | rfl | exact eA_ix (by omega) | omega))⟩⟩

def F_X11_load_231 : List (Nat × Nat) := [(231, 0), (231, 1)]
def A_X11_load_231 : List Nat := [232, 233]
set_option maxRecDepth 100000 in
set_option maxHeartbeats 4000000 in
theorem T_X11_load_231 (d : Nat) {N : Nat} {g0 : List en_E} (hI0 : HI g0) (a1 : Int32) (a2 : Int32) (a3 : Int32) (a4 : Int32) (a5 : Int32) (a6 : Int32) : Ev (d + 3) 178 [.ref 231, .int a1, .int a2, .int a3, .int a4, .int a5, .int a6] (g0, N) (fun w h' => ∃ g', h' = (g', N) ∧ HI g' ∧ Fr F_X11_load_231 A_X11_load_231 g0 g' ∧ ∃ r : Int32, w = some (.int r) ∧ ((-5) ≤ r.toInt ∧ r.toInt ≤ 7) ∧ (((eA g' 233 0).toInt = (eA g0 233 0).toInt ∧ (eA g' 233 4).toInt = (eA g0 233 4).toInt ∧ (eA g' 233 5).toInt = (eA g0 233 5).toInt ∧ (eA g' 233 6).toInt = (eA g0 233 6).toInt) ∧ (∀ i : Int, 10 ≤ i → i < 46 → (eA g' 233 (i)).toInt = (eA g0 233 (i)).toInt) ∧ (∀ i : Int, 94 ≤ i → i < 110 → (eA g' 233 (i)).toInt = (eA g0 233 (i)).toInt))) := by
  have hF0 : Fr F_X11_load_231 A_X11_load_231 g0 g0 := Fr.rf
  refine Ev.mk rfl rfl ⟨Nat.le_of_ble_eq_true rfl, Or.inr (q_rc hI0.1 kx_231 rfl)⟩ ?_
  show At _ none _ _ (0, [(0, .ref 231), (1, .int a1), (2, .int a2), (3, .int a3), (4, .int a4), (5, .int a5), (6, .int a6)], [], (_, _)) _
  refine At.enter rfl ?_
  refine r_aload_n rfl ?_
  refine r_iconst 0 rfl ?_
  refine q_putI (Sh.int hI0.1 kx_231 rfl) rfl ?_
  have hI305 := HI.wI0 hI0 kx_231 rfl (p := 231) (b := 0) (v := 0) rfl
  have hF306 := Fr.wI (p := 231) (b := 0) (v := 0) hF0 rfl
  refine r_iload_n rfl ?_
  refine r_iload rfl ?_
  refine r_iload rfl ?_
  refine r_iload rfl ?_
  refine q_inlS 15 rfl [.int a1, .int a4, .int a5, .int a6] [] (Nat.le_of_ble_eq_true rfl) rfl ?_
  refine Ev.mk rfl rfl ⟨Nat.le_of_ble_eq_true rfl, Or.inl rfl⟩ ?_
  show At _ none _ _ (0, [(0, .int a1), (1, .int a4), (2, .int a5), (3, .int a6)], [], (_, _)) _
  refine At.enter rfl ?_
  refine r_iload_n rfl ?_
  refine q_i2l (fun v307 hv307 => ?_)
  refine r_lconst 1 rfl ?_
  refine r_ldc2 9 rfl ?_
  refine q_inlS 9 rfl [.long v307, .long 1, .long 9] [] (Nat.le_of_ble_eq_true rfl) rfl ?_
  refine Ev.mk rfl rfl ⟨Nat.le_of_ble_eq_true rfl, Or.inl rfl⟩ ?_
  show At _ none _ _ (0, [(0, .long v307), (2, .long 1), (4, .long 9)], [], (_, _)) _
  refine At.enter rfl ?_
  refine r_lload_n rfl ?_
  refine r_lload_n rfl ?_
  refine r_lcmp _ rfl ?_
  refine r_ifs 6 rfl (fun c308 => ?_) (fun c308 => ?_)
  · have c308_ : v307.toInt < 1 := en_j_lt_t c308
    refine At.enter rfl ?_
    refine r_iconst 0 rfl ?_
    refine Ar.fall 18 rfl ?_
    refine At.enter rfl ?_
    refine q_iretz (by decide) ?_
    refine At.enter rfl ?_
    refine r_ift (by decide) ?_
    refine At.enter rfl ?_
    refine r_iconst 0 rfl ?_
    refine Ar.fall 53 rfl ?_
    refine At.enter rfl ?_
    refine q_iretz (by decide) ?_
    refine At.enter rfl ?_
    refine r_iff 18 rfl (by decide) ?_
    refine At.enter rfl ?_
    refine r_aload_n rfl ?_
    refine r_iconst (-1) rfl ?_
    refine r_callV 23 rfl [.ref 231, .int (-1)] [] (Nat.le_of_ble_eq_true rfl) rfl (T_X11_tell_231 _ hI305 (-1) (by decide)) ?_
    rintro _ _ ⟨g309, rfl, hI310, hF311, v312, rfl, hr313⟩
    refine At.sti ?_
    have hF314 := Fr.tr hF306 hF311 rfl rfl
    have zv315 : ((-1) : Int32).toInt = (-1) := rfl
    refine At.enter rfl ?_
    refine r_ireti ?_
    obtain ⟨v316, hv316⟩ : ∃ v, eA g0 233 0 = v := ⟨_, rfl⟩
    have tv316 := congrArg Int32.toInt hv316
    have wv316 := HI.t0 hI0
    rw [hv316] at wv316
    have tv316 := congrArg Int32.toInt hv316
    have x317 := HI.eqA hI310 (p := 233) (j := 0) ((((eA_c (hF311.2.1 233 (by decide))).trans (eA_c gA_sI)).trans hv316))
    obtain ⟨v318, hv318⟩ : ∃ v, eA g0 233 4 = v := ⟨_, rfl⟩
    have wv318 := HI.t4 hI0
    rw [hv318] at wv318
    have tv318 := congrArg Int32.toInt hv318
    have x319 := HI.eqA hI310 (p := 233) (j := 4) ((((eA_c (hF311.2.1 233 (by decide))).trans (eA_c gA_sI)).trans hv318))
    obtain ⟨v320, hv320⟩ : ∃ v, eA g0 233 5 = v := ⟨_, rfl⟩
    have wv320 := HI.t5 hI0
    rw [hv320] at wv320
    have tv320 := congrArg Int32.toInt hv320
    have x321 := HI.eqA hI310 (p := 233) (j := 5) ((((eA_c (hF311.2.1 233 (by decide))).trans (eA_c gA_sI)).trans hv320))
    obtain ⟨v322, hv322⟩ : ∃ v, eA g0 233 6 = v := ⟨_, rfl⟩
    have wv322 := HI.t6 hI0
    rw [hv322] at wv322
    have tv322 := congrArg Int32.toInt hv322
    have x323 := HI.eqA hI310 (p := 233) (j := 6) ((((eA_c (hF311.2.1 233 (by decide))).trans (eA_c gA_sI)).trans hv322))
    have x324 := HI.eqA hI0 (p := 233) (j := 0) (hv316)
    have x325 := HI.eqA hI0 (p := 233) (j := 4) (hv318)
    have x326 := HI.eqA hI0 (p := 233) (j := 5) (hv320)
    have x327 := HI.eqA hI0 (p := 233) (j := 6) (hv322)
    exact ⟨_, rfl, hI310, hF314, _, rfl, by omega, ⟨⟨by omega, by omega, by omega, by omega⟩, (by intro i i0 i1; refine (eA_ti (((hF311.2.1 233 (by decide)).trans (gA_sI)))).trans ?_; (first | rfl | exact eA_ix (by omega) | omega)), (by intro i i0 i1; refine (eA_ti (((hF311.2.1 233 (by decide)).trans (gA_sI)))).trans ?_; (first | rfl | exact eA_ix (by omega) | omega))⟩⟩
  · have c308_ : v307.toInt ≥ 1 := en_j_lt_f c308
    refine At.enter rfl ?_
    refine r_lload_n rfl ?_
    refine r_lload rfl ?_
    refine r_lcmp _ rfl ?_
    refine r_ifs 13 rfl (fun c328 => ?_) (fun c328 => ?_)
    · have c328_ : v307.toInt > 9 := en_j_gt_t c328
      refine At.enter rfl ?_
      refine r_iconst 0 rfl ?_
      refine Ar.fall 18 rfl ?_
      refine At.enter rfl ?_
      refine q_iretz (by decide) ?_
      refine At.enter rfl ?_
      refine r_ift (by decide) ?_
      refine At.enter rfl ?_
      refine r_iconst 0 rfl ?_
      refine Ar.fall 53 rfl ?_
      refine At.enter rfl ?_
      refine q_iretz (by decide) ?_
      refine At.enter rfl ?_
      refine r_iff 18 rfl (by decide) ?_
      refine At.enter rfl ?_
      refine r_aload_n rfl ?_
      refine r_iconst (-1) rfl ?_
      refine r_callV 23 rfl [.ref 231, .int (-1)] [] (Nat.le_of_ble_eq_true rfl) rfl (T_X11_tell_231 _ hI305 (-1) (by decide)) ?_
      rintro _ _ ⟨g329, rfl, hI330, hF331, v332, rfl, hr333⟩
      refine At.sti ?_
      have hF334 := Fr.tr hF306 hF331 rfl rfl
      have zv335 : ((-1) : Int32).toInt = (-1) := rfl
      refine At.enter rfl ?_
      refine r_ireti ?_
      obtain ⟨v336, hv336⟩ : ∃ v, eA g0 233 0 = v := ⟨_, rfl⟩
      have tv336 := congrArg Int32.toInt hv336
      have wv336 := HI.t0 hI0
      rw [hv336] at wv336
      have tv336 := congrArg Int32.toInt hv336
      have x337 := HI.eqA hI330 (p := 233) (j := 0) ((((eA_c (hF331.2.1 233 (by decide))).trans (eA_c gA_sI)).trans hv336))
      obtain ⟨v338, hv338⟩ : ∃ v, eA g0 233 4 = v := ⟨_, rfl⟩
      have wv338 := HI.t4 hI0
      rw [hv338] at wv338
      have tv338 := congrArg Int32.toInt hv338
      have x339 := HI.eqA hI330 (p := 233) (j := 4) ((((eA_c (hF331.2.1 233 (by decide))).trans (eA_c gA_sI)).trans hv338))
      obtain ⟨v340, hv340⟩ : ∃ v, eA g0 233 5 = v := ⟨_, rfl⟩
      have wv340 := HI.t5 hI0
      rw [hv340] at wv340
      have tv340 := congrArg Int32.toInt hv340
      have x341 := HI.eqA hI330 (p := 233) (j := 5) ((((eA_c (hF331.2.1 233 (by decide))).trans (eA_c gA_sI)).trans hv340))
      obtain ⟨v342, hv342⟩ : ∃ v, eA g0 233 6 = v := ⟨_, rfl⟩
      have wv342 := HI.t6 hI0
      rw [hv342] at wv342
      have tv342 := congrArg Int32.toInt hv342
      have x343 := HI.eqA hI330 (p := 233) (j := 6) ((((eA_c (hF331.2.1 233 (by decide))).trans (eA_c gA_sI)).trans hv342))
      have x344 := HI.eqA hI0 (p := 233) (j := 0) (hv336)
      have x345 := HI.eqA hI0 (p := 233) (j := 4) (hv338)
      have x346 := HI.eqA hI0 (p := 233) (j := 5) (hv340)
      have x347 := HI.eqA hI0 (p := 233) (j := 6) (hv342)
      exact ⟨_, rfl, hI330, hF334, _, rfl, by omega, ⟨⟨by omega, by omega, by omega, by omega⟩, (by intro i i0 i1; refine (eA_ti (((hF331.2.1 233 (by decide)).trans (gA_sI)))).trans ?_; (first | rfl | exact eA_ix (by omega) | omega)), (by intro i i0 i1; refine (eA_ti (((hF331.2.1 233 (by decide)).trans (gA_sI)))).trans ?_; (first | rfl | exact eA_ix (by omega) | omega))⟩⟩
    · have c328_ : v307.toInt ≤ 9 := en_j_gt_f c328
      refine At.enter rfl ?_
      refine r_iconst 1 rfl ?_
      refine r_goto ?_
      refine At.enter rfl ?_
      refine q_iretz (by decide) ?_
      refine At.enter rfl ?_
      refine r_iff 12 rfl (by decide) ?_
      refine At.enter rfl ?_
      refine r_iload_n rfl ?_
      refine q_i2l (fun v348 hv348 => ?_)
      refine r_lconst 0 rfl ?_
      refine r_ldc2 99 rfl ?_
      refine q_inlS 21 rfl [.long v348, .long 0, .long 99] [] (Nat.le_of_ble_eq_true rfl) rfl ?_
      refine Ev.mk rfl rfl ⟨Nat.le_of_ble_eq_true rfl, Or.inl rfl⟩ ?_
      show At _ none _ _ (0, [(0, .long v348), (2, .long 0), (4, .long 99)], [], (_, _)) _
      refine At.enter rfl ?_
      refine r_lload_n rfl ?_
      refine r_lload_n rfl ?_
      refine r_lcmp _ rfl ?_
      refine r_ifs 6 rfl (fun c349 => ?_) (fun c349 => ?_)
      · have c349_ : v348.toInt < 0 := en_j_lt_t c349
        refine At.enter rfl ?_
        refine r_iconst 0 rfl ?_
        refine Ar.fall 18 rfl ?_
        refine At.enter rfl ?_
        refine q_iretz (by decide) ?_
        refine At.enter rfl ?_
        refine r_ift (by decide) ?_
        refine At.enter rfl ?_
        refine r_iconst 0 rfl ?_
        refine Ar.fall 53 rfl ?_
        refine At.enter rfl ?_
        refine q_iretz (by decide) ?_
        refine At.enter rfl ?_
        refine r_iff 18 rfl (by decide) ?_
        refine At.enter rfl ?_
        refine r_aload_n rfl ?_
        refine r_iconst (-1) rfl ?_
        refine r_callV 23 rfl [.ref 231, .int (-1)] [] (Nat.le_of_ble_eq_true rfl) rfl (T_X11_tell_231 _ hI305 (-1) (by decide)) ?_
        rintro _ _ ⟨g350, rfl, hI351, hF352, v353, rfl, hr354⟩
        refine At.sti ?_
        have hF355 := Fr.tr hF306 hF352 rfl rfl
        have zv356 : ((-1) : Int32).toInt = (-1) := rfl
        refine At.enter rfl ?_
        refine r_ireti ?_
        obtain ⟨v357, hv357⟩ : ∃ v, eA g0 233 0 = v := ⟨_, rfl⟩
        have tv357 := congrArg Int32.toInt hv357
        have wv357 := HI.t0 hI0
        rw [hv357] at wv357
        have tv357 := congrArg Int32.toInt hv357
        have x358 := HI.eqA hI351 (p := 233) (j := 0) ((((eA_c (hF352.2.1 233 (by decide))).trans (eA_c gA_sI)).trans hv357))
        obtain ⟨v359, hv359⟩ : ∃ v, eA g0 233 4 = v := ⟨_, rfl⟩
        have wv359 := HI.t4 hI0
        rw [hv359] at wv359
        have tv359 := congrArg Int32.toInt hv359
        have x360 := HI.eqA hI351 (p := 233) (j := 4) ((((eA_c (hF352.2.1 233 (by decide))).trans (eA_c gA_sI)).trans hv359))
        obtain ⟨v361, hv361⟩ : ∃ v, eA g0 233 5 = v := ⟨_, rfl⟩
        have wv361 := HI.t5 hI0
        rw [hv361] at wv361
        have tv361 := congrArg Int32.toInt hv361
        have x362 := HI.eqA hI351 (p := 233) (j := 5) ((((eA_c (hF352.2.1 233 (by decide))).trans (eA_c gA_sI)).trans hv361))
        obtain ⟨v363, hv363⟩ : ∃ v, eA g0 233 6 = v := ⟨_, rfl⟩
        have wv363 := HI.t6 hI0
        rw [hv363] at wv363
        have tv363 := congrArg Int32.toInt hv363
        have x364 := HI.eqA hI351 (p := 233) (j := 6) ((((eA_c (hF352.2.1 233 (by decide))).trans (eA_c gA_sI)).trans hv363))
        have x365 := HI.eqA hI0 (p := 233) (j := 0) (hv357)
        have x366 := HI.eqA hI0 (p := 233) (j := 4) (hv359)
        have x367 := HI.eqA hI0 (p := 233) (j := 5) (hv361)
        have x368 := HI.eqA hI0 (p := 233) (j := 6) (hv363)
        exact ⟨_, rfl, hI351, hF355, _, rfl, by omega, ⟨⟨by omega, by omega, by omega, by omega⟩, (by intro i i0 i1; refine (eA_ti (((hF352.2.1 233 (by decide)).trans (gA_sI)))).trans ?_; (first | rfl | exact eA_ix (by omega) | omega)), (by intro i i0 i1; refine (eA_ti (((hF352.2.1 233 (by decide)).trans (gA_sI)))).trans ?_; (first | rfl | exact eA_ix (by omega) | omega))⟩⟩
      · have c349_ : v348.toInt ≥ 0 := en_j_lt_f c349
        refine At.enter rfl ?_
        refine r_lload_n rfl ?_
        refine r_lload rfl ?_
        refine r_lcmp _ rfl ?_
        refine r_ifs 13 rfl (fun c369 => ?_) (fun c369 => ?_)
        · have c369_ : v348.toInt > 99 := en_j_gt_t c369
          refine At.enter rfl ?_
          refine r_iconst 0 rfl ?_
          refine Ar.fall 18 rfl ?_
          refine At.enter rfl ?_
          refine q_iretz (by decide) ?_
          refine At.enter rfl ?_
          refine r_ift (by decide) ?_
          refine At.enter rfl ?_
          refine r_iconst 0 rfl ?_
          refine Ar.fall 53 rfl ?_
          refine At.enter rfl ?_
          refine q_iretz (by decide) ?_
          refine At.enter rfl ?_
          refine r_iff 18 rfl (by decide) ?_
          refine At.enter rfl ?_
          refine r_aload_n rfl ?_
          refine r_iconst (-1) rfl ?_
          refine r_callV 23 rfl [.ref 231, .int (-1)] [] (Nat.le_of_ble_eq_true rfl) rfl (T_X11_tell_231 _ hI305 (-1) (by decide)) ?_
          rintro _ _ ⟨g370, rfl, hI371, hF372, v373, rfl, hr374⟩
          refine At.sti ?_
          have hF375 := Fr.tr hF306 hF372 rfl rfl
          have zv376 : ((-1) : Int32).toInt = (-1) := rfl
          refine At.enter rfl ?_
          refine r_ireti ?_
          obtain ⟨v377, hv377⟩ : ∃ v, eA g0 233 0 = v := ⟨_, rfl⟩
          have tv377 := congrArg Int32.toInt hv377
          have wv377 := HI.t0 hI0
          rw [hv377] at wv377
          have tv377 := congrArg Int32.toInt hv377
          have x378 := HI.eqA hI371 (p := 233) (j := 0) ((((eA_c (hF372.2.1 233 (by decide))).trans (eA_c gA_sI)).trans hv377))
          obtain ⟨v379, hv379⟩ : ∃ v, eA g0 233 4 = v := ⟨_, rfl⟩
          have wv379 := HI.t4 hI0
          rw [hv379] at wv379
          have tv379 := congrArg Int32.toInt hv379
          have x380 := HI.eqA hI371 (p := 233) (j := 4) ((((eA_c (hF372.2.1 233 (by decide))).trans (eA_c gA_sI)).trans hv379))
          obtain ⟨v381, hv381⟩ : ∃ v, eA g0 233 5 = v := ⟨_, rfl⟩
          have wv381 := HI.t5 hI0
          rw [hv381] at wv381
          have tv381 := congrArg Int32.toInt hv381
          have x382 := HI.eqA hI371 (p := 233) (j := 5) ((((eA_c (hF372.2.1 233 (by decide))).trans (eA_c gA_sI)).trans hv381))
          obtain ⟨v383, hv383⟩ : ∃ v, eA g0 233 6 = v := ⟨_, rfl⟩
          have wv383 := HI.t6 hI0
          rw [hv383] at wv383
          have tv383 := congrArg Int32.toInt hv383
          have x384 := HI.eqA hI371 (p := 233) (j := 6) ((((eA_c (hF372.2.1 233 (by decide))).trans (eA_c gA_sI)).trans hv383))
          have x385 := HI.eqA hI0 (p := 233) (j := 0) (hv377)
          have x386 := HI.eqA hI0 (p := 233) (j := 4) (hv379)
          have x387 := HI.eqA hI0 (p := 233) (j := 5) (hv381)
          have x388 := HI.eqA hI0 (p := 233) (j := 6) (hv383)
          exact ⟨_, rfl, hI371, hF375, _, rfl, by omega, ⟨⟨by omega, by omega, by omega, by omega⟩, (by intro i i0 i1; refine (eA_ti (((hF372.2.1 233 (by decide)).trans (gA_sI)))).trans ?_; (first | rfl | exact eA_ix (by omega) | omega)), (by intro i i0 i1; refine (eA_ti (((hF372.2.1 233 (by decide)).trans (gA_sI)))).trans ?_; (first | rfl | exact eA_ix (by omega) | omega))⟩⟩
        · have c369_ : v348.toInt ≤ 99 := en_j_gt_f c369
          refine At.enter rfl ?_
          refine r_iconst 1 rfl ?_
          refine r_goto ?_
          refine At.enter rfl ?_
          refine q_iretz (by decide) ?_
          refine At.enter rfl ?_
          refine r_iff 24 rfl (by decide) ?_
          refine At.enter rfl ?_
          refine r_iload_n rfl ?_
          refine q_i2l (fun v389 hv389 => ?_)
          refine r_lconst 0 rfl ?_
          refine r_ldc2 9 rfl ?_
          refine q_inlS 33 rfl [.long v389, .long 0, .long 9] [] (Nat.le_of_ble_eq_true rfl) rfl ?_
          refine Ev.mk rfl rfl ⟨Nat.le_of_ble_eq_true rfl, Or.inl rfl⟩ ?_
          show At _ none _ _ (0, [(0, .long v389), (2, .long 0), (4, .long 9)], [], (_, _)) _
          refine At.enter rfl ?_
          refine r_lload_n rfl ?_
          refine r_lload_n rfl ?_
          refine r_lcmp _ rfl ?_
          refine r_ifs 6 rfl (fun c390 => ?_) (fun c390 => ?_)
          · have c390_ : v389.toInt < 0 := en_j_lt_t c390
            refine At.enter rfl ?_
            refine r_iconst 0 rfl ?_
            refine Ar.fall 18 rfl ?_
            refine At.enter rfl ?_
            refine q_iretz (by decide) ?_
            refine At.enter rfl ?_
            refine r_ift (by decide) ?_
            refine At.enter rfl ?_
            refine r_iconst 0 rfl ?_
            refine Ar.fall 53 rfl ?_
            refine At.enter rfl ?_
            refine q_iretz (by decide) ?_
            refine At.enter rfl ?_
            refine r_iff 18 rfl (by decide) ?_
            refine At.enter rfl ?_
            refine r_aload_n rfl ?_
            refine r_iconst (-1) rfl ?_
            refine r_callV 23 rfl [.ref 231, .int (-1)] [] (Nat.le_of_ble_eq_true rfl) rfl (T_X11_tell_231 _ hI305 (-1) (by decide)) ?_
            rintro _ _ ⟨g391, rfl, hI392, hF393, v394, rfl, hr395⟩
            refine At.sti ?_
            have hF396 := Fr.tr hF306 hF393 rfl rfl
            have zv397 : ((-1) : Int32).toInt = (-1) := rfl
            refine At.enter rfl ?_
            refine r_ireti ?_
            obtain ⟨v398, hv398⟩ : ∃ v, eA g0 233 0 = v := ⟨_, rfl⟩
            have tv398 := congrArg Int32.toInt hv398
            have wv398 := HI.t0 hI0
            rw [hv398] at wv398
            have tv398 := congrArg Int32.toInt hv398
            have x399 := HI.eqA hI392 (p := 233) (j := 0) ((((eA_c (hF393.2.1 233 (by decide))).trans (eA_c gA_sI)).trans hv398))
            obtain ⟨v400, hv400⟩ : ∃ v, eA g0 233 4 = v := ⟨_, rfl⟩
            have wv400 := HI.t4 hI0
            rw [hv400] at wv400
            have tv400 := congrArg Int32.toInt hv400
            have x401 := HI.eqA hI392 (p := 233) (j := 4) ((((eA_c (hF393.2.1 233 (by decide))).trans (eA_c gA_sI)).trans hv400))
            obtain ⟨v402, hv402⟩ : ∃ v, eA g0 233 5 = v := ⟨_, rfl⟩
            have wv402 := HI.t5 hI0
            rw [hv402] at wv402
            have tv402 := congrArg Int32.toInt hv402
            have x403 := HI.eqA hI392 (p := 233) (j := 5) ((((eA_c (hF393.2.1 233 (by decide))).trans (eA_c gA_sI)).trans hv402))
            obtain ⟨v404, hv404⟩ : ∃ v, eA g0 233 6 = v := ⟨_, rfl⟩
            have wv404 := HI.t6 hI0
            rw [hv404] at wv404
            have tv404 := congrArg Int32.toInt hv404
            have x405 := HI.eqA hI392 (p := 233) (j := 6) ((((eA_c (hF393.2.1 233 (by decide))).trans (eA_c gA_sI)).trans hv404))
            have x406 := HI.eqA hI0 (p := 233) (j := 0) (hv398)
            have x407 := HI.eqA hI0 (p := 233) (j := 4) (hv400)
            have x408 := HI.eqA hI0 (p := 233) (j := 5) (hv402)
            have x409 := HI.eqA hI0 (p := 233) (j := 6) (hv404)
            exact ⟨_, rfl, hI392, hF396, _, rfl, by omega, ⟨⟨by omega, by omega, by omega, by omega⟩, (by intro i i0 i1; refine (eA_ti (((hF393.2.1 233 (by decide)).trans (gA_sI)))).trans ?_; (first | rfl | exact eA_ix (by omega) | omega)), (by intro i i0 i1; refine (eA_ti (((hF393.2.1 233 (by decide)).trans (gA_sI)))).trans ?_; (first | rfl | exact eA_ix (by omega) | omega))⟩⟩
          · have c390_ : v389.toInt ≥ 0 := en_j_lt_f c390
            refine At.enter rfl ?_
            refine r_lload_n rfl ?_
            refine r_lload rfl ?_
            refine r_lcmp _ rfl ?_
            refine r_ifs 13 rfl (fun c410 => ?_) (fun c410 => ?_)
            · have c410_ : v389.toInt > 9 := en_j_gt_t c410
              refine At.enter rfl ?_
              refine r_iconst 0 rfl ?_
              refine Ar.fall 18 rfl ?_
              refine At.enter rfl ?_
              refine q_iretz (by decide) ?_
              refine At.enter rfl ?_
              refine r_ift (by decide) ?_
              refine At.enter rfl ?_
              refine r_iconst 0 rfl ?_
              refine Ar.fall 53 rfl ?_
              refine At.enter rfl ?_
              refine q_iretz (by decide) ?_
              refine At.enter rfl ?_
              refine r_iff 18 rfl (by decide) ?_
              refine At.enter rfl ?_
              refine r_aload_n rfl ?_
              refine r_iconst (-1) rfl ?_
              refine r_callV 23 rfl [.ref 231, .int (-1)] [] (Nat.le_of_ble_eq_true rfl) rfl (T_X11_tell_231 _ hI305 (-1) (by decide)) ?_
              rintro _ _ ⟨g411, rfl, hI412, hF413, v414, rfl, hr415⟩
              refine At.sti ?_
              have hF416 := Fr.tr hF306 hF413 rfl rfl
              have zv417 : ((-1) : Int32).toInt = (-1) := rfl
              refine At.enter rfl ?_
              refine r_ireti ?_
              obtain ⟨v418, hv418⟩ : ∃ v, eA g0 233 0 = v := ⟨_, rfl⟩
              have tv418 := congrArg Int32.toInt hv418
              have wv418 := HI.t0 hI0
              rw [hv418] at wv418
              have tv418 := congrArg Int32.toInt hv418
              have x419 := HI.eqA hI412 (p := 233) (j := 0) ((((eA_c (hF413.2.1 233 (by decide))).trans (eA_c gA_sI)).trans hv418))
              obtain ⟨v420, hv420⟩ : ∃ v, eA g0 233 4 = v := ⟨_, rfl⟩
              have wv420 := HI.t4 hI0
              rw [hv420] at wv420
              have tv420 := congrArg Int32.toInt hv420
              have x421 := HI.eqA hI412 (p := 233) (j := 4) ((((eA_c (hF413.2.1 233 (by decide))).trans (eA_c gA_sI)).trans hv420))
              obtain ⟨v422, hv422⟩ : ∃ v, eA g0 233 5 = v := ⟨_, rfl⟩
              have wv422 := HI.t5 hI0
              rw [hv422] at wv422
              have tv422 := congrArg Int32.toInt hv422
              have x423 := HI.eqA hI412 (p := 233) (j := 5) ((((eA_c (hF413.2.1 233 (by decide))).trans (eA_c gA_sI)).trans hv422))
              obtain ⟨v424, hv424⟩ : ∃ v, eA g0 233 6 = v := ⟨_, rfl⟩
              have wv424 := HI.t6 hI0
              rw [hv424] at wv424
              have tv424 := congrArg Int32.toInt hv424
              have x425 := HI.eqA hI412 (p := 233) (j := 6) ((((eA_c (hF413.2.1 233 (by decide))).trans (eA_c gA_sI)).trans hv424))
              have x426 := HI.eqA hI0 (p := 233) (j := 0) (hv418)
              have x427 := HI.eqA hI0 (p := 233) (j := 4) (hv420)
              have x428 := HI.eqA hI0 (p := 233) (j := 5) (hv422)
              have x429 := HI.eqA hI0 (p := 233) (j := 6) (hv424)
              exact ⟨_, rfl, hI412, hF416, _, rfl, by omega, ⟨⟨by omega, by omega, by omega, by omega⟩, (by intro i i0 i1; refine (eA_ti (((hF413.2.1 233 (by decide)).trans (gA_sI)))).trans ?_; (first | rfl | exact eA_ix (by omega) | omega)), (by intro i i0 i1; refine (eA_ti (((hF413.2.1 233 (by decide)).trans (gA_sI)))).trans ?_; (first | rfl | exact eA_ix (by omega) | omega))⟩⟩
            · have c410_ : v389.toInt ≤ 9 := en_j_gt_f c410
              refine At.enter rfl ?_
              refine r_iconst 1 rfl ?_
              refine r_goto ?_
              refine At.enter rfl ?_
              refine q_iretz (by decide) ?_
              refine At.enter rfl ?_
              refine r_iff 36 rfl (by decide) ?_
              refine At.enter rfl ?_
              refine r_iload_n rfl ?_
              refine q_i2l (fun v430 hv430 => ?_)
              refine r_lconst 0 rfl ?_
              refine r_ldc2 9999 rfl ?_
              refine q_inlS 45 rfl [.long v430, .long 0, .long 9999] [] (Nat.le_of_ble_eq_true rfl) rfl ?_
              refine Ev.mk rfl rfl ⟨Nat.le_of_ble_eq_true rfl, Or.inl rfl⟩ ?_
              show At _ none _ _ (0, [(0, .long v430), (2, .long 0), (4, .long 9999)], [], (_, _)) _
              refine At.enter rfl ?_
              refine r_lload_n rfl ?_
              refine r_lload_n rfl ?_
              refine r_lcmp _ rfl ?_
              refine r_ifs 6 rfl (fun c431 => ?_) (fun c431 => ?_)
              · have c431_ : v430.toInt < 0 := en_j_lt_t c431
                refine At.enter rfl ?_
                refine r_iconst 0 rfl ?_
                refine Ar.fall 18 rfl ?_
                refine At.enter rfl ?_
                refine q_iretz (by decide) ?_
                refine At.enter rfl ?_
                refine r_ift (by decide) ?_
                refine At.enter rfl ?_
                refine r_iconst 0 rfl ?_
                refine Ar.fall 53 rfl ?_
                refine At.enter rfl ?_
                refine q_iretz (by decide) ?_
                refine At.enter rfl ?_
                refine r_iff 18 rfl (by decide) ?_
                refine At.enter rfl ?_
                refine r_aload_n rfl ?_
                refine r_iconst (-1) rfl ?_
                refine r_callV 23 rfl [.ref 231, .int (-1)] [] (Nat.le_of_ble_eq_true rfl) rfl (T_X11_tell_231 _ hI305 (-1) (by decide)) ?_
                rintro _ _ ⟨g432, rfl, hI433, hF434, v435, rfl, hr436⟩
                refine At.sti ?_
                have hF437 := Fr.tr hF306 hF434 rfl rfl
                have zv438 : ((-1) : Int32).toInt = (-1) := rfl
                refine At.enter rfl ?_
                refine r_ireti ?_
                obtain ⟨v439, hv439⟩ : ∃ v, eA g0 233 0 = v := ⟨_, rfl⟩
                have tv439 := congrArg Int32.toInt hv439
                have wv439 := HI.t0 hI0
                rw [hv439] at wv439
                have tv439 := congrArg Int32.toInt hv439
                have x440 := HI.eqA hI433 (p := 233) (j := 0) ((((eA_c (hF434.2.1 233 (by decide))).trans (eA_c gA_sI)).trans hv439))
                obtain ⟨v441, hv441⟩ : ∃ v, eA g0 233 4 = v := ⟨_, rfl⟩
                have wv441 := HI.t4 hI0
                rw [hv441] at wv441
                have tv441 := congrArg Int32.toInt hv441
                have x442 := HI.eqA hI433 (p := 233) (j := 4) ((((eA_c (hF434.2.1 233 (by decide))).trans (eA_c gA_sI)).trans hv441))
                obtain ⟨v443, hv443⟩ : ∃ v, eA g0 233 5 = v := ⟨_, rfl⟩
                have wv443 := HI.t5 hI0
                rw [hv443] at wv443
                have tv443 := congrArg Int32.toInt hv443
                have x444 := HI.eqA hI433 (p := 233) (j := 5) ((((eA_c (hF434.2.1 233 (by decide))).trans (eA_c gA_sI)).trans hv443))
                obtain ⟨v445, hv445⟩ : ∃ v, eA g0 233 6 = v := ⟨_, rfl⟩
                have wv445 := HI.t6 hI0
                rw [hv445] at wv445
                have tv445 := congrArg Int32.toInt hv445
                have x446 := HI.eqA hI433 (p := 233) (j := 6) ((((eA_c (hF434.2.1 233 (by decide))).trans (eA_c gA_sI)).trans hv445))
                have x447 := HI.eqA hI0 (p := 233) (j := 0) (hv439)
                have x448 := HI.eqA hI0 (p := 233) (j := 4) (hv441)
                have x449 := HI.eqA hI0 (p := 233) (j := 5) (hv443)
                have x450 := HI.eqA hI0 (p := 233) (j := 6) (hv445)
                exact ⟨_, rfl, hI433, hF437, _, rfl, by omega, ⟨⟨by omega, by omega, by omega, by omega⟩, (by intro i i0 i1; refine (eA_ti (((hF434.2.1 233 (by decide)).trans (gA_sI)))).trans ?_; (first | rfl | exact eA_ix (by omega) | omega)), (by intro i i0 i1; refine (eA_ti (((hF434.2.1 233 (by decide)).trans (gA_sI)))).trans ?_; (first | rfl | exact eA_ix (by omega) | omega))⟩⟩
              · have c431_ : v430.toInt ≥ 0 := en_j_lt_f c431
                refine At.enter rfl ?_
                refine r_lload_n rfl ?_
                refine r_lload rfl ?_
                refine r_lcmp _ rfl ?_
                refine r_ifs 13 rfl (fun c451 => ?_) (fun c451 => ?_)
                · have c451_ : v430.toInt > 9999 := en_j_gt_t c451
                  refine At.enter rfl ?_
                  refine r_iconst 0 rfl ?_
                  refine Ar.fall 18 rfl ?_
                  refine At.enter rfl ?_
                  refine q_iretz (by decide) ?_
                  refine At.enter rfl ?_
                  refine r_ift (by decide) ?_
                  refine At.enter rfl ?_
                  refine r_iconst 0 rfl ?_
                  refine Ar.fall 53 rfl ?_
                  refine At.enter rfl ?_
                  refine q_iretz (by decide) ?_
                  refine At.enter rfl ?_
                  refine r_iff 18 rfl (by decide) ?_
                  refine At.enter rfl ?_
                  refine r_aload_n rfl ?_
                  refine r_iconst (-1) rfl ?_
                  refine r_callV 23 rfl [.ref 231, .int (-1)] [] (Nat.le_of_ble_eq_true rfl) rfl (T_X11_tell_231 _ hI305 (-1) (by decide)) ?_
                  rintro _ _ ⟨g452, rfl, hI453, hF454, v455, rfl, hr456⟩
                  refine At.sti ?_
                  have hF457 := Fr.tr hF306 hF454 rfl rfl
                  have zv458 : ((-1) : Int32).toInt = (-1) := rfl
                  refine At.enter rfl ?_
                  refine r_ireti ?_
                  obtain ⟨v459, hv459⟩ : ∃ v, eA g0 233 0 = v := ⟨_, rfl⟩
                  have tv459 := congrArg Int32.toInt hv459
                  have wv459 := HI.t0 hI0
                  rw [hv459] at wv459
                  have tv459 := congrArg Int32.toInt hv459
                  have x460 := HI.eqA hI453 (p := 233) (j := 0) ((((eA_c (hF454.2.1 233 (by decide))).trans (eA_c gA_sI)).trans hv459))
                  obtain ⟨v461, hv461⟩ : ∃ v, eA g0 233 4 = v := ⟨_, rfl⟩
                  have wv461 := HI.t4 hI0
                  rw [hv461] at wv461
                  have tv461 := congrArg Int32.toInt hv461
                  have x462 := HI.eqA hI453 (p := 233) (j := 4) ((((eA_c (hF454.2.1 233 (by decide))).trans (eA_c gA_sI)).trans hv461))
                  obtain ⟨v463, hv463⟩ : ∃ v, eA g0 233 5 = v := ⟨_, rfl⟩
                  have wv463 := HI.t5 hI0
                  rw [hv463] at wv463
                  have tv463 := congrArg Int32.toInt hv463
                  have x464 := HI.eqA hI453 (p := 233) (j := 5) ((((eA_c (hF454.2.1 233 (by decide))).trans (eA_c gA_sI)).trans hv463))
                  obtain ⟨v465, hv465⟩ : ∃ v, eA g0 233 6 = v := ⟨_, rfl⟩
                  have wv465 := HI.t6 hI0
                  rw [hv465] at wv465
                  have tv465 := congrArg Int32.toInt hv465
                  have x466 := HI.eqA hI453 (p := 233) (j := 6) ((((eA_c (hF454.2.1 233 (by decide))).trans (eA_c gA_sI)).trans hv465))
                  have x467 := HI.eqA hI0 (p := 233) (j := 0) (hv459)
                  have x468 := HI.eqA hI0 (p := 233) (j := 4) (hv461)
                  have x469 := HI.eqA hI0 (p := 233) (j := 5) (hv463)
                  have x470 := HI.eqA hI0 (p := 233) (j := 6) (hv465)
                  exact ⟨_, rfl, hI453, hF457, _, rfl, by omega, ⟨⟨by omega, by omega, by omega, by omega⟩, (by intro i i0 i1; refine (eA_ti (((hF454.2.1 233 (by decide)).trans (gA_sI)))).trans ?_; (first | rfl | exact eA_ix (by omega) | omega)), (by intro i i0 i1; refine (eA_ti (((hF454.2.1 233 (by decide)).trans (gA_sI)))).trans ?_; (first | rfl | exact eA_ix (by omega) | omega))⟩⟩
                · have c451_ : v430.toInt ≤ 9999 := en_j_gt_f c451
                  refine At.enter rfl ?_
                  refine r_iconst 1 rfl ?_
                  refine r_goto ?_
                  refine At.enter rfl ?_
                  refine q_iretz (by decide) ?_
                  refine At.enter rfl ?_
                  refine r_iff 48 rfl (by decide) ?_
                  refine At.enter rfl ?_
                  refine r_iconst 1 rfl ?_
                  refine r_goto ?_
                  refine At.enter rfl ?_
                  refine q_iretz (by decide) ?_
                  refine At.enter rfl ?_
                  refine r_ift (by decide) ?_
                  refine At.enter rfl ?_
                  refine r_aload_n rfl ?_
                  refine r_iload_n rfl ?_
                  refine q_inlV 29 rfl [.ref 231, .int a2] [] (Nat.le_of_ble_eq_true rfl) rfl ?_
                  refine Ev.mk rfl rfl ⟨Nat.le_of_ble_eq_true rfl, Or.inr (q_rc hI305.1 kx_231 rfl)⟩ ?_
                  show At _ none _ _ (0, [(0, .ref 231), (1, .int a2)], [], (_, _)) _
                  refine At.enter rfl ?_
                  refine r_iload_n rfl ?_
                  refine q_i2l (fun v471 hv471 => ?_)
                  refine r_lconst 0 rfl ?_
                  refine r_aload_n rfl ?_
                  refine q_getR (Sh.ref hI305.1 kx_231 rfl) ?_
                  refine r_iconst 0 rfl ?_
                  obtain ⟨v472, hv472⟩ : ∃ v, eA g0 233 0 = v := ⟨_, rfl⟩
                  have tv472 := congrArg Int32.toInt hv472
                  have wv472 := HI.t0 hI0
                  rw [hv472] at wv472
                  refine q_iald (Sh.arr hI305.1 ka_233) 0 rfl (by decide) v472 ((eA_c (gA_sI)).trans hv472) ?_
                  refine q_i2l (fun v473 hv473 => ?_)
                  refine r_lconst 1 rfl ?_
                  refine q_lsub (v473.toInt - 1) rfl (by omega) (fun v474 hv474 => ?_)
                  refine q_inlS 15 rfl [.long v471, .long 0, .long v474] [] (Nat.le_of_ble_eq_true rfl) rfl ?_
                  refine Ev.mk rfl rfl ⟨Nat.le_of_ble_eq_true rfl, Or.inl rfl⟩ ?_
                  show At _ none _ _ (0, [(0, .long v471), (2, .long 0), (4, .long v474)], [], (_, _)) _
                  refine At.enter rfl ?_
                  refine r_lload_n rfl ?_
                  refine r_lload_n rfl ?_
                  refine r_lcmp _ rfl ?_
                  refine r_ifs 6 rfl (fun c475 => ?_) (fun c475 => ?_)
                  · have c475_ : v471.toInt < 0 := en_j_lt_t c475
                    refine At.enter rfl ?_
                    refine r_iconst 0 rfl ?_
                    refine Ar.fall 18 rfl ?_
                    refine At.enter rfl ?_
                    refine q_iretz (by decide) ?_
                    refine At.enter rfl ?_
                    refine q_iretz (by decide) ?_
                    refine At.enter rfl ?_
                    refine r_ift (by decide) ?_
                    refine At.enter rfl ?_
                    refine r_aload_n rfl ?_
                    refine r_bipush (-2) rfl ?_
                    refine r_callV 46 rfl [.ref 231, .int (-2)] [] (Nat.le_of_ble_eq_true rfl) rfl (T_X11_tell_231 _ hI305 (-2) (by decide)) ?_
                    rintro _ _ ⟨g476, rfl, hI477, hF478, v479, rfl, hr480⟩
                    refine At.sti ?_
                    have hF481 := Fr.tr hF306 hF478 rfl rfl
                    have zv482 : ((-2) : Int32).toInt = (-2) := rfl
                    refine At.enter rfl ?_
                    refine r_ireti ?_
                    have x483 := HI.eqA hI477 (p := 233) (j := 0) ((((eA_c (hF478.2.1 233 (by decide))).trans (eA_c gA_sI)).trans hv472))
                    obtain ⟨v484, hv484⟩ : ∃ v, eA g0 233 4 = v := ⟨_, rfl⟩
                    have wv484 := HI.t4 hI0
                    rw [hv484] at wv484
                    have tv484 := congrArg Int32.toInt hv484
                    have x485 := HI.eqA hI477 (p := 233) (j := 4) ((((eA_c (hF478.2.1 233 (by decide))).trans (eA_c gA_sI)).trans hv484))
                    obtain ⟨v486, hv486⟩ : ∃ v, eA g0 233 5 = v := ⟨_, rfl⟩
                    have wv486 := HI.t5 hI0
                    rw [hv486] at wv486
                    have tv486 := congrArg Int32.toInt hv486
                    have x487 := HI.eqA hI477 (p := 233) (j := 5) ((((eA_c (hF478.2.1 233 (by decide))).trans (eA_c gA_sI)).trans hv486))
                    obtain ⟨v488, hv488⟩ : ∃ v, eA g0 233 6 = v := ⟨_, rfl⟩
                    have wv488 := HI.t6 hI0
                    rw [hv488] at wv488
                    have tv488 := congrArg Int32.toInt hv488
                    have x489 := HI.eqA hI477 (p := 233) (j := 6) ((((eA_c (hF478.2.1 233 (by decide))).trans (eA_c gA_sI)).trans hv488))
                    have x490 := HI.eqA hI0 (p := 233) (j := 0) (hv472)
                    have x491 := HI.eqA hI0 (p := 233) (j := 4) (hv484)
                    have x492 := HI.eqA hI0 (p := 233) (j := 5) (hv486)
                    have x493 := HI.eqA hI0 (p := 233) (j := 6) (hv488)
                    exact ⟨_, rfl, hI477, hF481, _, rfl, by omega, ⟨⟨by omega, by omega, by omega, by omega⟩, (by intro i i0 i1; refine (eA_ti (((hF478.2.1 233 (by decide)).trans (gA_sI)))).trans ?_; (first | rfl | exact eA_ix (by omega) | omega)), (by intro i i0 i1; refine (eA_ti (((hF478.2.1 233 (by decide)).trans (gA_sI)))).trans ?_; (first | rfl | exact eA_ix (by omega) | omega))⟩⟩
                  · have c475_ : v471.toInt ≥ 0 := en_j_lt_f c475
                    refine At.enter rfl ?_
                    refine r_lload_n rfl ?_
                    refine r_lload rfl ?_
                    refine r_lcmp _ rfl ?_
                    refine r_ifs 13 rfl (fun c494 => ?_) (fun c494 => ?_)
                    · have c494_ : v471.toInt > v474.toInt := en_j_gt_t c494
                      refine At.enter rfl ?_
                      refine r_iconst 0 rfl ?_
                      refine Ar.fall 18 rfl ?_
                      refine At.enter rfl ?_
                      refine q_iretz (by decide) ?_
                      refine At.enter rfl ?_
                      refine q_iretz (by decide) ?_
                      refine At.enter rfl ?_
                      refine r_ift (by decide) ?_
                      refine At.enter rfl ?_
                      refine r_aload_n rfl ?_
                      refine r_bipush (-2) rfl ?_
                      refine r_callV 46 rfl [.ref 231, .int (-2)] [] (Nat.le_of_ble_eq_true rfl) rfl (T_X11_tell_231 _ hI305 (-2) (by decide)) ?_
                      rintro _ _ ⟨g495, rfl, hI496, hF497, v498, rfl, hr499⟩
                      refine At.sti ?_
                      have hF500 := Fr.tr hF306 hF497 rfl rfl
                      have zv501 : ((-2) : Int32).toInt = (-2) := rfl
                      refine At.enter rfl ?_
                      refine r_ireti ?_
                      have x502 := HI.eqA hI496 (p := 233) (j := 0) ((((eA_c (hF497.2.1 233 (by decide))).trans (eA_c gA_sI)).trans hv472))
                      obtain ⟨v503, hv503⟩ : ∃ v, eA g0 233 4 = v := ⟨_, rfl⟩
                      have wv503 := HI.t4 hI0
                      rw [hv503] at wv503
                      have tv503 := congrArg Int32.toInt hv503
                      have x504 := HI.eqA hI496 (p := 233) (j := 4) ((((eA_c (hF497.2.1 233 (by decide))).trans (eA_c gA_sI)).trans hv503))
                      obtain ⟨v505, hv505⟩ : ∃ v, eA g0 233 5 = v := ⟨_, rfl⟩
                      have wv505 := HI.t5 hI0
                      rw [hv505] at wv505
                      have tv505 := congrArg Int32.toInt hv505
                      have x506 := HI.eqA hI496 (p := 233) (j := 5) ((((eA_c (hF497.2.1 233 (by decide))).trans (eA_c gA_sI)).trans hv505))
                      obtain ⟨v507, hv507⟩ : ∃ v, eA g0 233 6 = v := ⟨_, rfl⟩
                      have wv507 := HI.t6 hI0
                      rw [hv507] at wv507
                      have tv507 := congrArg Int32.toInt hv507
                      have x508 := HI.eqA hI496 (p := 233) (j := 6) ((((eA_c (hF497.2.1 233 (by decide))).trans (eA_c gA_sI)).trans hv507))
                      have x509 := HI.eqA hI0 (p := 233) (j := 0) (hv472)
                      have x510 := HI.eqA hI0 (p := 233) (j := 4) (hv503)
                      have x511 := HI.eqA hI0 (p := 233) (j := 5) (hv505)
                      have x512 := HI.eqA hI0 (p := 233) (j := 6) (hv507)
                      exact ⟨_, rfl, hI496, hF500, _, rfl, by omega, ⟨⟨by omega, by omega, by omega, by omega⟩, (by intro i i0 i1; refine (eA_ti (((hF497.2.1 233 (by decide)).trans (gA_sI)))).trans ?_; (first | rfl | exact eA_ix (by omega) | omega)), (by intro i i0 i1; refine (eA_ti (((hF497.2.1 233 (by decide)).trans (gA_sI)))).trans ?_; (first | rfl | exact eA_ix (by omega) | omega))⟩⟩
                    · have c494_ : v471.toInt ≤ v474.toInt := en_j_gt_f c494
                      refine At.enter rfl ?_
                      refine r_iconst 1 rfl ?_
                      refine r_goto ?_
                      refine At.enter rfl ?_
                      refine q_iretz (by decide) ?_
                      refine At.enter rfl ?_
                      refine q_iretz (by decide) ?_
                      refine At.enter rfl ?_
                      refine r_iff 32 rfl (by decide) ?_
                      refine At.enter rfl ?_
                      refine r_aload_n rfl ?_
                      refine r_iload_n rfl ?_
                      refine q_inlV 37 rfl [.ref 231, .int a3] [] (Nat.le_of_ble_eq_true rfl) rfl ?_
                      refine Ev.mk rfl rfl ⟨Nat.le_of_ble_eq_true rfl, Or.inr (q_rc hI305.1 kx_231 rfl)⟩ ?_
                      show At _ none _ _ (0, [(0, .ref 231), (1, .int a3)], [], (_, _)) _
                      refine At.enter rfl ?_
                      refine r_iload_n rfl ?_
                      refine q_i2l (fun v513 hv513 => ?_)
                      refine r_lconst 0 rfl ?_
                      refine r_aload_n rfl ?_
                      refine q_getR (Sh.ref hI305.1 kx_231 rfl) ?_
                      refine r_iconst 0 rfl ?_
                      refine q_iald (Sh.arr hI305.1 ka_233) 0 rfl (by decide) v472 ((eA_c (gA_sI)).trans hv472) ?_
                      refine q_i2l (fun v514 hv514 => ?_)
                      refine r_lconst 1 rfl ?_
                      refine q_lsub (v514.toInt - 1) rfl (by omega) (fun v515 hv515 => ?_)
                      refine q_inlS 15 rfl [.long v513, .long 0, .long v515] [] (Nat.le_of_ble_eq_true rfl) rfl ?_
                      refine Ev.mk rfl rfl ⟨Nat.le_of_ble_eq_true rfl, Or.inl rfl⟩ ?_
                      show At _ none _ _ (0, [(0, .long v513), (2, .long 0), (4, .long v515)], [], (_, _)) _
                      refine At.enter rfl ?_
                      refine r_lload_n rfl ?_
                      refine r_lload_n rfl ?_
                      refine r_lcmp _ rfl ?_
                      refine r_ifs 6 rfl (fun c516 => ?_) (fun c516 => ?_)
                      · have c516_ : v513.toInt < 0 := en_j_lt_t c516
                        refine At.enter rfl ?_
                        refine r_iconst 0 rfl ?_
                        refine Ar.fall 18 rfl ?_
                        refine At.enter rfl ?_
                        refine q_iretz (by decide) ?_
                        refine At.enter rfl ?_
                        refine q_iretz (by decide) ?_
                        refine At.enter rfl ?_
                        refine r_iff 40 rfl (by decide) ?_
                        refine At.enter rfl ?_
                        refine r_aload_n rfl ?_
                        refine r_bipush (-2) rfl ?_
                        refine r_callV 46 rfl [.ref 231, .int (-2)] [] (Nat.le_of_ble_eq_true rfl) rfl (T_X11_tell_231 _ hI305 (-2) (by decide)) ?_
                        rintro _ _ ⟨g517, rfl, hI518, hF519, v520, rfl, hr521⟩
                        refine At.sti ?_
                        have hF522 := Fr.tr hF306 hF519 rfl rfl
                        have zv523 : ((-2) : Int32).toInt = (-2) := rfl
                        refine At.enter rfl ?_
                        refine r_ireti ?_
                        have x524 := HI.eqA hI518 (p := 233) (j := 0) ((((eA_c (hF519.2.1 233 (by decide))).trans (eA_c gA_sI)).trans hv472))
                        obtain ⟨v525, hv525⟩ : ∃ v, eA g0 233 4 = v := ⟨_, rfl⟩
                        have wv525 := HI.t4 hI0
                        rw [hv525] at wv525
                        have tv525 := congrArg Int32.toInt hv525
                        have x526 := HI.eqA hI518 (p := 233) (j := 4) ((((eA_c (hF519.2.1 233 (by decide))).trans (eA_c gA_sI)).trans hv525))
                        obtain ⟨v527, hv527⟩ : ∃ v, eA g0 233 5 = v := ⟨_, rfl⟩
                        have wv527 := HI.t5 hI0
                        rw [hv527] at wv527
                        have tv527 := congrArg Int32.toInt hv527
                        have x528 := HI.eqA hI518 (p := 233) (j := 5) ((((eA_c (hF519.2.1 233 (by decide))).trans (eA_c gA_sI)).trans hv527))
                        obtain ⟨v529, hv529⟩ : ∃ v, eA g0 233 6 = v := ⟨_, rfl⟩
                        have wv529 := HI.t6 hI0
                        rw [hv529] at wv529
                        have tv529 := congrArg Int32.toInt hv529
                        have x530 := HI.eqA hI518 (p := 233) (j := 6) ((((eA_c (hF519.2.1 233 (by decide))).trans (eA_c gA_sI)).trans hv529))
                        have x531 := HI.eqA hI0 (p := 233) (j := 0) (hv472)
                        have x532 := HI.eqA hI0 (p := 233) (j := 4) (hv525)
                        have x533 := HI.eqA hI0 (p := 233) (j := 5) (hv527)
                        have x534 := HI.eqA hI0 (p := 233) (j := 6) (hv529)
                        exact ⟨_, rfl, hI518, hF522, _, rfl, by omega, ⟨⟨by omega, by omega, by omega, by omega⟩, (by intro i i0 i1; refine (eA_ti (((hF519.2.1 233 (by decide)).trans (gA_sI)))).trans ?_; (first | rfl | exact eA_ix (by omega) | omega)), (by intro i i0 i1; refine (eA_ti (((hF519.2.1 233 (by decide)).trans (gA_sI)))).trans ?_; (first | rfl | exact eA_ix (by omega) | omega))⟩⟩
                      · have c516_ : v513.toInt ≥ 0 := en_j_lt_f c516
                        refine At.enter rfl ?_
                        refine r_lload_n rfl ?_
                        refine r_lload rfl ?_
                        refine r_lcmp _ rfl ?_
                        refine r_ifs 13 rfl (fun c535 => ?_) (fun c535 => ?_)
                        · have c535_ : v513.toInt > v515.toInt := en_j_gt_t c535
                          refine At.enter rfl ?_
                          refine r_iconst 0 rfl ?_
                          refine Ar.fall 18 rfl ?_
                          refine At.enter rfl ?_
                          refine q_iretz (by decide) ?_
                          refine At.enter rfl ?_
                          refine q_iretz (by decide) ?_
                          refine At.enter rfl ?_
                          refine r_iff 40 rfl (by decide) ?_
                          refine At.enter rfl ?_
                          refine r_aload_n rfl ?_
                          refine r_bipush (-2) rfl ?_
                          refine r_callV 46 rfl [.ref 231, .int (-2)] [] (Nat.le_of_ble_eq_true rfl) rfl (T_X11_tell_231 _ hI305 (-2) (by decide)) ?_
                          rintro _ _ ⟨g536, rfl, hI537, hF538, v539, rfl, hr540⟩
                          refine At.sti ?_
                          have hF541 := Fr.tr hF306 hF538 rfl rfl
                          have zv542 : ((-2) : Int32).toInt = (-2) := rfl
                          refine At.enter rfl ?_
                          refine r_ireti ?_
                          have x543 := HI.eqA hI537 (p := 233) (j := 0) ((((eA_c (hF538.2.1 233 (by decide))).trans (eA_c gA_sI)).trans hv472))
                          obtain ⟨v544, hv544⟩ : ∃ v, eA g0 233 4 = v := ⟨_, rfl⟩
                          have wv544 := HI.t4 hI0
                          rw [hv544] at wv544
                          have tv544 := congrArg Int32.toInt hv544
                          have x545 := HI.eqA hI537 (p := 233) (j := 4) ((((eA_c (hF538.2.1 233 (by decide))).trans (eA_c gA_sI)).trans hv544))
                          obtain ⟨v546, hv546⟩ : ∃ v, eA g0 233 5 = v := ⟨_, rfl⟩
                          have wv546 := HI.t5 hI0
                          rw [hv546] at wv546
                          have tv546 := congrArg Int32.toInt hv546
                          have x547 := HI.eqA hI537 (p := 233) (j := 5) ((((eA_c (hF538.2.1 233 (by decide))).trans (eA_c gA_sI)).trans hv546))
                          obtain ⟨v548, hv548⟩ : ∃ v, eA g0 233 6 = v := ⟨_, rfl⟩
                          have wv548 := HI.t6 hI0
                          rw [hv548] at wv548
                          have tv548 := congrArg Int32.toInt hv548
                          have x549 := HI.eqA hI537 (p := 233) (j := 6) ((((eA_c (hF538.2.1 233 (by decide))).trans (eA_c gA_sI)).trans hv548))
                          have x550 := HI.eqA hI0 (p := 233) (j := 0) (hv472)
                          have x551 := HI.eqA hI0 (p := 233) (j := 4) (hv544)
                          have x552 := HI.eqA hI0 (p := 233) (j := 5) (hv546)
                          have x553 := HI.eqA hI0 (p := 233) (j := 6) (hv548)
                          exact ⟨_, rfl, hI537, hF541, _, rfl, by omega, ⟨⟨by omega, by omega, by omega, by omega⟩, (by intro i i0 i1; refine (eA_ti (((hF538.2.1 233 (by decide)).trans (gA_sI)))).trans ?_; (first | rfl | exact eA_ix (by omega) | omega)), (by intro i i0 i1; refine (eA_ti (((hF538.2.1 233 (by decide)).trans (gA_sI)))).trans ?_; (first | rfl | exact eA_ix (by omega) | omega))⟩⟩
                        · have c535_ : v513.toInt ≤ v515.toInt := en_j_gt_f c535
                          refine At.enter rfl ?_
                          refine r_iconst 1 rfl ?_
                          refine r_goto ?_
                          refine At.enter rfl ?_
                          refine q_iretz (by decide) ?_
                          refine At.enter rfl ?_
                          refine q_iretz (by decide) ?_
                          refine At.enter rfl ?_
                          refine r_ift (by decide) ?_
                          refine At.enter rfl ?_
                          refine r_aload_n rfl ?_
                          refine q_getR (Sh.ref hI305.1 kx_231 rfl) ?_
                          refine r_iconst 1 rfl ?_
                          obtain ⟨v554, hv554⟩ : ∃ v, eA g0 233 1 = v := ⟨_, rfl⟩
                          have tv554 := congrArg Int32.toInt hv554
                          have wv554 := HI.t1 hI0
                          rw [hv554] at wv554
                          refine q_iald (Sh.arr hI305.1 ka_233) 1 rfl (by decide) v554 ((eA_c (gA_sI)).trans hv554) ?_
                          refine r_bipush 8 rfl ?_
                          refine r_ics 58 rfl (fun c555 => ?_) (fun c555 => ?_)
                          · have c555_ : v554.toInt ≠ 8 := en_i_ne_t c555
                            refine At.enter rfl ?_
                            refine r_aload_n rfl ?_
                            refine r_iload_n rfl ?_
                            refine r_iload_n rfl ?_
                            refine r_iload_n rfl ?_
                            refine r_iload rfl ?_
                            refine r_iload rfl ?_
                            refine r_iload rfl ?_
                            refine q_inlV 78 rfl [.ref 231, .int a1, .int a2, .int a3, .int a4, .int a5, .int a6] [] (Nat.le_of_ble_eq_true rfl) rfl ?_
                            refine Ev.mk rfl rfl ⟨Nat.le_of_ble_eq_true rfl, Or.inr (q_rc hI305.1 kx_231 rfl)⟩ ?_
                            show At _ none _ _ (0, [(0, .ref 231), (1, .int a1), (2, .int a2), (3, .int a3), (4, .int a4), (5, .int a5), (6, .int a6)], [], (_, _)) _
                            refine At.enter rfl ?_
                            refine r_bipush 46 rfl ?_
                            refine r_bipush 6 rfl ?_
                            refine r_aload_n rfl ?_
                            refine q_getR (Sh.ref hI305.1 kx_231 rfl) ?_
                            refine r_iconst 1 rfl ?_
                            refine q_iald (Sh.arr hI305.1 ka_233) 1 rfl (by decide) v554 ((eA_c (gA_sI)).trans hv554) ?_
                            refine q_imul (6 * v554.toInt) rfl (by omega) (fun v556 hv556 => ?_)
                            refine q_iadd (46 + v556.toInt) rfl (by omega) (fun v557 hv557 => ?_)
                            refine r_istore ([(7, .int v557), (0, .ref 231), (1, .int a1), (2, .int a2), (3, .int a3), (4, .int a4), (5, .int a5), (6, .int a6)]) rfl ?_
                            refine r_aload_n rfl ?_
                            refine q_getR (Sh.ref hI305.1 kx_231 rfl) ?_
                            refine r_iload rfl ?_
                            refine r_iload_n rfl ?_
                            refine q_iast (Sh.arr hI305.1 ka_233) ((6 * v554.toInt + 46)) (by omega) (by omega) ?_
                            have hI558 := HI.wl hI305 (j := (6 * v554.toInt + 46)) (v := a1) (v554.toInt) 0 (by omega) (by decide) (by omega) (by omega)
                            have hF559 := Fr.wA (p := 233) (j := (6 * v554.toInt + 46)) (v := a1) hF306 rfl
                            refine r_aload_n rfl ?_
                            refine q_getR (Sh.ref hI558.1 kx_231 rfl) ?_
                            refine r_iload rfl ?_
                            refine r_iconst 1 rfl ?_
                            refine q_iadd (v557.toInt + 1) rfl (by omega) (fun v560 hv560 => ?_)
                            refine r_iload_n rfl ?_
                            refine q_iast (Sh.arr hI558.1 ka_233) ((6 * v554.toInt + 47)) (by omega) (by omega) ?_
                            have x563 := HI.eqA hI558 (p := 233) (j := 0) ((((eA_sA_ne hI305.1 ka_233 (by first | decide | omega) (by first | decide | omega) (by first | decide | omega)).trans (eA_c gA_sI)).trans hv472))
                            have hI561 := HI.wl hI558 (j := (6 * v554.toInt + 47)) (v := a2) (v554.toInt) 1 (by omega) (by decide) (by omega) (by omega)
                            have hF562 := Fr.wA (p := 233) (j := (6 * v554.toInt + 47)) (v := a2) hF559 rfl
                            refine r_aload_n rfl ?_
                            refine q_getR (Sh.ref hI561.1 kx_231 rfl) ?_
                            refine r_iload rfl ?_
                            refine r_iconst 2 rfl ?_
                            refine q_iadd (v557.toInt + 2) rfl (by omega) (fun v564 hv564 => ?_)
                            refine r_iload_n rfl ?_
                            refine q_iast (Sh.arr hI561.1 ka_233) ((6 * v554.toInt + 48)) (by omega) (by omega) ?_
                            have x567 := HI.eqA hI561 (p := 233) (j := 0) ((((eA_sA_ne hI558.1 ka_233 (by first | decide | omega) (by first | decide | omega) (by first | decide | omega)).trans ((eA_sA_ne hI305.1 ka_233 (by first | decide | omega) (by first | decide | omega) (by first | decide | omega)).trans (eA_c gA_sI))).trans hv472))
                            have hI565 := HI.wl hI561 (j := (6 * v554.toInt + 48)) (v := a3) (v554.toInt) 2 (by omega) (by decide) (by omega) (by omega)
                            have hF566 := Fr.wA (p := 233) (j := (6 * v554.toInt + 48)) (v := a3) hF562 rfl
                            refine r_aload_n rfl ?_
                            refine q_getR (Sh.ref hI565.1 kx_231 rfl) ?_
                            refine r_iload rfl ?_
                            refine r_iconst 3 rfl ?_
                            refine q_iadd (v557.toInt + 3) rfl (by omega) (fun v568 hv568 => ?_)
                            refine r_iload rfl ?_
                            refine q_iast (Sh.arr hI565.1 ka_233) ((6 * v554.toInt + 49)) (by omega) (by omega) ?_
                            have hI569 := HI.wl hI565 (j := (6 * v554.toInt + 49)) (v := a4) (v554.toInt) 3 (by omega) (by decide) (by omega) (by omega)
                            have hF570 := Fr.wA (p := 233) (j := (6 * v554.toInt + 49)) (v := a4) hF566 rfl
                            refine r_aload_n rfl ?_
                            refine q_getR (Sh.ref hI569.1 kx_231 rfl) ?_
                            refine r_iload rfl ?_
                            refine r_iconst 4 rfl ?_
                            refine q_iadd (v557.toInt + 4) rfl (by omega) (fun v571 hv571 => ?_)
                            refine r_iload rfl ?_
                            refine q_iast (Sh.arr hI569.1 ka_233) ((6 * v554.toInt + 50)) (by omega) (by omega) ?_
                            have hI572 := HI.wl hI569 (j := (6 * v554.toInt + 50)) (v := a5) (v554.toInt) 4 (by omega) (by decide) (by omega) (by omega)
                            have hF573 := Fr.wA (p := 233) (j := (6 * v554.toInt + 50)) (v := a5) hF570 rfl
                            refine r_aload_n rfl ?_
                            refine q_getR (Sh.ref hI572.1 kx_231 rfl) ?_
                            refine r_iload rfl ?_
                            refine r_iconst 5 rfl ?_
                            refine q_iadd (v557.toInt + 5) rfl (by omega) (fun v574 hv574 => ?_)
                            refine r_iload rfl ?_
                            refine q_iast (Sh.arr hI572.1 ka_233) ((6 * v554.toInt + 51)) (by omega) (by omega) ?_
                            have hI575 := HI.wl hI572 (j := (6 * v554.toInt + 51)) (v := a6) (v554.toInt) 5 (by omega) (by decide) (by omega) (by omega)
                            have hF576 := Fr.wA (p := 233) (j := (6 * v554.toInt + 51)) (v := a6) hF573 rfl
                            refine r_aload_n rfl ?_
                            refine q_getR (Sh.ref hI575.1 kx_231 rfl) ?_
                            refine r_iconst 1 rfl ?_
                            refine r_dup2 ⟨rfl, rfl⟩ ?_
                            refine q_iald (Sh.arr hI575.1 ka_233) 1 rfl (by decide) v554 (((eA_sA_ne hI572.1 ka_233 (by first | decide | omega) (by first | decide | omega) (by first | decide | omega)).trans ((eA_sA_ne hI569.1 ka_233 (by first | decide | omega) (by first | decide | omega) (by first | decide | omega)).trans ((eA_sA_ne hI565.1 ka_233 (by first | decide | omega) (by first | decide | omega) (by first | decide | omega)).trans ((eA_sA_ne hI561.1 ka_233 (by first | decide | omega) (by first | decide | omega) (by first | decide | omega)).trans ((eA_sA_ne hI558.1 ka_233 (by first | decide | omega) (by first | decide | omega) (by first | decide | omega)).trans ((eA_sA_ne hI305.1 ka_233 (by first | decide | omega) (by first | decide | omega) (by first | decide | omega)).trans (eA_c gA_sI))))))).trans hv554) ?_
                            refine r_iconst 1 rfl ?_
                            refine q_iadd (v554.toInt + 1) rfl (by omega) (fun v577 hv577 => ?_)
                            refine q_iast (Sh.arr hI575.1 ka_233) (1) rfl (by decide) ?_
                            have x580 := HI.eqA hI575 (p := 233) (j := 0) ((((eA_sA_ne hI572.1 ka_233 (by first | decide | omega) (by first | decide | omega) (by first | decide | omega)).trans ((eA_sA_ne hI569.1 ka_233 (by first | decide | omega) (by first | decide | omega) (by first | decide | omega)).trans ((eA_sA_ne hI565.1 ka_233 (by first | decide | omega) (by first | decide | omega) (by first | decide | omega)).trans ((eA_sA_ne hI561.1 ka_233 (by first | decide | omega) (by first | decide | omega) (by first | decide | omega)).trans ((eA_sA_ne hI558.1 ka_233 (by first | decide | omega) (by first | decide | omega) (by first | decide | omega)).trans ((eA_sA_ne hI305.1 ka_233 (by first | decide | omega) (by first | decide | omega) (by first | decide | omega)).trans (eA_c gA_sI))))))).trans hv472))
                            have x581 := HI.eqA hI575 (p := 233) (j := 1) ((((eA_sA_ne hI572.1 ka_233 (by first | decide | omega) (by first | decide | omega) (by first | decide | omega)).trans ((eA_sA_ne hI569.1 ka_233 (by first | decide | omega) (by first | decide | omega) (by first | decide | omega)).trans ((eA_sA_ne hI565.1 ka_233 (by first | decide | omega) (by first | decide | omega) (by first | decide | omega)).trans ((eA_sA_ne hI561.1 ka_233 (by first | decide | omega) (by first | decide | omega) (by first | decide | omega)).trans ((eA_sA_ne hI558.1 ka_233 (by first | decide | omega) (by first | decide | omega) (by first | decide | omega)).trans ((eA_sA_ne hI305.1 ka_233 (by first | decide | omega) (by first | decide | omega) (by first | decide | omega)).trans (eA_c gA_sI))))))).trans hv554))
                            have yv582 := HI.lt hI575
                            have hI578 := HI.wt hI575 (j := 1) (v := v577) (by omega) (by omega)
                            have hF579 := Fr.wA (p := 233) (j := 1) (v := v577) hF576 rfl
                            refine q_vret ?_
                            refine At.enter rfl ?_
                            refine r_aload_n rfl ?_
                            refine r_aload_n rfl ?_
                            refine q_getR (Sh.ref hI578.1 kx_231 rfl) ?_
                            refine r_iconst 1 rfl ?_
                            refine q_iald (Sh.arr hI578.1 ka_233) 1 rfl (by decide) v577 (eA_sA_eq hI575.1 ka_233 (by first | rfl | omega) (by first | decide | omega) (by first | decide | omega)) ?_
                            refine r_iconst 1 rfl ?_
                            refine q_isub (v577.toInt - 1) rfl (by omega) (fun v583 hv583 => ?_)
                            refine r_callV 90 rfl [.ref 231, .int v583] [] (Nat.le_of_ble_eq_true rfl) rfl (T_X11_tell_231 _ hI578 v583 (by omega)) ?_
                            rintro _ _ ⟨g584, rfl, hI585, hF586, v587, rfl, hr588⟩
                            refine At.sti ?_
                            have hF589 := Fr.tr hF579 hF586 rfl rfl
                            refine At.enter rfl ?_
                            refine r_ireti ?_
                            have x590 := HI.eqA hI585 (p := 233) (j := 0) ((((eA_c (hF586.2.1 233 (by decide))).trans ((eA_sA_ne hI575.1 ka_233 (by first | decide | omega) (by first | decide | omega) (by first | decide | omega)).trans ((eA_sA_ne hI572.1 ka_233 (by first | decide | omega) (by first | decide | omega) (by first | decide | omega)).trans ((eA_sA_ne hI569.1 ka_233 (by first | decide | omega) (by first | decide | omega) (by first | decide | omega)).trans ((eA_sA_ne hI565.1 ka_233 (by first | decide | omega) (by first | decide | omega) (by first | decide | omega)).trans ((eA_sA_ne hI561.1 ka_233 (by first | decide | omega) (by first | decide | omega) (by first | decide | omega)).trans ((eA_sA_ne hI558.1 ka_233 (by first | decide | omega) (by first | decide | omega) (by first | decide | omega)).trans ((eA_sA_ne hI305.1 ka_233 (by first | decide | omega) (by first | decide | omega) (by first | decide | omega)).trans (eA_c gA_sI))))))))).trans hv472))
                            obtain ⟨v591, hv591⟩ : ∃ v, eA g0 233 4 = v := ⟨_, rfl⟩
                            have wv591 := HI.t4 hI0
                            rw [hv591] at wv591
                            have tv591 := congrArg Int32.toInt hv591
                            have x592 := HI.eqA hI585 (p := 233) (j := 4) ((((eA_c (hF586.2.1 233 (by decide))).trans ((eA_sA_ne hI575.1 ka_233 (by first | decide | omega) (by first | decide | omega) (by first | decide | omega)).trans ((eA_sA_ne hI572.1 ka_233 (by first | decide | omega) (by first | decide | omega) (by first | decide | omega)).trans ((eA_sA_ne hI569.1 ka_233 (by first | decide | omega) (by first | decide | omega) (by first | decide | omega)).trans ((eA_sA_ne hI565.1 ka_233 (by first | decide | omega) (by first | decide | omega) (by first | decide | omega)).trans ((eA_sA_ne hI561.1 ka_233 (by first | decide | omega) (by first | decide | omega) (by first | decide | omega)).trans ((eA_sA_ne hI558.1 ka_233 (by first | decide | omega) (by first | decide | omega) (by first | decide | omega)).trans ((eA_sA_ne hI305.1 ka_233 (by first | decide | omega) (by first | decide | omega) (by first | decide | omega)).trans (eA_c gA_sI))))))))).trans hv591))
                            obtain ⟨v593, hv593⟩ : ∃ v, eA g0 233 5 = v := ⟨_, rfl⟩
                            have wv593 := HI.t5 hI0
                            rw [hv593] at wv593
                            have tv593 := congrArg Int32.toInt hv593
                            have x594 := HI.eqA hI585 (p := 233) (j := 5) ((((eA_c (hF586.2.1 233 (by decide))).trans ((eA_sA_ne hI575.1 ka_233 (by first | decide | omega) (by first | decide | omega) (by first | decide | omega)).trans ((eA_sA_ne hI572.1 ka_233 (by first | decide | omega) (by first | decide | omega) (by first | decide | omega)).trans ((eA_sA_ne hI569.1 ka_233 (by first | decide | omega) (by first | decide | omega) (by first | decide | omega)).trans ((eA_sA_ne hI565.1 ka_233 (by first | decide | omega) (by first | decide | omega) (by first | decide | omega)).trans ((eA_sA_ne hI561.1 ka_233 (by first | decide | omega) (by first | decide | omega) (by first | decide | omega)).trans ((eA_sA_ne hI558.1 ka_233 (by first | decide | omega) (by first | decide | omega) (by first | decide | omega)).trans ((eA_sA_ne hI305.1 ka_233 (by first | decide | omega) (by first | decide | omega) (by first | decide | omega)).trans (eA_c gA_sI))))))))).trans hv593))
                            obtain ⟨v595, hv595⟩ : ∃ v, eA g0 233 6 = v := ⟨_, rfl⟩
                            have wv595 := HI.t6 hI0
                            rw [hv595] at wv595
                            have tv595 := congrArg Int32.toInt hv595
                            have x596 := HI.eqA hI585 (p := 233) (j := 6) ((((eA_c (hF586.2.1 233 (by decide))).trans ((eA_sA_ne hI575.1 ka_233 (by first | decide | omega) (by first | decide | omega) (by first | decide | omega)).trans ((eA_sA_ne hI572.1 ka_233 (by first | decide | omega) (by first | decide | omega) (by first | decide | omega)).trans ((eA_sA_ne hI569.1 ka_233 (by first | decide | omega) (by first | decide | omega) (by first | decide | omega)).trans ((eA_sA_ne hI565.1 ka_233 (by first | decide | omega) (by first | decide | omega) (by first | decide | omega)).trans ((eA_sA_ne hI561.1 ka_233 (by first | decide | omega) (by first | decide | omega) (by first | decide | omega)).trans ((eA_sA_ne hI558.1 ka_233 (by first | decide | omega) (by first | decide | omega) (by first | decide | omega)).trans ((eA_sA_ne hI305.1 ka_233 (by first | decide | omega) (by first | decide | omega) (by first | decide | omega)).trans (eA_c gA_sI))))))))).trans hv595))
                            have x597 := HI.eqA hI0 (p := 233) (j := 0) (hv472)
                            have x598 := HI.eqA hI0 (p := 233) (j := 4) (hv591)
                            have x599 := HI.eqA hI0 (p := 233) (j := 5) (hv593)
                            have x600 := HI.eqA hI0 (p := 233) (j := 6) (hv595)
                            exact ⟨_, rfl, hI585, hF589, _, rfl, by omega, ⟨⟨by omega, by omega, by omega, by omega⟩, (by intro i i0 i1; refine (eA_ti ((hF586.2.1 233 (by decide)))).trans ?_; exact (Decidable.em (i = 1)).elim (fun k109_ => by refine (eA_eqT hI575.1 ka_233 k109_ (by first | decide | omega) (by first | decide | omega)).trans ?_; (first | (rfl) | (omega))) (fun k109_ => by refine (eA_neT hI575.1 ka_233 k109_ (by first | decide | omega) (by omega)).trans ?_; exact (Decidable.em (i = (6 * v554.toInt + 51))).elim (fun k110_ => by refine (eA_eqT hI572.1 ka_233 k110_ (by first | decide | omega) (by first | decide | omega)).trans ?_; (first | (rfl) | (omega))) (fun k110_ => by refine (eA_neT hI572.1 ka_233 k110_ (by first | decide | omega) (by omega)).trans ?_; exact (Decidable.em (i = (6 * v554.toInt + 50))).elim (fun k111_ => by refine (eA_eqT hI569.1 ka_233 k111_ (by first | decide | omega) (by first | decide | omega)).trans ?_; (first | (rfl) | (omega))) (fun k111_ => by refine (eA_neT hI569.1 ka_233 k111_ (by first | decide | omega) (by omega)).trans ?_; exact (Decidable.em (i = (6 * v554.toInt + 49))).elim (fun k112_ => by refine (eA_eqT hI565.1 ka_233 k112_ (by first | decide | omega) (by first | decide | omega)).trans ?_; (first | (rfl) | (omega))) (fun k112_ => by refine (eA_neT hI565.1 ka_233 k112_ (by first | decide | omega) (by omega)).trans ?_; exact (Decidable.em (i = (6 * v554.toInt + 48))).elim (fun k113_ => by refine (eA_eqT hI561.1 ka_233 k113_ (by first | decide | omega) (by first | decide | omega)).trans ?_; (first | (rfl) | (omega))) (fun k113_ => by refine (eA_neT hI561.1 ka_233 k113_ (by first | decide | omega) (by omega)).trans ?_; exact (Decidable.em (i = (6 * v554.toInt + 47))).elim (fun k114_ => by refine (eA_eqT hI558.1 ka_233 k114_ (by first | decide | omega) (by first | decide | omega)).trans ?_; (first | (rfl) | (omega))) (fun k114_ => by refine (eA_neT hI558.1 ka_233 k114_ (by first | decide | omega) (by omega)).trans ?_; exact (Decidable.em (i = (6 * v554.toInt + 46))).elim (fun k115_ => by refine (eA_eqT hI305.1 ka_233 k115_ (by first | decide | omega) (by first | decide | omega)).trans ?_; (first | (rfl) | (omega))) (fun k115_ => by refine (eA_neT hI305.1 ka_233 k115_ (by first | decide | omega) (by omega)).trans ?_; refine (eA_ti ((gA_sI))).trans ?_; (first | rfl | exact eA_ix (by omega) | omega))))))))), (by intro i i0 i1; refine (eA_ti ((hF586.2.1 233 (by decide)))).trans ?_; exact (Decidable.em (i = 1)).elim (fun k116_ => by refine (eA_eqT hI575.1 ka_233 k116_ (by first | decide | omega) (by first | decide | omega)).trans ?_; (first | (rfl) | (omega))) (fun k116_ => by refine (eA_neT hI575.1 ka_233 k116_ (by first | decide | omega) (by omega)).trans ?_; exact (Decidable.em (i = (6 * v554.toInt + 51))).elim (fun k117_ => by refine (eA_eqT hI572.1 ka_233 k117_ (by first | decide | omega) (by first | decide | omega)).trans ?_; (first | (rfl) | (omega))) (fun k117_ => by refine (eA_neT hI572.1 ka_233 k117_ (by first | decide | omega) (by omega)).trans ?_; exact (Decidable.em (i = (6 * v554.toInt + 50))).elim (fun k118_ => by refine (eA_eqT hI569.1 ka_233 k118_ (by first | decide | omega) (by first | decide | omega)).trans ?_; (first | (rfl) | (omega))) (fun k118_ => by refine (eA_neT hI569.1 ka_233 k118_ (by first | decide | omega) (by omega)).trans ?_; exact (Decidable.em (i = (6 * v554.toInt + 49))).elim (fun k119_ => by refine (eA_eqT hI565.1 ka_233 k119_ (by first | decide | omega) (by first | decide | omega)).trans ?_; (first | (rfl) | (omega))) (fun k119_ => by refine (eA_neT hI565.1 ka_233 k119_ (by first | decide | omega) (by omega)).trans ?_; exact (Decidable.em (i = (6 * v554.toInt + 48))).elim (fun k120_ => by refine (eA_eqT hI561.1 ka_233 k120_ (by first | decide | omega) (by first | decide | omega)).trans ?_; (first | (rfl) | (omega))) (fun k120_ => by refine (eA_neT hI561.1 ka_233 k120_ (by first | decide | omega) (by omega)).trans ?_; exact (Decidable.em (i = (6 * v554.toInt + 47))).elim (fun k121_ => by refine (eA_eqT hI558.1 ka_233 k121_ (by first | decide | omega) (by first | decide | omega)).trans ?_; (first | (rfl) | (omega))) (fun k121_ => by refine (eA_neT hI558.1 ka_233 k121_ (by first | decide | omega) (by omega)).trans ?_; exact (Decidable.em (i = (6 * v554.toInt + 46))).elim (fun k122_ => by refine (eA_eqT hI305.1 ka_233 k122_ (by first | decide | omega) (by first | decide | omega)).trans ?_; (first | (rfl) | (omega))) (fun k122_ => by refine (eA_neT hI305.1 ka_233 k122_ (by first | decide | omega) (by omega)).trans ?_; refine (eA_ti ((gA_sI))).trans ?_; (first | rfl | exact eA_ix (by omega) | omega)))))))))⟩⟩
                          · have c555_ : v554.toInt = 8 := en_i_ne_f c555
                            refine At.enter rfl ?_
                            refine r_aload_n rfl ?_
                            refine r_bipush (-5) rfl ?_
                            refine r_callV 64 rfl [.ref 231, .int (-5)] [] (Nat.le_of_ble_eq_true rfl) rfl (T_X11_tell_231 _ hI305 (-5) (by decide)) ?_
                            rintro _ _ ⟨g601, rfl, hI602, hF603, v604, rfl, hr605⟩
                            refine At.sti ?_
                            have hF606 := Fr.tr hF306 hF603 rfl rfl
                            have zv607 : ((-5) : Int32).toInt = (-5) := rfl
                            refine At.enter rfl ?_
                            refine r_ireti ?_
                            have x608 := HI.eqA hI602 (p := 233) (j := 0) ((((eA_c (hF603.2.1 233 (by decide))).trans (eA_c gA_sI)).trans hv472))
                            obtain ⟨v609, hv609⟩ : ∃ v, eA g0 233 4 = v := ⟨_, rfl⟩
                            have wv609 := HI.t4 hI0
                            rw [hv609] at wv609
                            have tv609 := congrArg Int32.toInt hv609
                            have x610 := HI.eqA hI602 (p := 233) (j := 4) ((((eA_c (hF603.2.1 233 (by decide))).trans (eA_c gA_sI)).trans hv609))
                            obtain ⟨v611, hv611⟩ : ∃ v, eA g0 233 5 = v := ⟨_, rfl⟩
                            have wv611 := HI.t5 hI0
                            rw [hv611] at wv611
                            have tv611 := congrArg Int32.toInt hv611
                            have x612 := HI.eqA hI602 (p := 233) (j := 5) ((((eA_c (hF603.2.1 233 (by decide))).trans (eA_c gA_sI)).trans hv611))
                            obtain ⟨v613, hv613⟩ : ∃ v, eA g0 233 6 = v := ⟨_, rfl⟩
                            have wv613 := HI.t6 hI0
                            rw [hv613] at wv613
                            have tv613 := congrArg Int32.toInt hv613
                            have x614 := HI.eqA hI602 (p := 233) (j := 6) ((((eA_c (hF603.2.1 233 (by decide))).trans (eA_c gA_sI)).trans hv613))
                            have x615 := HI.eqA hI0 (p := 233) (j := 0) (hv472)
                            have x616 := HI.eqA hI0 (p := 233) (j := 4) (hv609)
                            have x617 := HI.eqA hI0 (p := 233) (j := 5) (hv611)
                            have x618 := HI.eqA hI0 (p := 233) (j := 6) (hv613)
                            exact ⟨_, rfl, hI602, hF606, _, rfl, by omega, ⟨⟨by omega, by omega, by omega, by omega⟩, (by intro i i0 i1; refine (eA_ti (((hF603.2.1 233 (by decide)).trans (gA_sI)))).trans ?_; (first | rfl | exact eA_ix (by omega) | omega)), (by intro i i0 i1; refine (eA_ti (((hF603.2.1 233 (by decide)).trans (gA_sI)))).trans ?_; (first | rfl | exact eA_ix (by omega) | omega))⟩⟩
