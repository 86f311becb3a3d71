def F_X11_status_231 : List (Nat × Nat) := [(231, 0)]
def A_X11_status_231 : List Nat := []
set_option maxRecDepth 100000 in
set_option maxHeartbeats 4000000 in
theorem T_X11_status_231 (d : Nat) {N : Nat} {g0 : List en_E} (hI0 : HI g0) : Ev (d + 1) 264 [.ref 231] (g0, N) (fun w h' => ∃ g', h' = (g', N) ∧ HI g' ∧ Fr F_X11_status_231 A_X11_status_231 g0 g' ∧ ∃ r : Int32, w = some (.int r) ∧ True) := by
  have hF0 : Fr F_X11_status_231 A_X11_status_231 g0 g0 := Fr.rf
  refine Ev.mk rfl rfl ⟨Nat.le_of_ble_eq_true rfl, Or.inr (q_rc hI0.1 kx_231 rfl)⟩ ?_
  show At _ none _ _ (0, [(0, .ref 231)], [], (_, _)) _
  refine At.enter rfl ?_
  refine r_aload_n rfl ?_
  refine r_iconst 0 rfl ?_
  refine q_putI (Sh.int hI0.1 kx_231 rfl) rfl ?_
  have hI7 := HI.wI0 hI0 kx_231 rfl (p := 231) (b := 0) (v := 0) rfl
  have hF8 := Fr.wI (p := 231) (b := 0) (v := 0) hF0 rfl
  refine r_aload_n rfl ?_
  obtain ⟨v9, hv9⟩ : ∃ v, gI g0 231 1 = v := ⟨_, rfl⟩
  refine q_getI (Sh.int hI7.1 kx_231 rfl) v9 ((gI_sI_ne (by decide)).trans hv9) ?_
  refine r_ireti ?_
  exact ⟨_, rfl, hI7, hF8, _, rfl, trivial⟩

def F_X11_stand_231 : List (Nat × Nat) := [(231, 0), (231, 1)]
def A_X11_stand_231 : List Nat := [232, 233]
set_option maxRecDepth 100000 in
set_option maxHeartbeats 4000000 in
theorem T_X11_stand_231 (d : Nat) {N : Nat} {g0 : List en_E} (hI0 : HI g0) (a1 : Int32) (a2 : Int32) (a3 : Int32) : Ev (d + 3) 172 [.ref 231, .int a1, .int a2, .int a3] (g0, N) (fun w h' => ∃ g', h' = (g', N) ∧ HI g' ∧ Fr F_X11_stand_231 A_X11_stand_231 g0 g' ∧ ∃ r : Int32, w = some (.int r) ∧ ((-5) ≤ r.toInt ∧ r.toInt ≤ 11) ∧ ((((¬ (-1 ≤ a1.toInt ∧ a1.toInt ≤ 11 ∧ 1 ≤ a2.toInt ∧ a2.toInt ≤ 9 ∧ 0 ≤ a3.toInt ∧ a3.toInt ≤ 99) → r.toInt = -1 ∧ (eA g' 233 0).toInt = (eA g0 233 0).toInt) ∧ ((-1 ≤ a1.toInt ∧ a1.toInt ≤ 11 ∧ 1 ≤ a2.toInt ∧ a2.toInt ≤ 9 ∧ 0 ≤ a3.toInt ∧ a3.toInt ≤ 99) ∧ 12 ≤ (eA g0 233 0).toInt → r.toInt = -5 ∧ (eA g' 233 0).toInt = (eA g0 233 0).toInt) ∧ ((-1 ≤ a1.toInt ∧ a1.toInt ≤ 11 ∧ 1 ≤ a2.toInt ∧ a2.toInt ≤ 9 ∧ 0 ≤ a3.toInt ∧ a3.toInt ≤ 99) ∧ (eA g0 233 0).toInt < 12 → r.toInt = (eA g0 233 0).toInt ∧ (eA g' 233 0).toInt = (eA g0 233 0).toInt + 1)) ∧ (eA g' 233 4).toInt = (eA g0 233 4).toInt ∧ (eA g' 233 5).toInt = (eA g0 233 5).toInt ∧ (eA g' 233 6).toInt = (eA g0 233 6).toInt ∧ (eA g' 233 1).toInt = (eA g0 233 1).toInt) ∧ (∀ i : Int, 10 ≤ i → i < 110 → (eA g' 233 (i)).toInt = if ((-1 ≤ a1.toInt ∧ a1.toInt ≤ 11 ∧ 1 ≤ a2.toInt ∧ a2.toInt ≤ 9 ∧ 0 ≤ a3.toInt ∧ a3.toInt ≤ 99) ∧ (eA g0 233 0).toInt < 12) ∧ i = 10 + 3 * (eA g0 233 0).toInt + 0 then a1.toInt else if ((-1 ≤ a1.toInt ∧ a1.toInt ≤ 11 ∧ 1 ≤ a2.toInt ∧ a2.toInt ≤ 9 ∧ 0 ≤ a3.toInt ∧ a3.toInt ≤ 99) ∧ (eA g0 233 0).toInt < 12) ∧ i = 10 + 3 * (eA g0 233 0).toInt + 1 then a2.toInt else if ((-1 ≤ a1.toInt ∧ a1.toInt ≤ 11 ∧ 1 ≤ a2.toInt ∧ a2.toInt ≤ 9 ∧ 0 ≤ a3.toInt ∧ a3.toInt ≤ 99) ∧ (eA g0 233 0).toInt < 12) ∧ i = 10 + 3 * (eA g0 233 0).toInt + 2 then a3.toInt else (eA g0 233 (i)).toInt))) := by
  have hF0 : Fr F_X11_stand_231 A_X11_stand_231 g0 g0 := Fr.rf
  refine Ev.mk rfl rfl ⟨Nat.le_of_ble_eq_true rfl, Or.inr (q_rc hI0.1 kx_231 rfl)⟩ ?_
  show At _ none _ _ (0, [(0, .ref 231), (1, .int a1), (2, .int a2), (3, .int a3)], [], (_, _)) _
  refine At.enter rfl ?_
  refine r_aload_n rfl ?_
  refine r_iconst 0 rfl ?_
  refine q_putI (Sh.int hI0.1 kx_231 rfl) rfl ?_
  have hI173 := HI.wI0 hI0 kx_231 rfl (p := 231) (b := 0) (v := 0) rfl
  have hF174 := Fr.wI (p := 231) (b := 0) (v := 0) hF0 rfl
  refine r_iconst 0 rfl ?_
  refine r_iload_n rfl ?_
  refine q_inlS 10 rfl [.int 0, .int a1] [] (Nat.le_of_ble_eq_true rfl) rfl ?_
  refine Ev.mk rfl rfl ⟨Nat.le_of_ble_eq_true rfl, Or.inl rfl⟩ ?_
  show At _ none _ _ (0, [(0, .int 0), (1, .int a1)], [], (_, _)) _
  refine At.enter rfl ?_
  refine r_iload_n rfl ?_
  refine r_tsw 28 rfl ?_
  refine At.enter rfl ?_
  refine r_iload_n rfl ?_
  refine q_i2l (fun v175 hv175 => ?_)
  refine r_ldc2 (-1) rfl ?_
  refine r_ldc2 11 rfl ?_
  refine q_inlS 39 rfl [.long v175, .long (-1), .long 11] [] (Nat.le_of_ble_eq_true rfl) rfl ?_
  refine Ev.mk rfl rfl ⟨Nat.le_of_ble_eq_true rfl, Or.inl rfl⟩ ?_
  show At _ none _ _ (0, [(0, .long v175), (2, .long (-1)), (4, .long 11)], [], (_, _)) _
  refine At.enter rfl ?_
  refine r_lload_n rfl ?_
  refine r_lload_n rfl ?_
  refine r_lcmp _ rfl ?_
  refine r_ifs 6 rfl (fun c176 => ?_) (fun c176 => ?_)
  · have c176_ : v175.toInt < (-1) := en_j_lt_t c176
    refine At.enter rfl ?_
    refine r_iconst 0 rfl ?_
    refine Ar.fall 18 rfl ?_
    refine At.enter rfl ?_
    refine q_iretz (by decide) ?_
    refine At.enter rfl ?_
    refine q_iretz (by decide) ?_
    refine At.enter rfl ?_
    refine r_ift (by decide) ?_
    refine At.enter rfl ?_
    refine r_aload_n rfl ?_
    refine r_iconst (-1) rfl ?_
    refine r_callV 34 rfl [.ref 231, .int (-1)] [] (Nat.le_of_ble_eq_true rfl) rfl (T_X11_tell_231 _ hI173 (-1) (by decide)) ?_
    rintro _ _ ⟨g177, rfl, hI178, hF179, v180, rfl, hr181⟩
    refine At.sti ?_
    have hF182 := Fr.tr hF174 hF179 rfl rfl
    have zv183 : ((-1) : Int32).toInt = (-1) := rfl
    refine At.enter rfl ?_
    refine r_ireti ?_
    obtain ⟨v184, hv184⟩ : ∃ v, eA g0 233 0 = v := ⟨_, rfl⟩
    have tv184 := congrArg Int32.toInt hv184
    have wv184 := HI.t0 hI0
    rw [hv184] at wv184
    have tv184 := congrArg Int32.toInt hv184
    have x185 := HI.eqA hI178 (p := 233) (j := 0) ((((eA_c (hF179.2.1 233 (by decide))).trans (eA_c gA_sI)).trans hv184))
    obtain ⟨v186, hv186⟩ : ∃ v, eA g0 233 4 = v := ⟨_, rfl⟩
    have wv186 := HI.t4 hI0
    rw [hv186] at wv186
    have tv186 := congrArg Int32.toInt hv186
    have x187 := HI.eqA hI178 (p := 233) (j := 4) ((((eA_c (hF179.2.1 233 (by decide))).trans (eA_c gA_sI)).trans hv186))
    obtain ⟨v188, hv188⟩ : ∃ v, eA g0 233 5 = v := ⟨_, rfl⟩
    have wv188 := HI.t5 hI0
    rw [hv188] at wv188
    have tv188 := congrArg Int32.toInt hv188
    have x189 := HI.eqA hI178 (p := 233) (j := 5) ((((eA_c (hF179.2.1 233 (by decide))).trans (eA_c gA_sI)).trans hv188))
    obtain ⟨v190, hv190⟩ : ∃ v, eA g0 233 6 = v := ⟨_, rfl⟩
    have wv190 := HI.t6 hI0
    rw [hv190] at wv190
    have tv190 := congrArg Int32.toInt hv190
    have x191 := HI.eqA hI178 (p := 233) (j := 6) ((((eA_c (hF179.2.1 233 (by decide))).trans (eA_c gA_sI)).trans hv190))
    obtain ⟨v192, hv192⟩ : ∃ v, eA g0 233 1 = v := ⟨_, rfl⟩
    have tv192 := congrArg Int32.toInt hv192
    have wv192 := HI.t1 hI0
    rw [hv192] at wv192
    have tv192 := congrArg Int32.toInt hv192
    have x193 := HI.eqA hI178 (p := 233) (j := 1) ((((eA_c (hF179.2.1 233 (by decide))).trans (eA_c gA_sI)).trans hv192))
    have x194 := HI.eqA hI0 (p := 233) (j := 0) (hv184)
    have x195 := HI.eqA hI0 (p := 233) (j := 4) (hv186)
    have x196 := HI.eqA hI0 (p := 233) (j := 5) (hv188)
    have x197 := HI.eqA hI0 (p := 233) (j := 6) (hv190)
    have x198 := HI.eqA hI0 (p := 233) (j := 1) (hv192)
    have x199 := HI.eqA hI0 (p := 233) (j := 0) (hv184)
    exact ⟨_, rfl, hI178, hF182, _, rfl, by omega, ⟨⟨by omega, by omega, by omega, by omega, by omega⟩, (by intro i i0 i1; refine Eq.trans ?_ (if_neg (show ¬ (((-1 ≤ a1.toInt ∧ a1.toInt ≤ 11 ∧ 1 ≤ a2.toInt ∧ a2.toInt ≤ 9 ∧ 0 ≤ a3.toInt ∧ a3.toInt ≤ 99) ∧ (eA g0 233 0).toInt < 12) ∧ i = 10 + 3 * (eA g0 233 0).toInt + 0) from by omega)).symm; refine Eq.trans ?_ (if_neg (show ¬ (((-1 ≤ a1.toInt ∧ a1.toInt ≤ 11 ∧ 1 ≤ a2.toInt ∧ a2.toInt ≤ 9 ∧ 0 ≤ a3.toInt ∧ a3.toInt ≤ 99) ∧ (eA g0 233 0).toInt < 12) ∧ i = 10 + 3 * (eA g0 233 0).toInt + 1) from by omega)).symm; refine Eq.trans ?_ (if_neg (show ¬ (((-1 ≤ a1.toInt ∧ a1.toInt ≤ 11 ∧ 1 ≤ a2.toInt ∧ a2.toInt ≤ 9 ∧ 0 ≤ a3.toInt ∧ a3.toInt ≤ 99) ∧ (eA g0 233 0).toInt < 12) ∧ i = 10 + 3 * (eA g0 233 0).toInt + 2) from by omega)).symm; refine (eA_ti (((hF179.2.1 233 (by decide)).trans (gA_sI)))).trans ?_; (first | rfl | exact eA_ix (by omega) | omega))⟩⟩
  · have c176_ : v175.toInt ≥ (-1) := en_j_lt_f c176
    refine At.enter rfl ?_
    refine r_lload_n rfl ?_
    refine r_lload rfl ?_
    refine r_lcmp _ rfl ?_
    refine r_ifs 13 rfl (fun c200 => ?_) (fun c200 => ?_)
    · have c200_ : v175.toInt > 11 := en_j_gt_t c200
      refine At.enter rfl ?_
      refine r_iconst 0 rfl ?_
      refine Ar.fall 18 rfl ?_
      refine At.enter rfl ?_
      refine q_iretz (by decide) ?_
      refine At.enter rfl ?_
      refine q_iretz (by decide) ?_
      refine At.enter rfl ?_
      refine r_ift (by decide) ?_
      refine At.enter rfl ?_
      refine r_aload_n rfl ?_
      refine r_iconst (-1) rfl ?_
      refine r_callV 34 rfl [.ref 231, .int (-1)] [] (Nat.le_of_ble_eq_true rfl) rfl (T_X11_tell_231 _ hI173 (-1) (by decide)) ?_
      rintro _ _ ⟨g201, rfl, hI202, hF203, v204, rfl, hr205⟩
      refine At.sti ?_
      have hF206 := Fr.tr hF174 hF203 rfl rfl
      have zv207 : ((-1) : Int32).toInt = (-1) := rfl
      refine At.enter rfl ?_
      refine r_ireti ?_
      obtain ⟨v208, hv208⟩ : ∃ v, eA g0 233 0 = v := ⟨_, rfl⟩
      have tv208 := congrArg Int32.toInt hv208
      have wv208 := HI.t0 hI0
      rw [hv208] at wv208
      have tv208 := congrArg Int32.toInt hv208
      have x209 := HI.eqA hI202 (p := 233) (j := 0) ((((eA_c (hF203.2.1 233 (by decide))).trans (eA_c gA_sI)).trans hv208))
      obtain ⟨v210, hv210⟩ : ∃ v, eA g0 233 4 = v := ⟨_, rfl⟩
      have wv210 := HI.t4 hI0
      rw [hv210] at wv210
      have tv210 := congrArg Int32.toInt hv210
      have x211 := HI.eqA hI202 (p := 233) (j := 4) ((((eA_c (hF203.2.1 233 (by decide))).trans (eA_c gA_sI)).trans hv210))
      obtain ⟨v212, hv212⟩ : ∃ v, eA g0 233 5 = v := ⟨_, rfl⟩
      have wv212 := HI.t5 hI0
      rw [hv212] at wv212
      have tv212 := congrArg Int32.toInt hv212
      have x213 := HI.eqA hI202 (p := 233) (j := 5) ((((eA_c (hF203.2.1 233 (by decide))).trans (eA_c gA_sI)).trans hv212))
      obtain ⟨v214, hv214⟩ : ∃ v, eA g0 233 6 = v := ⟨_, rfl⟩
      have wv214 := HI.t6 hI0
      rw [hv214] at wv214
      have tv214 := congrArg Int32.toInt hv214
      have x215 := HI.eqA hI202 (p := 233) (j := 6) ((((eA_c (hF203.2.1 233 (by decide))).trans (eA_c gA_sI)).trans hv214))
      obtain ⟨v216, hv216⟩ : ∃ v, eA g0 233 1 = v := ⟨_, rfl⟩
      have tv216 := congrArg Int32.toInt hv216
      have wv216 := HI.t1 hI0
      rw [hv216] at wv216
      have tv216 := congrArg Int32.toInt hv216
      have x217 := HI.eqA hI202 (p := 233) (j := 1) ((((eA_c (hF203.2.1 233 (by decide))).trans (eA_c gA_sI)).trans hv216))
      have x218 := HI.eqA hI0 (p := 233) (j := 0) (hv208)
      have x219 := HI.eqA hI0 (p := 233) (j := 4) (hv210)
      have x220 := HI.eqA hI0 (p := 233) (j := 5) (hv212)
      have x221 := HI.eqA hI0 (p := 233) (j := 6) (hv214)
      have x222 := HI.eqA hI0 (p := 233) (j := 1) (hv216)
      have x223 := HI.eqA hI0 (p := 233) (j := 0) (hv208)
      exact ⟨_, rfl, hI202, hF206, _, rfl, by omega, ⟨⟨by omega, by omega, by omega, by omega, by omega⟩, (by intro i i0 i1; refine Eq.trans ?_ (if_neg (show ¬ (((-1 ≤ a1.toInt ∧ a1.toInt ≤ 11 ∧ 1 ≤ a2.toInt ∧ a2.toInt ≤ 9 ∧ 0 ≤ a3.toInt ∧ a3.toInt ≤ 99) ∧ (eA g0 233 0).toInt < 12) ∧ i = 10 + 3 * (eA g0 233 0).toInt + 0) from by omega)).symm; refine Eq.trans ?_ (if_neg (show ¬ (((-1 ≤ a1.toInt ∧ a1.toInt ≤ 11 ∧ 1 ≤ a2.toInt ∧ a2.toInt ≤ 9 ∧ 0 ≤ a3.toInt ∧ a3.toInt ≤ 99) ∧ (eA g0 233 0).toInt < 12) ∧ i = 10 + 3 * (eA g0 233 0).toInt + 1) from by omega)).symm; refine Eq.trans ?_ (if_neg (show ¬ (((-1 ≤ a1.toInt ∧ a1.toInt ≤ 11 ∧ 1 ≤ a2.toInt ∧ a2.toInt ≤ 9 ∧ 0 ≤ a3.toInt ∧ a3.toInt ≤ 99) ∧ (eA g0 233 0).toInt < 12) ∧ i = 10 + 3 * (eA g0 233 0).toInt + 2) from by omega)).symm; refine (eA_ti (((hF203.2.1 233 (by decide)).trans (gA_sI)))).trans ?_; (first | rfl | exact eA_ix (by omega) | omega))⟩⟩
    · have c200_ : v175.toInt ≤ 11 := en_j_gt_f c200
      refine At.enter rfl ?_
      refine r_iconst 1 rfl ?_
      refine r_goto ?_
      refine At.enter rfl ?_
      refine q_iretz (by decide) ?_
      refine At.enter rfl ?_
      refine q_iretz (by decide) ?_
      refine At.enter rfl ?_
      refine r_iff 13 rfl (by decide) ?_
      refine At.enter rfl ?_
      refine r_iconst 1 rfl ?_
      refine r_iload_n rfl ?_
      refine q_inlS 18 rfl [.int 1, .int a2] [] (Nat.le_of_ble_eq_true rfl) rfl ?_
      refine Ev.mk rfl rfl ⟨Nat.le_of_ble_eq_true rfl, Or.inl rfl⟩ ?_
      show At _ none _ _ (0, [(0, .int 1), (1, .int a2)], [], (_, _)) _
      refine At.enter rfl ?_
      refine r_iload_n rfl ?_
      refine r_tsw 40 rfl ?_
      refine At.enter rfl ?_
      refine r_iload_n rfl ?_
      refine q_i2l (fun v224 hv224 => ?_)
      refine r_lconst 1 rfl ?_
      refine r_ldc2 9 rfl ?_
      refine q_inlS 49 rfl [.long v224, .long 1, .long 9] [] (Nat.le_of_ble_eq_true rfl) rfl ?_
      refine Ev.mk rfl rfl ⟨Nat.le_of_ble_eq_true rfl, Or.inl rfl⟩ ?_
      show At _ none _ _ (0, [(0, .long v224), (2, .long 1), (4, .long 9)], [], (_, _)) _
      refine At.enter rfl ?_
      refine r_lload_n rfl ?_
      refine r_lload_n rfl ?_
      refine r_lcmp _ rfl ?_
      refine r_ifs 6 rfl (fun c225 => ?_) (fun c225 => ?_)
      · have c225_ : v224.toInt < 1 := en_j_lt_t c225
        refine At.enter rfl ?_
        refine r_iconst 0 rfl ?_
        refine Ar.fall 18 rfl ?_
        refine At.enter rfl ?_
        refine q_iretz (by decide) ?_
        refine At.enter rfl ?_
        refine q_iretz (by decide) ?_
        refine At.enter rfl ?_
        refine r_ift (by decide) ?_
        refine At.enter rfl ?_
        refine r_aload_n rfl ?_
        refine r_iconst (-1) rfl ?_
        refine r_callV 34 rfl [.ref 231, .int (-1)] [] (Nat.le_of_ble_eq_true rfl) rfl (T_X11_tell_231 _ hI173 (-1) (by decide)) ?_
        rintro _ _ ⟨g226, rfl, hI227, hF228, v229, rfl, hr230⟩
        refine At.sti ?_
        have hF231 := Fr.tr hF174 hF228 rfl rfl
        have zv232 : ((-1) : Int32).toInt = (-1) := rfl
        refine At.enter rfl ?_
        refine r_ireti ?_
        obtain ⟨v233, hv233⟩ : ∃ v, eA g0 233 0 = v := ⟨_, rfl⟩
        have tv233 := congrArg Int32.toInt hv233
        have wv233 := HI.t0 hI0
        rw [hv233] at wv233
        have tv233 := congrArg Int32.toInt hv233
        have x234 := HI.eqA hI227 (p := 233) (j := 0) ((((eA_c (hF228.2.1 233 (by decide))).trans (eA_c gA_sI)).trans hv233))
        obtain ⟨v235, hv235⟩ : ∃ v, eA g0 233 4 = v := ⟨_, rfl⟩
        have wv235 := HI.t4 hI0
        rw [hv235] at wv235
        have tv235 := congrArg Int32.toInt hv235
        have x236 := HI.eqA hI227 (p := 233) (j := 4) ((((eA_c (hF228.2.1 233 (by decide))).trans (eA_c gA_sI)).trans hv235))
        obtain ⟨v237, hv237⟩ : ∃ v, eA g0 233 5 = v := ⟨_, rfl⟩
        have wv237 := HI.t5 hI0
        rw [hv237] at wv237
        have tv237 := congrArg Int32.toInt hv237
        have x238 := HI.eqA hI227 (p := 233) (j := 5) ((((eA_c (hF228.2.1 233 (by decide))).trans (eA_c gA_sI)).trans hv237))
        obtain ⟨v239, hv239⟩ : ∃ v, eA g0 233 6 = v := ⟨_, rfl⟩
        have wv239 := HI.t6 hI0
        rw [hv239] at wv239
        have tv239 := congrArg Int32.toInt hv239
        have x240 := HI.eqA hI227 (p := 233) (j := 6) ((((eA_c (hF228.2.1 233 (by decide))).trans (eA_c gA_sI)).trans hv239))
        obtain ⟨v241, hv241⟩ : ∃ v, eA g0 233 1 = v := ⟨_, rfl⟩
        have tv241 := congrArg Int32.toInt hv241
        have wv241 := HI.t1 hI0
        rw [hv241] at wv241
        have tv241 := congrArg Int32.toInt hv241
        have x242 := HI.eqA hI227 (p := 233) (j := 1) ((((eA_c (hF228.2.1 233 (by decide))).trans (eA_c gA_sI)).trans hv241))
        have x243 := HI.eqA hI0 (p := 233) (j := 0) (hv233)
        have x244 := HI.eqA hI0 (p := 233) (j := 4) (hv235)
        have x245 := HI.eqA hI0 (p := 233) (j := 5) (hv237)
        have x246 := HI.eqA hI0 (p := 233) (j := 6) (hv239)
        have x247 := HI.eqA hI0 (p := 233) (j := 1) (hv241)
        have x248 := HI.eqA hI0 (p := 233) (j := 0) (hv233)
        exact ⟨_, rfl, hI227, hF231, _, rfl, by omega, ⟨⟨by omega, by omega, by omega, by omega, by omega⟩, (by intro i i0 i1; refine Eq.trans ?_ (if_neg (show ¬ (((-1 ≤ a1.toInt ∧ a1.toInt ≤ 11 ∧ 1 ≤ a2.toInt ∧ a2.toInt ≤ 9 ∧ 0 ≤ a3.toInt ∧ a3.toInt ≤ 99) ∧ (eA g0 233 0).toInt < 12) ∧ i = 10 + 3 * (eA g0 233 0).toInt + 0) from by omega)).symm; refine Eq.trans ?_ (if_neg (show ¬ (((-1 ≤ a1.toInt ∧ a1.toInt ≤ 11 ∧ 1 ≤ a2.toInt ∧ a2.toInt ≤ 9 ∧ 0 ≤ a3.toInt ∧ a3.toInt ≤ 99) ∧ (eA g0 233 0).toInt < 12) ∧ i = 10 + 3 * (eA g0 233 0).toInt + 1) from by omega)).symm; refine Eq.trans ?_ (if_neg (show ¬ (((-1 ≤ a1.toInt ∧ a1.toInt ≤ 11 ∧ 1 ≤ a2.toInt ∧ a2.toInt ≤ 9 ∧ 0 ≤ a3.toInt ∧ a3.toInt ≤ 99) ∧ (eA g0 233 0).toInt < 12) ∧ i = 10 + 3 * (eA g0 233 0).toInt + 2) from by omega)).symm; refine (eA_ti (((hF228.2.1 233 (by decide)).trans (gA_sI)))).trans ?_; (first | rfl | exact eA_ix (by omega) | omega))⟩⟩
      · have c225_ : v224.toInt ≥ 1 := en_j_lt_f c225
        refine At.enter rfl ?_
        refine r_lload_n rfl ?_
        refine r_lload rfl ?_
        refine r_lcmp _ rfl ?_
        refine r_ifs 13 rfl (fun c249 => ?_) (fun c249 => ?_)
        · have c249_ : v224.toInt > 9 := en_j_gt_t c249
          refine At.enter rfl ?_
          refine r_iconst 0 rfl ?_
          refine Ar.fall 18 rfl ?_
          refine At.enter rfl ?_
          refine q_iretz (by decide) ?_
          refine At.enter rfl ?_
          refine q_iretz (by decide) ?_
          refine At.enter rfl ?_
          refine r_ift (by decide) ?_
          refine At.enter rfl ?_
          refine r_aload_n rfl ?_
          refine r_iconst (-1) rfl ?_
          refine r_callV 34 rfl [.ref 231, .int (-1)] [] (Nat.le_of_ble_eq_true rfl) rfl (T_X11_tell_231 _ hI173 (-1) (by decide)) ?_
          rintro _ _ ⟨g250, rfl, hI251, hF252, v253, rfl, hr254⟩
          refine At.sti ?_
          have hF255 := Fr.tr hF174 hF252 rfl rfl
          have zv256 : ((-1) : Int32).toInt = (-1) := rfl
          refine At.enter rfl ?_
          refine r_ireti ?_
          obtain ⟨v257, hv257⟩ : ∃ v, eA g0 233 0 = v := ⟨_, rfl⟩
          have tv257 := congrArg Int32.toInt hv257
          have wv257 := HI.t0 hI0
          rw [hv257] at wv257
          have tv257 := congrArg Int32.toInt hv257
          have x258 := HI.eqA hI251 (p := 233) (j := 0) ((((eA_c (hF252.2.1 233 (by decide))).trans (eA_c gA_sI)).trans hv257))
          obtain ⟨v259, hv259⟩ : ∃ v, eA g0 233 4 = v := ⟨_, rfl⟩
          have wv259 := HI.t4 hI0
          rw [hv259] at wv259
          have tv259 := congrArg Int32.toInt hv259
          have x260 := HI.eqA hI251 (p := 233) (j := 4) ((((eA_c (hF252.2.1 233 (by decide))).trans (eA_c gA_sI)).trans hv259))
          obtain ⟨v261, hv261⟩ : ∃ v, eA g0 233 5 = v := ⟨_, rfl⟩
          have wv261 := HI.t5 hI0
          rw [hv261] at wv261
          have tv261 := congrArg Int32.toInt hv261
          have x262 := HI.eqA hI251 (p := 233) (j := 5) ((((eA_c (hF252.2.1 233 (by decide))).trans (eA_c gA_sI)).trans hv261))
          obtain ⟨v263, hv263⟩ : ∃ v, eA g0 233 6 = v := ⟨_, rfl⟩
          have wv263 := HI.t6 hI0
          rw [hv263] at wv263
          have tv263 := congrArg Int32.toInt hv263
          have x264 := HI.eqA hI251 (p := 233) (j := 6) ((((eA_c (hF252.2.1 233 (by decide))).trans (eA_c gA_sI)).trans hv263))
          obtain ⟨v265, hv265⟩ : ∃ v, eA g0 233 1 = v := ⟨_, rfl⟩
          have tv265 := congrArg Int32.toInt hv265
          have wv265 := HI.t1 hI0
          rw [hv265] at wv265
          have tv265 := congrArg Int32.toInt hv265
          have x266 := HI.eqA hI251 (p := 233) (j := 1) ((((eA_c (hF252.2.1 233 (by decide))).trans (eA_c gA_sI)).trans hv265))
          have x267 := HI.eqA hI0 (p := 233) (j := 0) (hv257)
          have x268 := HI.eqA hI0 (p := 233) (j := 4) (hv259)
          have x269 := HI.eqA hI0 (p := 233) (j := 5) (hv261)
          have x270 := HI.eqA hI0 (p := 233) (j := 6) (hv263)
          have x271 := HI.eqA hI0 (p := 233) (j := 1) (hv265)
          have x272 := HI.eqA hI0 (p := 233) (j := 0) (hv257)
          exact ⟨_, rfl, hI251, hF255, _, rfl, by omega, ⟨⟨by omega, by omega, by omega, by omega, by omega⟩, (by intro i i0 i1; refine Eq.trans ?_ (if_neg (show ¬ (((-1 ≤ a1.toInt ∧ a1.toInt ≤ 11 ∧ 1 ≤ a2.toInt ∧ a2.toInt ≤ 9 ∧ 0 ≤ a3.toInt ∧ a3.toInt ≤ 99) ∧ (eA g0 233 0).toInt < 12) ∧ i = 10 + 3 * (eA g0 233 0).toInt + 0) from by omega)).symm; refine Eq.trans ?_ (if_neg (show ¬ (((-1 ≤ a1.toInt ∧ a1.toInt ≤ 11 ∧ 1 ≤ a2.toInt ∧ a2.toInt ≤ 9 ∧ 0 ≤ a3.toInt ∧ a3.toInt ≤ 99) ∧ (eA g0 233 0).toInt < 12) ∧ i = 10 + 3 * (eA g0 233 0).toInt + 1) from by omega)).symm; refine Eq.trans ?_ (if_neg (show ¬ (((-1 ≤ a1.toInt ∧ a1.toInt ≤ 11 ∧ 1 ≤ a2.toInt ∧ a2.toInt ≤ 9 ∧ 0 ≤ a3.toInt ∧ a3.toInt ≤ 99) ∧ (eA g0 233 0).toInt < 12) ∧ i = 10 + 3 * (eA g0 233 0).toInt + 2) from by omega)).symm; refine (eA_ti (((hF252.2.1 233 (by decide)).trans (gA_sI)))).trans ?_; (first | rfl | exact eA_ix (by omega) | omega))⟩⟩
        · have c249_ : v224.toInt ≤ 9 := en_j_gt_f c249
          refine At.enter rfl ?_
          refine r_iconst 1 rfl ?_
          refine r_goto ?_
          refine At.enter rfl ?_
          refine q_iretz (by decide) ?_
          refine At.enter rfl ?_
          refine q_iretz (by decide) ?_
          refine At.enter rfl ?_
          refine r_iff 21 rfl (by decide) ?_
          refine At.enter rfl ?_
          refine r_iconst 2 rfl ?_
          refine r_iload_n rfl ?_
          refine q_inlS 26 rfl [.int 2, .int a3] [] (Nat.le_of_ble_eq_true rfl) rfl ?_
          refine Ev.mk rfl rfl ⟨Nat.le_of_ble_eq_true rfl, Or.inl rfl⟩ ?_
          show At _ none _ _ (0, [(0, .int 2), (1, .int a3)], [], (_, _)) _
          refine At.enter rfl ?_
          refine r_iload_n rfl ?_
          refine r_tsw 50 rfl ?_
          refine At.enter rfl ?_
          refine r_iload_n rfl ?_
          refine q_i2l (fun v273 hv273 => ?_)
          refine r_lconst 0 rfl ?_
          refine r_ldc2 99 rfl ?_
          refine q_inlS 59 rfl [.long v273, .long 0, .long 99] [] (Nat.le_of_ble_eq_true rfl) rfl ?_
          refine Ev.mk rfl rfl ⟨Nat.le_of_ble_eq_true rfl, Or.inl rfl⟩ ?_
          show At _ none _ _ (0, [(0, .long v273), (2, .long 0), (4, .long 99)], [], (_, _)) _
          refine At.enter rfl ?_
          refine r_lload_n rfl ?_
          refine r_lload_n rfl ?_
          refine r_lcmp _ rfl ?_
          refine r_ifs 6 rfl (fun c274 => ?_) (fun c274 => ?_)
          · have c274_ : v273.toInt < 0 := en_j_lt_t c274
            refine At.enter rfl ?_
            refine r_iconst 0 rfl ?_
            refine Ar.fall 18 rfl ?_
            refine At.enter rfl ?_
            refine q_iretz (by decide) ?_
            refine At.enter rfl ?_
            refine q_iretz (by decide) ?_
            refine At.enter rfl ?_
            refine r_iff 29 rfl (by decide) ?_
            refine At.enter rfl ?_
            refine r_aload_n rfl ?_
            refine r_iconst (-1) rfl ?_
            refine r_callV 34 rfl [.ref 231, .int (-1)] [] (Nat.le_of_ble_eq_true rfl) rfl (T_X11_tell_231 _ hI173 (-1) (by decide)) ?_
            rintro _ _ ⟨g275, rfl, hI276, hF277, v278, rfl, hr279⟩
            refine At.sti ?_
            have hF280 := Fr.tr hF174 hF277 rfl rfl
            have zv281 : ((-1) : Int32).toInt = (-1) := rfl
            refine At.enter rfl ?_
            refine r_ireti ?_
            obtain ⟨v282, hv282⟩ : ∃ v, eA g0 233 0 = v := ⟨_, rfl⟩
            have tv282 := congrArg Int32.toInt hv282
            have wv282 := HI.t0 hI0
            rw [hv282] at wv282
            have tv282 := congrArg Int32.toInt hv282
            have x283 := HI.eqA hI276 (p := 233) (j := 0) ((((eA_c (hF277.2.1 233 (by decide))).trans (eA_c gA_sI)).trans hv282))
            obtain ⟨v284, hv284⟩ : ∃ v, eA g0 233 4 = v := ⟨_, rfl⟩
            have wv284 := HI.t4 hI0
            rw [hv284] at wv284
            have tv284 := congrArg Int32.toInt hv284
            have x285 := HI.eqA hI276 (p := 233) (j := 4) ((((eA_c (hF277.2.1 233 (by decide))).trans (eA_c gA_sI)).trans hv284))
            obtain ⟨v286, hv286⟩ : ∃ v, eA g0 233 5 = v := ⟨_, rfl⟩
            have wv286 := HI.t5 hI0
            rw [hv286] at wv286
            have tv286 := congrArg Int32.toInt hv286
            have x287 := HI.eqA hI276 (p := 233) (j := 5) ((((eA_c (hF277.2.1 233 (by decide))).trans (eA_c gA_sI)).trans hv286))
            obtain ⟨v288, hv288⟩ : ∃ v, eA g0 233 6 = v := ⟨_, rfl⟩
            have wv288 := HI.t6 hI0
            rw [hv288] at wv288
            have tv288 := congrArg Int32.toInt hv288
            have x289 := HI.eqA hI276 (p := 233) (j := 6) ((((eA_c (hF277.2.1 233 (by decide))).trans (eA_c gA_sI)).trans hv288))
            obtain ⟨v290, hv290⟩ : ∃ v, eA g0 233 1 = v := ⟨_, rfl⟩
            have tv290 := congrArg Int32.toInt hv290
            have wv290 := HI.t1 hI0
            rw [hv290] at wv290
            have tv290 := congrArg Int32.toInt hv290
            have x291 := HI.eqA hI276 (p := 233) (j := 1) ((((eA_c (hF277.2.1 233 (by decide))).trans (eA_c gA_sI)).trans hv290))
            have x292 := HI.eqA hI0 (p := 233) (j := 0) (hv282)
            have x293 := HI.eqA hI0 (p := 233) (j := 4) (hv284)
            have x294 := HI.eqA hI0 (p := 233) (j := 5) (hv286)
            have x295 := HI.eqA hI0 (p := 233) (j := 6) (hv288)
            have x296 := HI.eqA hI0 (p := 233) (j := 1) (hv290)
            have x297 := HI.eqA hI0 (p := 233) (j := 0) (hv282)
            exact ⟨_, rfl, hI276, hF280, _, rfl, by omega, ⟨⟨by omega, by omega, by omega, by omega, by omega⟩, (by intro i i0 i1; refine Eq.trans ?_ (if_neg (show ¬ (((-1 ≤ a1.toInt ∧ a1.toInt ≤ 11 ∧ 1 ≤ a2.toInt ∧ a2.toInt ≤ 9 ∧ 0 ≤ a3.toInt ∧ a3.toInt ≤ 99) ∧ (eA g0 233 0).toInt < 12) ∧ i = 10 + 3 * (eA g0 233 0).toInt + 0) from by omega)).symm; refine Eq.trans ?_ (if_neg (show ¬ (((-1 ≤ a1.toInt ∧ a1.toInt ≤ 11 ∧ 1 ≤ a2.toInt ∧ a2.toInt ≤ 9 ∧ 0 ≤ a3.toInt ∧ a3.toInt ≤ 99) ∧ (eA g0 233 0).toInt < 12) ∧ i = 10 + 3 * (eA g0 233 0).toInt + 1) from by omega)).symm; refine Eq.trans ?_ (if_neg (show ¬ (((-1 ≤ a1.toInt ∧ a1.toInt ≤ 11 ∧ 1 ≤ a2.toInt ∧ a2.toInt ≤ 9 ∧ 0 ≤ a3.toInt ∧ a3.toInt ≤ 99) ∧ (eA g0 233 0).toInt < 12) ∧ i = 10 + 3 * (eA g0 233 0).toInt + 2) from by omega)).symm; refine (eA_ti (((hF277.2.1 233 (by decide)).trans (gA_sI)))).trans ?_; (first | rfl | exact eA_ix (by omega) | omega))⟩⟩
          · have c274_ : v273.toInt ≥ 0 := en_j_lt_f c274
            refine At.enter rfl ?_
            refine r_lload_n rfl ?_
            refine r_lload rfl ?_
            refine r_lcmp _ rfl ?_
            refine r_ifs 13 rfl (fun c298 => ?_) (fun c298 => ?_)
            · have c298_ : v273.toInt > 99 := en_j_gt_t c298
              refine At.enter rfl ?_
              refine r_iconst 0 rfl ?_
              refine Ar.fall 18 rfl ?_
              refine At.enter rfl ?_
              refine q_iretz (by decide) ?_
              refine At.enter rfl ?_
              refine q_iretz (by decide) ?_
              refine At.enter rfl ?_
              refine r_iff 29 rfl (by decide) ?_
              refine At.enter rfl ?_
              refine r_aload_n rfl ?_
              refine r_iconst (-1) rfl ?_
              refine r_callV 34 rfl [.ref 231, .int (-1)] [] (Nat.le_of_ble_eq_true rfl) rfl (T_X11_tell_231 _ hI173 (-1) (by decide)) ?_
              rintro _ _ ⟨g299, rfl, hI300, hF301, v302, rfl, hr303⟩
              refine At.sti ?_
              have hF304 := Fr.tr hF174 hF301 rfl rfl
              have zv305 : ((-1) : Int32).toInt = (-1) := rfl
              refine At.enter rfl ?_
              refine r_ireti ?_
              obtain ⟨v306, hv306⟩ : ∃ v, eA g0 233 0 = v := ⟨_, rfl⟩
              have tv306 := congrArg Int32.toInt hv306
              have wv306 := HI.t0 hI0
              rw [hv306] at wv306
              have tv306 := congrArg Int32.toInt hv306
              have x307 := HI.eqA hI300 (p := 233) (j := 0) ((((eA_c (hF301.2.1 233 (by decide))).trans (eA_c gA_sI)).trans hv306))
              obtain ⟨v308, hv308⟩ : ∃ v, eA g0 233 4 = v := ⟨_, rfl⟩
              have wv308 := HI.t4 hI0
              rw [hv308] at wv308
              have tv308 := congrArg Int32.toInt hv308
              have x309 := HI.eqA hI300 (p := 233) (j := 4) ((((eA_c (hF301.2.1 233 (by decide))).trans (eA_c gA_sI)).trans hv308))
              obtain ⟨v310, hv310⟩ : ∃ v, eA g0 233 5 = v := ⟨_, rfl⟩
              have wv310 := HI.t5 hI0
              rw [hv310] at wv310
              have tv310 := congrArg Int32.toInt hv310
              have x311 := HI.eqA hI300 (p := 233) (j := 5) ((((eA_c (hF301.2.1 233 (by decide))).trans (eA_c gA_sI)).trans hv310))
              obtain ⟨v312, hv312⟩ : ∃ v, eA g0 233 6 = v := ⟨_, rfl⟩
              have wv312 := HI.t6 hI0
              rw [hv312] at wv312
              have tv312 := congrArg Int32.toInt hv312
              have x313 := HI.eqA hI300 (p := 233) (j := 6) ((((eA_c (hF301.2.1 233 (by decide))).trans (eA_c gA_sI)).trans hv312))
              obtain ⟨v314, hv314⟩ : ∃ v, eA g0 233 1 = v := ⟨_, rfl⟩
              have tv314 := congrArg Int32.toInt hv314
              have wv314 := HI.t1 hI0
              rw [hv314] at wv314
              have tv314 := congrArg Int32.toInt hv314
              have x315 := HI.eqA hI300 (p := 233) (j := 1) ((((eA_c (hF301.2.1 233 (by decide))).trans (eA_c gA_sI)).trans hv314))
              have x316 := HI.eqA hI0 (p := 233) (j := 0) (hv306)
              have x317 := HI.eqA hI0 (p := 233) (j := 4) (hv308)
              have x318 := HI.eqA hI0 (p := 233) (j := 5) (hv310)
              have x319 := HI.eqA hI0 (p := 233) (j := 6) (hv312)
              have x320 := HI.eqA hI0 (p := 233) (j := 1) (hv314)
              have x321 := HI.eqA hI0 (p := 233) (j := 0) (hv306)
              exact ⟨_, rfl, hI300, hF304, _, rfl, by omega, ⟨⟨by omega, by omega, by omega, by omega, by omega⟩, (by intro i i0 i1; refine Eq.trans ?_ (if_neg (show ¬ (((-1 ≤ a1.toInt ∧ a1.toInt ≤ 11 ∧ 1 ≤ a2.toInt ∧ a2.toInt ≤ 9 ∧ 0 ≤ a3.toInt ∧ a3.toInt ≤ 99) ∧ (eA g0 233 0).toInt < 12) ∧ i = 10 + 3 * (eA g0 233 0).toInt + 0) from by omega)).symm; refine Eq.trans ?_ (if_neg (show ¬ (((-1 ≤ a1.toInt ∧ a1.toInt ≤ 11 ∧ 1 ≤ a2.toInt ∧ a2.toInt ≤ 9 ∧ 0 ≤ a3.toInt ∧ a3.toInt ≤ 99) ∧ (eA g0 233 0).toInt < 12) ∧ i = 10 + 3 * (eA g0 233 0).toInt + 1) from by omega)).symm; refine Eq.trans ?_ (if_neg (show ¬ (((-1 ≤ a1.toInt ∧ a1.toInt ≤ 11 ∧ 1 ≤ a2.toInt ∧ a2.toInt ≤ 9 ∧ 0 ≤ a3.toInt ∧ a3.toInt ≤ 99) ∧ (eA g0 233 0).toInt < 12) ∧ i = 10 + 3 * (eA g0 233 0).toInt + 2) from by omega)).symm; refine (eA_ti (((hF301.2.1 233 (by decide)).trans (gA_sI)))).trans ?_; (first | rfl | exact eA_ix (by omega) | omega))⟩⟩
            · have c298_ : v273.toInt ≤ 99 := en_j_gt_f c298
              refine At.enter rfl ?_
              refine r_iconst 1 rfl ?_
              refine r_goto ?_
              refine At.enter rfl ?_
              refine q_iretz (by decide) ?_
              refine At.enter rfl ?_
              refine q_iretz (by decide) ?_
              refine At.enter rfl ?_
              refine r_ift (by decide) ?_
              refine At.enter rfl ?_
              refine r_aload_n rfl ?_
              refine q_getR (Sh.ref hI173.1 kx_231 rfl) ?_
              refine r_iconst 0 rfl ?_
              obtain ⟨v322, hv322⟩ : ∃ v, eA g0 233 0 = v := ⟨_, rfl⟩
              have tv322 := congrArg Int32.toInt hv322
              have wv322 := HI.t0 hI0
              rw [hv322] at wv322
              refine q_iald (Sh.arr hI173.1 ka_233) 0 rfl (by decide) v322 ((eA_c (gA_sI)).trans hv322) ?_
              refine r_istore ([(4, .int v322), (0, .ref 231), (1, .int a1), (2, .int a2), (3, .int a3)]) rfl ?_
              refine r_iload rfl ?_
              refine r_bipush 12 rfl ?_
              refine r_ics 50 rfl (fun c323 => ?_) (fun c323 => ?_)
              · have c323_ : v322.toInt ≠ 12 := en_i_ne_t c323
                refine At.enter rfl ?_
                refine r_aload_n rfl ?_
                refine q_getR (Sh.ref hI173.1 kx_231 rfl) ?_
                refine r_bipush 10 rfl ?_
                refine r_iconst 3 rfl ?_
                refine r_iload rfl ?_
                refine q_imul (3 * v322.toInt) rfl (by omega) (fun v324 hv324 => ?_)
                refine q_iadd (10 + v324.toInt) rfl (by omega) (fun v325 hv325 => ?_)
                refine r_iload_n rfl ?_
                refine q_iast (Sh.arr hI173.1 ka_233) ((3 * v322.toInt + 10)) (by omega) (by omega) ?_
                have hI326 := HI.ws hI173 (j := (3 * v322.toInt + 10)) (v := a1) (v322.toInt) 0 (by omega) (by decide) (by omega) (by omega)
                have hF327 := Fr.wA (p := 233) (j := (3 * v322.toInt + 10)) (v := a1) hF174 rfl
                refine r_aload_n rfl ?_
                refine q_getR (Sh.ref hI326.1 kx_231 rfl) ?_
                refine r_bipush 10 rfl ?_
                refine r_iconst 3 rfl ?_
                refine r_iload rfl ?_
                refine q_imul (3 * v322.toInt) rfl (by omega) (fun v328 hv328 => ?_)
                refine q_iadd (10 + v328.toInt) rfl (by omega) (fun v329 hv329 => ?_)
                refine r_iconst 1 rfl ?_
                refine q_iadd (v329.toInt + 1) rfl (by omega) (fun v330 hv330 => ?_)
                refine r_iload_n rfl ?_
                refine q_iast (Sh.arr hI326.1 ka_233) ((3 * v322.toInt + 11)) (by omega) (by omega) ?_
                have hI331 := HI.ws hI326 (j := (3 * v322.toInt + 11)) (v := a2) (v322.toInt) 1 (by omega) (by decide) (by omega) (by omega)
                have hF332 := Fr.wA (p := 233) (j := (3 * v322.toInt + 11)) (v := a2) hF327 rfl
                refine r_aload_n rfl ?_
                refine q_getR (Sh.ref hI331.1 kx_231 rfl) ?_
                refine r_bipush 10 rfl ?_
                refine r_iconst 3 rfl ?_
                refine r_iload rfl ?_
                refine q_imul (3 * v322.toInt) rfl (by omega) (fun v333 hv333 => ?_)
                refine q_iadd (10 + v333.toInt) rfl (by omega) (fun v334 hv334 => ?_)
                refine r_iconst 2 rfl ?_
                refine q_iadd (v334.toInt + 2) rfl (by omega) (fun v335 hv335 => ?_)
                refine r_iload_n rfl ?_
                refine q_iast (Sh.arr hI331.1 ka_233) ((3 * v322.toInt + 12)) (by omega) (by omega) ?_
                have hI336 := HI.ws hI331 (j := (3 * v322.toInt + 12)) (v := a3) (v322.toInt) 2 (by omega) (by decide) (by omega) (by omega)
                have hF337 := Fr.wA (p := 233) (j := (3 * v322.toInt + 12)) (v := a3) hF332 rfl
                refine r_aload_n rfl ?_
                refine q_getR (Sh.ref hI336.1 kx_231 rfl) ?_
                refine r_iconst 0 rfl ?_
                refine r_dup2 ⟨rfl, rfl⟩ ?_
                refine q_iald (Sh.arr hI336.1 ka_233) 0 rfl (by decide) v322 (((eA_sA_ne hI331.1 ka_233 (by first | decide | omega) (by first | decide | omega) (by first | decide | omega)).trans ((eA_sA_ne hI326.1 ka_233 (by first | decide | omega) (by first | decide | omega) (by first | decide | omega)).trans ((eA_sA_ne hI173.1 ka_233 (by first | decide | omega) (by first | decide | omega) (by first | decide | omega)).trans (eA_c gA_sI)))).trans hv322) ?_
                refine r_iconst 1 rfl ?_
                refine q_iadd (v322.toInt + 1) rfl (by omega) (fun v338 hv338 => ?_)
                refine q_iast (Sh.arr hI336.1 ka_233) (0) rfl (by decide) ?_
                have x341 := HI.eqA hI336 (p := 233) (j := 0) ((((eA_sA_ne hI331.1 ka_233 (by first | decide | omega) (by first | decide | omega) (by first | decide | omega)).trans ((eA_sA_ne hI326.1 ka_233 (by first | decide | omega) (by first | decide | omega) (by first | decide | omega)).trans ((eA_sA_ne hI173.1 ka_233 (by first | decide | omega) (by first | decide | omega) (by first | decide | omega)).trans (eA_c gA_sI)))).trans hv322))
                have hI339 := HI.wt0 hI336 (v := v338) (by rw [(((eA_sA_ne hI331.1 ka_233 (by first | decide | omega) (by first | decide | omega) (by first | decide | omega)).trans ((eA_sA_ne hI326.1 ka_233 (by first | decide | omega) (by first | decide | omega) (by first | decide | omega)).trans ((eA_sA_ne hI173.1 ka_233 (by first | decide | omega) (by first | decide | omega) (by first | decide | omega)).trans (eA_c gA_sI)))).trans hv322)]; omega) (by omega) (i := (3 * v322.toInt + 11)) (by rw [(((eA_sA_ne hI331.1 ka_233 (by first | decide | omega) (by first | decide | omega) (by first | decide | omega)).trans ((eA_sA_ne hI326.1 ka_233 (by first | decide | omega) (by first | decide | omega) (by first | decide | omega)).trans ((eA_sA_ne hI173.1 ka_233 (by first | decide | omega) (by first | decide | omega) (by first | decide | omega)).trans (eA_c gA_sI)))).trans hv322)]; omega) (by rw [((eA_sA_ne hI331.1 ka_233 (by first | decide | omega) (by first | decide | omega) (by first | decide | omega)).trans (eA_sA_eq hI326.1 ka_233 (by first | rfl | omega) (by first | decide | omega) (by first | decide | omega)))]; omega)
                have hF340 := Fr.wA (p := 233) (j := 0) (v := v338) hF337 rfl
                refine r_aload_n rfl ?_
                refine r_iload rfl ?_
                refine r_callV 116 rfl [.ref 231, .int v322] [] (Nat.le_of_ble_eq_true rfl) rfl (T_X11_tell_231 _ hI339 v322 (by omega)) ?_
                rintro _ _ ⟨g342, rfl, hI343, hF344, v345, rfl, hr346⟩
                refine At.sti ?_
                have hF347 := Fr.tr hF340 hF344 rfl rfl
                refine At.enter rfl ?_
                refine r_ireti ?_
                have x348 := HI.eqA hI343 (p := 233) (j := 0) (((eA_c (hF344.2.1 233 (by decide))).trans (eA_sA_eq hI336.1 ka_233 (by first | rfl | omega) (by first | decide | omega) (by first | decide | omega))))
                obtain ⟨v349, hv349⟩ : ∃ v, eA g0 233 4 = v := ⟨_, rfl⟩
                have wv349 := HI.t4 hI0
                rw [hv349] at wv349
                have tv349 := congrArg Int32.toInt hv349
                have x350 := HI.eqA hI343 (p := 233) (j := 4) ((((eA_c (hF344.2.1 233 (by decide))).trans ((eA_sA_ne hI336.1 ka_233 (by first | decide | omega) (by first | decide | omega) (by first | decide | omega)).trans ((eA_sA_ne hI331.1 ka_233 (by first | decide | omega) (by first | decide | omega) (by first | decide | omega)).trans ((eA_sA_ne hI326.1 ka_233 (by first | decide | omega) (by first | decide | omega) (by first | decide | omega)).trans ((eA_sA_ne hI173.1 ka_233 (by first | decide | omega) (by first | decide | omega) (by first | decide | omega)).trans (eA_c gA_sI)))))).trans hv349))
                obtain ⟨v351, hv351⟩ : ∃ v, eA g0 233 5 = v := ⟨_, rfl⟩
                have wv351 := HI.t5 hI0
                rw [hv351] at wv351
                have tv351 := congrArg Int32.toInt hv351
                have x352 := HI.eqA hI343 (p := 233) (j := 5) ((((eA_c (hF344.2.1 233 (by decide))).trans ((eA_sA_ne hI336.1 ka_233 (by first | decide | omega) (by first | decide | omega) (by first | decide | omega)).trans ((eA_sA_ne hI331.1 ka_233 (by first | decide | omega) (by first | decide | omega) (by first | decide | omega)).trans ((eA_sA_ne hI326.1 ka_233 (by first | decide | omega) (by first | decide | omega) (by first | decide | omega)).trans ((eA_sA_ne hI173.1 ka_233 (by first | decide | omega) (by first | decide | omega) (by first | decide | omega)).trans (eA_c gA_sI)))))).trans hv351))
                obtain ⟨v353, hv353⟩ : ∃ v, eA g0 233 6 = v := ⟨_, rfl⟩
                have wv353 := HI.t6 hI0
                rw [hv353] at wv353
                have tv353 := congrArg Int32.toInt hv353
                have x354 := HI.eqA hI343 (p := 233) (j := 6) ((((eA_c (hF344.2.1 233 (by decide))).trans ((eA_sA_ne hI336.1 ka_233 (by first | decide | omega) (by first | decide | omega) (by first | decide | omega)).trans ((eA_sA_ne hI331.1 ka_233 (by first | decide | omega) (by first | decide | omega) (by first | decide | omega)).trans ((eA_sA_ne hI326.1 ka_233 (by first | decide | omega) (by first | decide | omega) (by first | decide | omega)).trans ((eA_sA_ne hI173.1 ka_233 (by first | decide | omega) (by first | decide | omega) (by first | decide | omega)).trans (eA_c gA_sI)))))).trans hv353))
                obtain ⟨v355, hv355⟩ : ∃ v, eA g0 233 1 = v := ⟨_, rfl⟩
                have tv355 := congrArg Int32.toInt hv355
                have wv355 := HI.t1 hI0
                rw [hv355] at wv355
                have tv355 := congrArg Int32.toInt hv355
                have x356 := HI.eqA hI343 (p := 233) (j := 1) ((((eA_c (hF344.2.1 233 (by decide))).trans ((eA_sA_ne hI336.1 ka_233 (by first | decide | omega) (by first | decide | omega) (by first | decide | omega)).trans ((eA_sA_ne hI331.1 ka_233 (by first | decide | omega) (by first | decide | omega) (by first | decide | omega)).trans ((eA_sA_ne hI326.1 ka_233 (by first | decide | omega) (by first | decide | omega) (by first | decide | omega)).trans ((eA_sA_ne hI173.1 ka_233 (by first | decide | omega) (by first | decide | omega) (by first | decide | omega)).trans (eA_c gA_sI)))))).trans hv355))
                have x357 := HI.eqA hI0 (p := 233) (j := 0) (hv322)
                have x358 := HI.eqA hI0 (p := 233) (j := 4) (hv349)
                have x359 := HI.eqA hI0 (p := 233) (j := 5) (hv351)
                have x360 := HI.eqA hI0 (p := 233) (j := 6) (hv353)
                have x361 := HI.eqA hI0 (p := 233) (j := 1) (hv355)
                have x362 := HI.eqA hI0 (p := 233) (j := 0) (hv322)
                exact ⟨_, rfl, hI343, hF347, _, rfl, by omega, ⟨⟨by omega, by omega, by omega, by omega, by omega⟩, (by intro i i0 i1; exact (Decidable.em (((-1 ≤ a1.toInt ∧ a1.toInt ≤ 11 ∧ 1 ≤ a2.toInt ∧ a2.toInt ≤ 9 ∧ 0 ≤ a3.toInt ∧ a3.toInt ≤ 99) ∧ (eA g0 233 0).toInt < 12) ∧ i = 10 + 3 * (eA g0 233 0).toInt + 0)).elim (fun k169_ => by refine Eq.trans ?_ (if_pos k169_).symm; refine (eA_ti ((hF344.2.1 233 (by decide)))).trans ?_; exact (Decidable.em (i = 0)).elim (fun k170_ => by refine (eA_eqT hI336.1 ka_233 k170_ (by first | decide | omega) (by first | decide | omega)).trans ?_; (first | (rfl) | (omega))) (fun k170_ => by refine (eA_neT hI336.1 ka_233 k170_ (by first | decide | omega) (by omega)).trans ?_; exact (Decidable.em (i = (3 * v322.toInt + 12))).elim (fun k171_ => by refine (eA_eqT hI331.1 ka_233 k171_ (by first | decide | omega) (by first | decide | omega)).trans ?_; (first | (rfl) | (omega))) (fun k171_ => by refine (eA_neT hI331.1 ka_233 k171_ (by first | decide | omega) (by omega)).trans ?_; exact (Decidable.em (i = (3 * v322.toInt + 11))).elim (fun k172_ => by refine (eA_eqT hI326.1 ka_233 k172_ (by first | decide | omega) (by first | decide | omega)).trans ?_; (first | (rfl) | (omega))) (fun k172_ => by refine (eA_neT hI326.1 ka_233 k172_ (by first | decide | omega) (by omega)).trans ?_; exact (Decidable.em (i = (3 * v322.toInt + 10))).elim (fun k173_ => by refine (eA_eqT hI173.1 ka_233 k173_ (by first | decide | omega) (by first | decide | omega)).trans ?_; (first | (rfl) | (omega))) (fun k173_ => by refine (eA_neT hI173.1 ka_233 k173_ (by first | decide | omega) (by omega)).trans ?_; refine (eA_ti ((gA_sI))).trans ?_; (first | rfl | exact eA_ix (by omega) | omega)))))) (fun k169_ => by refine Eq.trans ?_ (if_neg k169_).symm; exact (Decidable.em (((-1 ≤ a1.toInt ∧ a1.toInt ≤ 11 ∧ 1 ≤ a2.toInt ∧ a2.toInt ≤ 9 ∧ 0 ≤ a3.toInt ∧ a3.toInt ≤ 99) ∧ (eA g0 233 0).toInt < 12) ∧ i = 10 + 3 * (eA g0 233 0).toInt + 1)).elim (fun k174_ => by refine Eq.trans ?_ (if_pos k174_).symm; refine (eA_ti ((hF344.2.1 233 (by decide)))).trans ?_; exact (Decidable.em (i = 0)).elim (fun k175_ => by refine (eA_eqT hI336.1 ka_233 k175_ (by first | decide | omega) (by first | decide | omega)).trans ?_; (first | (rfl) | (omega))) (fun k175_ => by refine (eA_neT hI336.1 ka_233 k175_ (by first | decide | omega) (by omega)).trans ?_; exact (Decidable.em (i = (3 * v322.toInt + 12))).elim (fun k176_ => by refine (eA_eqT hI331.1 ka_233 k176_ (by first | decide | omega) (by first | decide | omega)).trans ?_; (first | (rfl) | (omega))) (fun k176_ => by refine (eA_neT hI331.1 ka_233 k176_ (by first | decide | omega) (by omega)).trans ?_; exact (Decidable.em (i = (3 * v322.toInt + 11))).elim (fun k177_ => by refine (eA_eqT hI326.1 ka_233 k177_ (by first | decide | omega) (by first | decide | omega)).trans ?_; (first | (rfl) | (omega))) (fun k177_ => by refine (eA_neT hI326.1 ka_233 k177_ (by first | decide | omega) (by omega)).trans ?_; exact (Decidable.em (i = (3 * v322.toInt + 10))).elim (fun k178_ => by refine (eA_eqT hI173.1 ka_233 k178_ (by first | decide | omega) (by first | decide | omega)).trans ?_; (first | (rfl) | (omega))) (fun k178_ => by refine (eA_neT hI173.1 ka_233 k178_ (by first | decide | omega) (by omega)).trans ?_; refine (eA_ti ((gA_sI))).trans ?_; (first | rfl | exact eA_ix (by omega) | omega)))))) (fun k174_ => by refine Eq.trans ?_ (if_neg k174_).symm; exact (Decidable.em (((-1 ≤ a1.toInt ∧ a1.toInt ≤ 11 ∧ 1 ≤ a2.toInt ∧ a2.toInt ≤ 9 ∧ 0 ≤ a3.toInt ∧ a3.toInt ≤ 99) ∧ (eA g0 233 0).toInt < 12) ∧ i = 10 + 3 * (eA g0 233 0).toInt + 2)).elim (fun k179_ => by refine Eq.trans ?_ (if_pos k179_).symm; refine (eA_ti ((hF344.2.1 233 (by decide)))).trans ?_; exact (Decidable.em (i = 0)).elim (fun k180_ => by refine (eA_eqT hI336.1 ka_233 k180_ (by first | decide | omega) (by first | decide | omega)).trans ?_; (first | (rfl) | (omega))) (fun k180_ => by refine (eA_neT hI336.1 ka_233 k180_ (by first | decide | omega) (by omega)).trans ?_; exact (Decidable.em (i = (3 * v322.toInt + 12))).elim (fun k181_ => by refine (eA_eqT hI331.1 ka_233 k181_ (by first | decide | omega) (by first | decide | omega)).trans ?_; (first | (rfl) | (omega))) (fun k181_ => by refine (eA_neT hI331.1 ka_233 k181_ (by first | decide | omega) (by omega)).trans ?_; exact (Decidable.em (i = (3 * v322.toInt + 11))).elim (fun k182_ => by refine (eA_eqT hI326.1 ka_233 k182_ (by first | decide | omega) (by first | decide | omega)).trans ?_; (first | (rfl) | (omega))) (fun k182_ => by refine (eA_neT hI326.1 ka_233 k182_ (by first | decide | omega) (by omega)).trans ?_; exact (Decidable.em (i = (3 * v322.toInt + 10))).elim (fun k183_ => by refine (eA_eqT hI173.1 ka_233 k183_ (by first | decide | omega) (by first | decide | omega)).trans ?_; (first | (rfl) | (omega))) (fun k183_ => by refine (eA_neT hI173.1 ka_233 k183_ (by first | decide | omega) (by omega)).trans ?_; refine (eA_ti ((gA_sI))).trans ?_; (first | rfl | exact eA_ix (by omega) | omega)))))) (fun k179_ => by refine Eq.trans ?_ (if_neg k179_).symm; refine (eA_ti ((hF344.2.1 233 (by decide)))).trans ?_; exact (Decidable.em (i = 0)).elim (fun k184_ => by refine (eA_eqT hI336.1 ka_233 k184_ (by first | decide | omega) (by first | decide | omega)).trans ?_; (first | (rfl) | (omega))) (fun k184_ => by refine (eA_neT hI336.1 ka_233 k184_ (by first | decide | omega) (by omega)).trans ?_; exact (Decidable.em (i = (3 * v322.toInt + 12))).elim (fun k185_ => by refine (eA_eqT hI331.1 ka_233 k185_ (by first | decide | omega) (by first | decide | omega)).trans ?_; (first | (rfl) | (omega))) (fun k185_ => by refine (eA_neT hI331.1 ka_233 k185_ (by first | decide | omega) (by omega)).trans ?_; exact (Decidable.em (i = (3 * v322.toInt + 11))).elim (fun k186_ => by refine (eA_eqT hI326.1 ka_233 k186_ (by first | decide | omega) (by first | decide | omega)).trans ?_; (first | (rfl) | (omega))) (fun k186_ => by refine (eA_neT hI326.1 ka_233 k186_ (by first | decide | omega) (by omega)).trans ?_; exact (Decidable.em (i = (3 * v322.toInt + 10))).elim (fun k187_ => by refine (eA_eqT hI173.1 ka_233 k187_ (by first | decide | omega) (by first | decide | omega)).trans ?_; (first | (rfl) | (omega))) (fun k187_ => by refine (eA_neT hI173.1 ka_233 k187_ (by first | decide | omega) (by omega)).trans ?_; refine (eA_ti ((gA_sI))).trans ?_; (first | rfl | exact eA_ix (by omega) | omega)))))))))⟩⟩
              · have c323_ : v322.toInt = 12 := en_i_ne_f c323
                refine At.enter rfl ?_
                refine r_aload_n rfl ?_
                refine r_bipush (-5) rfl ?_
                refine r_callV 56 rfl [.ref 231, .int (-5)] [] (Nat.le_of_ble_eq_true rfl) rfl (T_X11_tell_231 _ hI173 (-5) (by decide)) ?_
                rintro _ _ ⟨g363, rfl, hI364, hF365, v366, rfl, hr367⟩
                refine At.sti ?_
                have hF368 := Fr.tr hF174 hF365 rfl rfl
                have zv369 : ((-5) : Int32).toInt = (-5) := rfl
                refine At.enter rfl ?_
                refine r_ireti ?_
                have x370 := HI.eqA hI364 (p := 233) (j := 0) ((((eA_c (hF365.2.1 233 (by decide))).trans (eA_c gA_sI)).trans hv322))
                obtain ⟨v371, hv371⟩ : ∃ v, eA g0 233 4 = v := ⟨_, rfl⟩
                have wv371 := HI.t4 hI0
                rw [hv371] at wv371
                have tv371 := congrArg Int32.toInt hv371
                have x372 := HI.eqA hI364 (p := 233) (j := 4) ((((eA_c (hF365.2.1 233 (by decide))).trans (eA_c gA_sI)).trans hv371))
                obtain ⟨v373, hv373⟩ : ∃ v, eA g0 233 5 = v := ⟨_, rfl⟩
                have wv373 := HI.t5 hI0
                rw [hv373] at wv373
                have tv373 := congrArg Int32.toInt hv373
                have x374 := HI.eqA hI364 (p := 233) (j := 5) ((((eA_c (hF365.2.1 233 (by decide))).trans (eA_c gA_sI)).trans hv373))
                obtain ⟨v375, hv375⟩ : ∃ v, eA g0 233 6 = v := ⟨_, rfl⟩
                have wv375 := HI.t6 hI0
                rw [hv375] at wv375
                have tv375 := congrArg Int32.toInt hv375
                have x376 := HI.eqA hI364 (p := 233) (j := 6) ((((eA_c (hF365.2.1 233 (by decide))).trans (eA_c gA_sI)).trans hv375))
                obtain ⟨v377, hv377⟩ : ∃ v, eA g0 233 1 = v := ⟨_, rfl⟩
                have tv377 := congrArg Int32.toInt hv377
                have wv377 := HI.t1 hI0
                rw [hv377] at wv377
                have tv377 := congrArg Int32.toInt hv377
                have x378 := HI.eqA hI364 (p := 233) (j := 1) ((((eA_c (hF365.2.1 233 (by decide))).trans (eA_c gA_sI)).trans hv377))
                have x379 := HI.eqA hI0 (p := 233) (j := 0) (hv322)
                have x380 := HI.eqA hI0 (p := 233) (j := 4) (hv371)
                have x381 := HI.eqA hI0 (p := 233) (j := 5) (hv373)
                have x382 := HI.eqA hI0 (p := 233) (j := 6) (hv375)
                have x383 := HI.eqA hI0 (p := 233) (j := 1) (hv377)
                have x384 := HI.eqA hI0 (p := 233) (j := 0) (hv322)
                exact ⟨_, rfl, hI364, hF368, _, rfl, by omega, ⟨⟨by omega, by omega, by omega, by omega, by omega⟩, (by intro i i0 i1; refine Eq.trans ?_ (if_neg (show ¬ (((-1 ≤ a1.toInt ∧ a1.toInt ≤ 11 ∧ 1 ≤ a2.toInt ∧ a2.toInt ≤ 9 ∧ 0 ≤ a3.toInt ∧ a3.toInt ≤ 99) ∧ (eA g0 233 0).toInt < 12) ∧ i = 10 + 3 * (eA g0 233 0).toInt + 0) from by omega)).symm; refine Eq.trans ?_ (if_neg (show ¬ (((-1 ≤ a1.toInt ∧ a1.toInt ≤ 11 ∧ 1 ≤ a2.toInt ∧ a2.toInt ≤ 9 ∧ 0 ≤ a3.toInt ∧ a3.toInt ≤ 99) ∧ (eA g0 233 0).toInt < 12) ∧ i = 10 + 3 * (eA g0 233 0).toInt + 1) from by omega)).symm; refine Eq.trans ?_ (if_neg (show ¬ (((-1 ≤ a1.toInt ∧ a1.toInt ≤ 11 ∧ 1 ≤ a2.toInt ∧ a2.toInt ≤ 9 ∧ 0 ≤ a3.toInt ∧ a3.toInt ≤ 99) ∧ (eA g0 233 0).toInt < 12) ∧ i = 10 + 3 * (eA g0 233 0).toInt + 2) from by omega)).symm; refine (eA_ti (((hF365.2.1 233 (by decide)).trans (gA_sI)))).trans ?_; (first | rfl | exact eA_ix (by omega) | omega))⟩⟩

def F_X11_put_231 : List (Nat × Nat) := [(231, 0), (231, 1)]
def A_X11_put_231 : List Nat := [232, 233]
set_option maxRecDepth 100000 in
set_option maxHeartbeats 4000000 in
theorem T_X11_put_231 (d : Nat) {N : Nat} {g0 : List en_E} (hI0 : HI g0) (a1 : Int32) (a2 : Int32) (a3 : Int32) : Ev (d + 3) 173 [.ref 231, .int a1, .int a2, .int a3] (g0, N) (fun w h' => ∃ g', h' = (g', N) ∧ HI g' ∧ Fr F_X11_put_231 A_X11_put_231 g0 g' ∧ ∃ r : Int32, w = some (.int r) ∧ ((-2) ≤ r.toInt ∧ r.toInt ≤ 99) ∧ ((((eA g' 233 0).toInt = (eA g0 233 0).toInt ∧ (eA g' 233 4).toInt = (eA g0 233 4).toInt ∧ (eA g' 233 5).toInt = (eA g0 233 5).toInt ∧ (eA g' 233 6).toInt = (eA g0 233 6).toInt ∧ (eA g' 233 1).toInt = (eA g0 233 1).toInt) ∧ (¬ ((a2.toInt = 0 ∧ -1 ≤ a3.toInt ∧ a3.toInt ≤ 11) ∨ (a2.toInt = 1 ∧ 1 ≤ a3.toInt ∧ a3.toInt ≤ 9) ∨ (a2.toInt = 2 ∧ 0 ≤ a3.toInt ∧ a3.toInt ≤ 99)) → r.toInt = -1) ∧ (((a2.toInt = 0 ∧ -1 ≤ a3.toInt ∧ a3.toInt ≤ 11) ∨ (a2.toInt = 1 ∧ 1 ≤ a3.toInt ∧ a3.toInt ≤ 9) ∨ (a2.toInt = 2 ∧ 0 ≤ a3.toInt ∧ a3.toInt ≤ 99)) ∧ ¬ (0 ≤ a1.toInt ∧ a1.toInt < (eA g0 233 0).toInt) → r.toInt = -2) ∧ (((a2.toInt = 0 ∧ -1 ≤ a3.toInt ∧ a3.toInt ≤ 11) ∨ (a2.toInt = 1 ∧ 1 ≤ a3.toInt ∧ a3.toInt ≤ 9) ∨ (a2.toInt = 2 ∧ 0 ≤ a3.toInt ∧ a3.toInt ≤ 99)) ∧ 0 ≤ a1.toInt ∧ a1.toInt < (eA g0 233 0).toInt → r.toInt = (eA g0 233 (10 + 3 * a1.toInt + a2.toInt)).toInt)) ∧ (∀ i : Int, 10 ≤ i → i < 110 → (eA g' 233 (i)).toInt = if (((a2.toInt = 0 ∧ -1 ≤ a3.toInt ∧ a3.toInt ≤ 11) ∨ (a2.toInt = 1 ∧ 1 ≤ a3.toInt ∧ a3.toInt ≤ 9) ∨ (a2.toInt = 2 ∧ 0 ≤ a3.toInt ∧ a3.toInt ≤ 99)) ∧ 0 ≤ a1.toInt ∧ a1.toInt < (eA g0 233 0).toInt) ∧ i = 10 + 3 * a1.toInt + a2.toInt then a3.toInt else (eA g0 233 (i)).toInt))) := by
  have hF0 : Fr F_X11_put_231 A_X11_put_231 g0 g0 := Fr.rf
  refine Ev.mk rfl rfl ⟨Nat.le_of_ble_eq_true rfl, Or.inr (q_rc hI0.1 kx_231 rfl)⟩ ?_
  show At _ none _ _ (0, [(0, .ref 231), (1, .int a1), (2, .int a2), (3, .int a3)], [], (_, _)) _
  refine At.enter rfl ?_
  refine r_aload_n rfl ?_
  refine r_iconst 0 rfl ?_
  refine q_putI (Sh.int hI0.1 kx_231 rfl) rfl ?_
  have hI293 := HI.wI0 hI0 kx_231 rfl (p := 231) (b := 0) (v := 0) rfl
  have hF294 := Fr.wI (p := 231) (b := 0) (v := 0) hF0 rfl
  refine r_iload_n rfl ?_
  refine r_iload_n rfl ?_
  refine q_inlS 10 rfl [.int a2, .int a3] [] (Nat.le_of_ble_eq_true rfl) rfl ?_
  refine Ev.mk rfl rfl ⟨Nat.le_of_ble_eq_true rfl, Or.inl rfl⟩ ?_
  show At _ none _ _ (0, [(0, .int a2), (1, .int a3)], [], (_, _)) _
  refine At.enter rfl ?_
  refine r_iload_n rfl ?_
  by_cases c295_0 : a2.toInt = 0
  · refine r_tsw 28 (by rw [c295_0]; rfl) ?_
    refine At.enter rfl ?_
    refine r_iload_n rfl ?_
    refine q_i2l (fun v296 hv296 => ?_)
    refine r_ldc2 (-1) rfl ?_
    refine r_ldc2 11 rfl ?_
    refine q_inlS 39 rfl [.long v296, .long (-1), .long 11] [] (Nat.le_of_ble_eq_true rfl) rfl ?_
    refine Ev.mk rfl rfl ⟨Nat.le_of_ble_eq_true rfl, Or.inl rfl⟩ ?_
    show At _ none _ _ (0, [(0, .long v296), (2, .long (-1)), (4, .long 11)], [], (_, _)) _
    refine At.enter rfl ?_
    refine r_lload_n rfl ?_
    refine r_lload_n rfl ?_
    refine r_lcmp _ rfl ?_
    refine r_ifs 6 rfl (fun c297 => ?_) (fun c297 => ?_)
    · have c297_ : v296.toInt < (-1) := en_j_lt_t c297
      refine At.enter rfl ?_
      refine r_iconst 0 rfl ?_
      refine Ar.fall 18 rfl ?_
      refine At.enter rfl ?_
      refine q_iretz (by decide) ?_
      refine At.enter rfl ?_
      refine q_iretz (by decide) ?_
      refine At.enter rfl ?_
      refine r_iff 13 rfl (by decide) ?_
      refine At.enter rfl ?_
      refine r_aload_n rfl ?_
      refine r_iconst (-1) rfl ?_
      refine r_callV 18 rfl [.ref 231, .int (-1)] [] (Nat.le_of_ble_eq_true rfl) rfl (T_X11_tell_231 _ hI293 (-1) (by decide)) ?_
      rintro _ _ ⟨g298, rfl, hI299, hF300, v301, rfl, hr302⟩
      refine At.sti ?_
      have hF303 := Fr.tr hF294 hF300 rfl rfl
      have zv304 : ((-1) : Int32).toInt = (-1) := rfl
      refine At.enter rfl ?_
      refine r_ireti ?_
      obtain ⟨v305, hv305⟩ : ∃ v, eA g0 233 0 = v := ⟨_, rfl⟩
      have tv305 := congrArg Int32.toInt hv305
      have wv305 := HI.t0 hI0
      rw [hv305] at wv305
      have tv305 := congrArg Int32.toInt hv305
      have x306 := HI.eqA hI0 (p := 233) (j := 0) (hv305)
      have y307 := congrArg Int32.toInt hv305
      have x308 := HI.eqA hI299 (p := 233) (j := 0) ((((eA_c (hF300.2.1 233 (by decide))).trans (eA_c gA_sI)).trans hv305))
      obtain ⟨v309, hv309⟩ : ∃ v, eA g0 233 4 = v := ⟨_, rfl⟩
      have wv309 := HI.t4 hI0
      rw [hv309] at wv309
      have tv309 := congrArg Int32.toInt hv309
      have x310 := HI.eqA hI299 (p := 233) (j := 4) ((((eA_c (hF300.2.1 233 (by decide))).trans (eA_c gA_sI)).trans hv309))
      obtain ⟨v311, hv311⟩ : ∃ v, eA g0 233 5 = v := ⟨_, rfl⟩
      have wv311 := HI.t5 hI0
      rw [hv311] at wv311
      have tv311 := congrArg Int32.toInt hv311
      have x312 := HI.eqA hI299 (p := 233) (j := 5) ((((eA_c (hF300.2.1 233 (by decide))).trans (eA_c gA_sI)).trans hv311))
      obtain ⟨v313, hv313⟩ : ∃ v, eA g0 233 6 = v := ⟨_, rfl⟩
      have wv313 := HI.t6 hI0
      rw [hv313] at wv313
      have tv313 := congrArg Int32.toInt hv313
      have x314 := HI.eqA hI299 (p := 233) (j := 6) ((((eA_c (hF300.2.1 233 (by decide))).trans (eA_c gA_sI)).trans hv313))
      obtain ⟨v315, hv315⟩ : ∃ v, eA g0 233 1 = v := ⟨_, rfl⟩
      have tv315 := congrArg Int32.toInt hv315
      have wv315 := HI.t1 hI0
      rw [hv315] at wv315
      have tv315 := congrArg Int32.toInt hv315
      have x316 := HI.eqA hI299 (p := 233) (j := 1) ((((eA_c (hF300.2.1 233 (by decide))).trans (eA_c gA_sI)).trans hv315))
      have x317 := HI.eqA hI0 (p := 233) (j := 0) (hv305)
      have x318 := HI.eqA hI0 (p := 233) (j := 4) (hv309)
      have x319 := HI.eqA hI0 (p := 233) (j := 5) (hv311)
      have x320 := HI.eqA hI0 (p := 233) (j := 6) (hv313)
      have x321 := HI.eqA hI0 (p := 233) (j := 1) (hv315)
      have x322 := HI.eqA hI0 (p := 233) (j := 0) (hv305)
      exact ⟨_, rfl, hI299, hF303, _, rfl, by omega, ⟨⟨⟨by omega, by omega, by omega, by omega, by omega⟩, by omega, by omega, by omega⟩, (by intro i i0 i1; refine Eq.trans ?_ (if_neg (show ¬ ((((a2.toInt = 0 ∧ -1 ≤ a3.toInt ∧ a3.toInt ≤ 11) ∨ (a2.toInt = 1 ∧ 1 ≤ a3.toInt ∧ a3.toInt ≤ 9) ∨ (a2.toInt = 2 ∧ 0 ≤ a3.toInt ∧ a3.toInt ≤ 99)) ∧ 0 ≤ a1.toInt ∧ a1.toInt < (eA g0 233 0).toInt) ∧ i = 10 + 3 * a1.toInt + a2.toInt) from by omega)).symm; refine (eA_ti (((hF300.2.1 233 (by decide)).trans (gA_sI)))).trans ?_; (first | rfl | exact eA_ix (by omega) | omega))⟩⟩
    · have c297_ : v296.toInt ≥ (-1) := en_j_lt_f c297
      refine At.enter rfl ?_
      refine r_lload_n rfl ?_
      refine r_lload rfl ?_
      refine r_lcmp _ rfl ?_
      refine r_ifs 13 rfl (fun c323 => ?_) (fun c323 => ?_)
      · have c323_ : v296.toInt > 11 := en_j_gt_t c323
        refine At.enter rfl ?_
        refine r_iconst 0 rfl ?_
        refine Ar.fall 18 rfl ?_
        refine At.enter rfl ?_
        refine q_iretz (by decide) ?_
        refine At.enter rfl ?_
        refine q_iretz (by decide) ?_
        refine At.enter rfl ?_
        refine r_iff 13 rfl (by decide) ?_
        refine At.enter rfl ?_
        refine r_aload_n rfl ?_
        refine r_iconst (-1) rfl ?_
        refine r_callV 18 rfl [.ref 231, .int (-1)] [] (Nat.le_of_ble_eq_true rfl) rfl (T_X11_tell_231 _ hI293 (-1) (by decide)) ?_
        rintro _ _ ⟨g324, rfl, hI325, hF326, v327, rfl, hr328⟩
        refine At.sti ?_
        have hF329 := Fr.tr hF294 hF326 rfl rfl
        have zv330 : ((-1) : Int32).toInt = (-1) := rfl
        refine At.enter rfl ?_
        refine r_ireti ?_
        obtain ⟨v331, hv331⟩ : ∃ v, eA g0 233 0 = v := ⟨_, rfl⟩
        have tv331 := congrArg Int32.toInt hv331
        have wv331 := HI.t0 hI0
        rw [hv331] at wv331
        have tv331 := congrArg Int32.toInt hv331
        have x332 := HI.eqA hI0 (p := 233) (j := 0) (hv331)
        have y333 := congrArg Int32.toInt hv331
        have x334 := HI.eqA hI325 (p := 233) (j := 0) ((((eA_c (hF326.2.1 233 (by decide))).trans (eA_c gA_sI)).trans hv331))
        obtain ⟨v335, hv335⟩ : ∃ v, eA g0 233 4 = v := ⟨_, rfl⟩
        have wv335 := HI.t4 hI0
        rw [hv335] at wv335
        have tv335 := congrArg Int32.toInt hv335
        have x336 := HI.eqA hI325 (p := 233) (j := 4) ((((eA_c (hF326.2.1 233 (by decide))).trans (eA_c gA_sI)).trans hv335))
        obtain ⟨v337, hv337⟩ : ∃ v, eA g0 233 5 = v := ⟨_, rfl⟩
        have wv337 := HI.t5 hI0
        rw [hv337] at wv337
        have tv337 := congrArg Int32.toInt hv337
        have x338 := HI.eqA hI325 (p := 233) (j := 5) ((((eA_c (hF326.2.1 233 (by decide))).trans (eA_c gA_sI)).trans hv337))
        obtain ⟨v339, hv339⟩ : ∃ v, eA g0 233 6 = v := ⟨_, rfl⟩
        have wv339 := HI.t6 hI0
        rw [hv339] at wv339
        have tv339 := congrArg Int32.toInt hv339
        have x340 := HI.eqA hI325 (p := 233) (j := 6) ((((eA_c (hF326.2.1 233 (by decide))).trans (eA_c gA_sI)).trans hv339))
        obtain ⟨v341, hv341⟩ : ∃ v, eA g0 233 1 = v := ⟨_, rfl⟩
        have tv341 := congrArg Int32.toInt hv341
        have wv341 := HI.t1 hI0
        rw [hv341] at wv341
        have tv341 := congrArg Int32.toInt hv341
        have x342 := HI.eqA hI325 (p := 233) (j := 1) ((((eA_c (hF326.2.1 233 (by decide))).trans (eA_c gA_sI)).trans hv341))
        have x343 := HI.eqA hI0 (p := 233) (j := 0) (hv331)
        have x344 := HI.eqA hI0 (p := 233) (j := 4) (hv335)
        have x345 := HI.eqA hI0 (p := 233) (j := 5) (hv337)
        have x346 := HI.eqA hI0 (p := 233) (j := 6) (hv339)
        have x347 := HI.eqA hI0 (p := 233) (j := 1) (hv341)
        have x348 := HI.eqA hI0 (p := 233) (j := 0) (hv331)
        exact ⟨_, rfl, hI325, hF329, _, rfl, by omega, ⟨⟨⟨by omega, by omega, by omega, by omega, by omega⟩, by omega, by omega, by omega⟩, (by intro i i0 i1; refine Eq.trans ?_ (if_neg (show ¬ ((((a2.toInt = 0 ∧ -1 ≤ a3.toInt ∧ a3.toInt ≤ 11) ∨ (a2.toInt = 1 ∧ 1 ≤ a3.toInt ∧ a3.toInt ≤ 9) ∨ (a2.toInt = 2 ∧ 0 ≤ a3.toInt ∧ a3.toInt ≤ 99)) ∧ 0 ≤ a1.toInt ∧ a1.toInt < (eA g0 233 0).toInt) ∧ i = 10 + 3 * a1.toInt + a2.toInt) from by omega)).symm; refine (eA_ti (((hF326.2.1 233 (by decide)).trans (gA_sI)))).trans ?_; (first | rfl | exact eA_ix (by omega) | omega))⟩⟩
      · have c323_ : v296.toInt ≤ 11 := en_j_gt_f c323
        refine At.enter rfl ?_
        refine r_iconst 1 rfl ?_
        refine r_goto ?_
        refine At.enter rfl ?_
        refine q_iretz (by decide) ?_
        refine At.enter rfl ?_
        refine q_iretz (by decide) ?_
        refine At.enter rfl ?_
        refine r_ift (by decide) ?_
        refine At.enter rfl ?_
        refine r_aload_n rfl ?_
        refine r_iload_n rfl ?_
        refine q_inlV 24 rfl [.ref 231, .int a1] [] (Nat.le_of_ble_eq_true rfl) rfl ?_
        refine Ev.mk rfl rfl ⟨Nat.le_of_ble_eq_true rfl, Or.inr (q_rc hI293.1 kx_231 rfl)⟩ ?_
        show At _ none _ _ (0, [(0, .ref 231), (1, .int a1)], [], (_, _)) _
        refine At.enter rfl ?_
        refine r_iload_n rfl ?_
        refine q_i2l (fun v349 hv349 => ?_)
        refine r_lconst 0 rfl ?_
        refine r_aload_n rfl ?_
        refine q_getR (Sh.ref hI293.1 kx_231 rfl) ?_
        refine r_iconst 0 rfl ?_
        obtain ⟨v350, hv350⟩ : ∃ v, eA g0 233 0 = v := ⟨_, rfl⟩
        have tv350 := congrArg Int32.toInt hv350
        have wv350 := HI.t0 hI0
        rw [hv350] at wv350
        refine q_iald (Sh.arr hI293.1 ka_233) 0 rfl (by decide) v350 ((eA_c (gA_sI)).trans hv350) ?_
        refine q_i2l (fun v351 hv351 => ?_)
        refine r_lconst 1 rfl ?_
        refine q_lsub (v351.toInt - 1) rfl (by omega) (fun v352 hv352 => ?_)
        refine q_inlS 15 rfl [.long v349, .long 0, .long v352] [] (Nat.le_of_ble_eq_true rfl) rfl ?_
        refine Ev.mk rfl rfl ⟨Nat.le_of_ble_eq_true rfl, Or.inl rfl⟩ ?_
        show At _ none _ _ (0, [(0, .long v349), (2, .long 0), (4, .long v352)], [], (_, _)) _
        refine At.enter rfl ?_
        refine r_lload_n rfl ?_
        refine r_lload_n rfl ?_
        refine r_lcmp _ rfl ?_
        refine r_ifs 6 rfl (fun c353 => ?_) (fun c353 => ?_)
        · have c353_ : v349.toInt < 0 := en_j_lt_t c353
          refine At.enter rfl ?_
          refine r_iconst 0 rfl ?_
          refine Ar.fall 18 rfl ?_
          refine At.enter rfl ?_
          refine q_iretz (by decide) ?_
          refine At.enter rfl ?_
          refine q_iretz (by decide) ?_
          refine At.enter rfl ?_
          refine r_ift (by decide) ?_
          refine At.enter rfl ?_
          refine r_aload_n rfl ?_
          refine r_bipush (-2) rfl ?_
          refine r_callV 49 rfl [.ref 231, .int (-2)] [] (Nat.le_of_ble_eq_true rfl) rfl (T_X11_tell_231 _ hI293 (-2) (by decide)) ?_
          rintro _ _ ⟨g354, rfl, hI355, hF356, v357, rfl, hr358⟩
          refine At.sti ?_
          have hF359 := Fr.tr hF294 hF356 rfl rfl
          have zv360 : ((-2) : Int32).toInt = (-2) := rfl
          refine At.enter rfl ?_
          refine r_ireti ?_
          have x361 := HI.eqA hI0 (p := 233) (j := 0) (hv350)
          have y362 := congrArg Int32.toInt hv350
          have x363 := HI.eqA hI355 (p := 233) (j := 0) ((((eA_c (hF356.2.1 233 (by decide))).trans (eA_c gA_sI)).trans hv350))
          obtain ⟨v364, hv364⟩ : ∃ v, eA g0 233 4 = v := ⟨_, rfl⟩
          have wv364 := HI.t4 hI0
          rw [hv364] at wv364
          have tv364 := congrArg Int32.toInt hv364
          have x365 := HI.eqA hI355 (p := 233) (j := 4) ((((eA_c (hF356.2.1 233 (by decide))).trans (eA_c gA_sI)).trans hv364))
          obtain ⟨v366, hv366⟩ : ∃ v, eA g0 233 5 = v := ⟨_, rfl⟩
          have wv366 := HI.t5 hI0
          rw [hv366] at wv366
          have tv366 := congrArg Int32.toInt hv366
          have x367 := HI.eqA hI355 (p := 233) (j := 5) ((((eA_c (hF356.2.1 233 (by decide))).trans (eA_c gA_sI)).trans hv366))
          obtain ⟨v368, hv368⟩ : ∃ v, eA g0 233 6 = v := ⟨_, rfl⟩
          have wv368 := HI.t6 hI0
          rw [hv368] at wv368
          have tv368 := congrArg Int32.toInt hv368
          have x369 := HI.eqA hI355 (p := 233) (j := 6) ((((eA_c (hF356.2.1 233 (by decide))).trans (eA_c gA_sI)).trans hv368))
          obtain ⟨v370, hv370⟩ : ∃ v, eA g0 233 1 = v := ⟨_, rfl⟩
          have tv370 := congrArg Int32.toInt hv370
          have wv370 := HI.t1 hI0
          rw [hv370] at wv370
          have tv370 := congrArg Int32.toInt hv370
          have x371 := HI.eqA hI355 (p := 233) (j := 1) ((((eA_c (hF356.2.1 233 (by decide))).trans (eA_c gA_sI)).trans hv370))
          have x372 := HI.eqA hI0 (p := 233) (j := 0) (hv350)
          have x373 := HI.eqA hI0 (p := 233) (j := 4) (hv364)
          have x374 := HI.eqA hI0 (p := 233) (j := 5) (hv366)
          have x375 := HI.eqA hI0 (p := 233) (j := 6) (hv368)
          have x376 := HI.eqA hI0 (p := 233) (j := 1) (hv370)
          have x377 := HI.eqA hI0 (p := 233) (j := 0) (hv350)
          exact ⟨_, rfl, hI355, hF359, _, rfl, by omega, ⟨⟨⟨by omega, by omega, by omega, by omega, by omega⟩, by omega, by omega, by omega⟩, (by intro i i0 i1; refine Eq.trans ?_ (if_neg (show ¬ ((((a2.toInt = 0 ∧ -1 ≤ a3.toInt ∧ a3.toInt ≤ 11) ∨ (a2.toInt = 1 ∧ 1 ≤ a3.toInt ∧ a3.toInt ≤ 9) ∨ (a2.toInt = 2 ∧ 0 ≤ a3.toInt ∧ a3.toInt ≤ 99)) ∧ 0 ≤ a1.toInt ∧ a1.toInt < (eA g0 233 0).toInt) ∧ i = 10 + 3 * a1.toInt + a2.toInt) from by omega)).symm; refine (eA_ti (((hF356.2.1 233 (by decide)).trans (gA_sI)))).trans ?_; (first | rfl | exact eA_ix (by omega) | omega))⟩⟩
        · have c353_ : v349.toInt ≥ 0 := en_j_lt_f c353
          refine At.enter rfl ?_
          refine r_lload_n rfl ?_
          refine r_lload rfl ?_
          refine r_lcmp _ rfl ?_
          refine r_ifs 13 rfl (fun c378 => ?_) (fun c378 => ?_)
          · have c378_ : v349.toInt > v352.toInt := en_j_gt_t c378
            refine At.enter rfl ?_
            refine r_iconst 0 rfl ?_
            refine Ar.fall 18 rfl ?_
            refine At.enter rfl ?_
            refine q_iretz (by decide) ?_
            refine At.enter rfl ?_
            refine q_iretz (by decide) ?_
            refine At.enter rfl ?_
            refine r_ift (by decide) ?_
            refine At.enter rfl ?_
            refine r_aload_n rfl ?_
            refine r_bipush (-2) rfl ?_
            refine r_callV 49 rfl [.ref 231, .int (-2)] [] (Nat.le_of_ble_eq_true rfl) rfl (T_X11_tell_231 _ hI293 (-2) (by decide)) ?_
            rintro _ _ ⟨g379, rfl, hI380, hF381, v382, rfl, hr383⟩
            refine At.sti ?_
            have hF384 := Fr.tr hF294 hF381 rfl rfl
            have zv385 : ((-2) : Int32).toInt = (-2) := rfl
            refine At.enter rfl ?_
            refine r_ireti ?_
            have x386 := HI.eqA hI0 (p := 233) (j := 0) (hv350)
            have y387 := congrArg Int32.toInt hv350
            have x388 := HI.eqA hI380 (p := 233) (j := 0) ((((eA_c (hF381.2.1 233 (by decide))).trans (eA_c gA_sI)).trans hv350))
            obtain ⟨v389, hv389⟩ : ∃ v, eA g0 233 4 = v := ⟨_, rfl⟩
            have wv389 := HI.t4 hI0
            rw [hv389] at wv389
            have tv389 := congrArg Int32.toInt hv389
            have x390 := HI.eqA hI380 (p := 233) (j := 4) ((((eA_c (hF381.2.1 233 (by decide))).trans (eA_c gA_sI)).trans hv389))
            obtain ⟨v391, hv391⟩ : ∃ v, eA g0 233 5 = v := ⟨_, rfl⟩
            have wv391 := HI.t5 hI0
            rw [hv391] at wv391
            have tv391 := congrArg Int32.toInt hv391
            have x392 := HI.eqA hI380 (p := 233) (j := 5) ((((eA_c (hF381.2.1 233 (by decide))).trans (eA_c gA_sI)).trans hv391))
            obtain ⟨v393, hv393⟩ : ∃ v, eA g0 233 6 = v := ⟨_, rfl⟩
            have wv393 := HI.t6 hI0
            rw [hv393] at wv393
            have tv393 := congrArg Int32.toInt hv393
            have x394 := HI.eqA hI380 (p := 233) (j := 6) ((((eA_c (hF381.2.1 233 (by decide))).trans (eA_c gA_sI)).trans hv393))
            obtain ⟨v395, hv395⟩ : ∃ v, eA g0 233 1 = v := ⟨_, rfl⟩
            have tv395 := congrArg Int32.toInt hv395
            have wv395 := HI.t1 hI0
            rw [hv395] at wv395
            have tv395 := congrArg Int32.toInt hv395
            have x396 := HI.eqA hI380 (p := 233) (j := 1) ((((eA_c (hF381.2.1 233 (by decide))).trans (eA_c gA_sI)).trans hv395))
            have x397 := HI.eqA hI0 (p := 233) (j := 0) (hv350)
            have x398 := HI.eqA hI0 (p := 233) (j := 4) (hv389)
            have x399 := HI.eqA hI0 (p := 233) (j := 5) (hv391)
            have x400 := HI.eqA hI0 (p := 233) (j := 6) (hv393)
            have x401 := HI.eqA hI0 (p := 233) (j := 1) (hv395)
            have x402 := HI.eqA hI0 (p := 233) (j := 0) (hv350)
            exact ⟨_, rfl, hI380, hF384, _, rfl, by omega, ⟨⟨⟨by omega, by omega, by omega, by omega, by omega⟩, by omega, by omega, by omega⟩, (by intro i i0 i1; refine Eq.trans ?_ (if_neg (show ¬ ((((a2.toInt = 0 ∧ -1 ≤ a3.toInt ∧ a3.toInt ≤ 11) ∨ (a2.toInt = 1 ∧ 1 ≤ a3.toInt ∧ a3.toInt ≤ 9) ∨ (a2.toInt = 2 ∧ 0 ≤ a3.toInt ∧ a3.toInt ≤ 99)) ∧ 0 ≤ a1.toInt ∧ a1.toInt < (eA g0 233 0).toInt) ∧ i = 10 + 3 * a1.toInt + a2.toInt) from by omega)).symm; refine (eA_ti (((hF381.2.1 233 (by decide)).trans (gA_sI)))).trans ?_; (first | rfl | exact eA_ix (by omega) | omega))⟩⟩
          · have c378_ : v349.toInt ≤ v352.toInt := en_j_gt_f c378
            refine At.enter rfl ?_
            refine r_iconst 1 rfl ?_
            refine r_goto ?_
            refine At.enter rfl ?_
            refine q_iretz (by decide) ?_
            refine At.enter rfl ?_
            refine q_iretz (by decide) ?_
            refine At.enter rfl ?_
            refine r_iff 27 rfl (by decide) ?_
            refine At.enter rfl ?_
            refine r_aload_n rfl ?_
            refine r_bipush 10 rfl ?_
            refine r_iconst 3 rfl ?_
            refine r_iload_n rfl ?_
            refine q_imul (3 * a1.toInt) rfl (by omega) (fun v403 hv403 => ?_)
            refine q_iadd (10 + v403.toInt) rfl (by omega) (fun v404 hv404 => ?_)
            refine r_iload_n rfl ?_
            refine q_iadd (v404.toInt + a2.toInt) rfl (by omega) (fun v405 hv405 => ?_)
            refine r_iload_n rfl ?_
            refine q_inlV 40 rfl [.ref 231, .int v405, .int a3] [] (Nat.le_of_ble_eq_true rfl) rfl ?_
            refine Ev.mk rfl rfl ⟨Nat.le_of_ble_eq_true rfl, Or.inr (q_rc hI293.1 kx_231 rfl)⟩ ?_
            show At _ none _ _ (0, [(0, .ref 231), (1, .int v405), (2, .int a3)], [], (_, _)) _
            refine At.enter rfl ?_
            refine r_aload_n rfl ?_
            refine q_getR (Sh.ref hI293.1 kx_231 rfl) ?_
            refine r_iload_n rfl ?_
            obtain ⟨v406, hv406⟩ : ∃ v, eA g0 233 (3 * a1.toInt + a2.toInt + 10) = v := ⟨_, rfl⟩
            have wv406 := HI.s0 hI0 (j := (3 * a1.toInt + a2.toInt + 10)) (a1.toInt) (by omega) (by omega)
            rw [hv406] at wv406
            refine q_iald (Sh.arr hI293.1 ka_233) (3 * a1.toInt + a2.toInt + 10) (by omega) (by omega) v406 ((eA_c (gA_sI)).trans hv406) ?_
            refine r_istore_n ([(3, .int v406), (0, .ref 231), (1, .int v405), (2, .int a3)]) rfl ?_
            refine r_aload_n rfl ?_
            refine q_getR (Sh.ref hI293.1 kx_231 rfl) ?_
            refine r_iload_n rfl ?_
            refine r_iload_n rfl ?_
            refine q_iast (Sh.arr hI293.1 ka_233) ((3 * a1.toInt + a2.toInt + 10)) (by omega) (by omega) ?_
            have hI407 := HI.ws hI293 (j := (3 * a1.toInt + a2.toInt + 10)) (v := a3) (a1.toInt) 0 (by omega) (by decide) (by omega) (by omega)
            have hF408 := Fr.wA (p := 233) (j := (3 * a1.toInt + a2.toInt + 10)) (v := a3) hF294 rfl
            refine r_aload_n rfl ?_
            refine r_iload_n rfl ?_
            refine q_inlV 19 rfl [.ref 231, .int v406] [] (Nat.le_of_ble_eq_true rfl) rfl ?_
            refine Ev.mk rfl rfl ⟨Nat.le_of_ble_eq_true rfl, Or.inr (q_rc hI407.1 kx_231 rfl)⟩ ?_
            show At _ none _ _ (0, [(0, .ref 231), (1, .int v406)], [], (_, _)) _
            refine At.enter rfl ?_
            refine r_aload_n rfl ?_
            refine r_iconst 0 rfl ?_
            refine q_putI (Sh.int hI407.1 kx_231 rfl) rfl ?_
            have hI409 := HI.wI0 hI407 kx_231 rfl (p := 231) (b := 1) (v := 0) rfl
            have hF410 := Fr.wI (p := 231) (b := 1) (v := 0) hF408 rfl
            refine r_iload_n rfl ?_
            refine q_ireti ?_
            refine At.enter rfl ?_
            refine q_ireti ?_
            refine At.enter rfl ?_
            refine r_goto ?_
            refine At.enter rfl ?_
            refine r_ireti ?_
            have x411 := HI.eqA hI0 (p := 233) (j := 0) (hv350)
            have y412 := congrArg Int32.toInt hv350
            have y413 := (eA_ix (g := g0) (p := 233) (show 10 + 3 * a1.toInt + a2.toInt = (3 * a1.toInt + a2.toInt + 10) from by omega)).trans (congrArg Int32.toInt hv406)
            have x414 := HI.eqA hI409 (p := 233) (j := 0) ((((eA_c gA_sI).trans ((eA_sA_ne hI293.1 ka_233 (by first | decide | omega) (by first | decide | omega) (by first | decide | omega)).trans (eA_c gA_sI))).trans hv350))
            obtain ⟨v415, hv415⟩ : ∃ v, eA g0 233 4 = v := ⟨_, rfl⟩
            have wv415 := HI.t4 hI0
            rw [hv415] at wv415
            have tv415 := congrArg Int32.toInt hv415
            have x416 := HI.eqA hI409 (p := 233) (j := 4) ((((eA_c gA_sI).trans ((eA_sA_ne hI293.1 ka_233 (by first | decide | omega) (by first | decide | omega) (by first | decide | omega)).trans (eA_c gA_sI))).trans hv415))
            obtain ⟨v417, hv417⟩ : ∃ v, eA g0 233 5 = v := ⟨_, rfl⟩
            have wv417 := HI.t5 hI0
            rw [hv417] at wv417
            have tv417 := congrArg Int32.toInt hv417
            have x418 := HI.eqA hI409 (p := 233) (j := 5) ((((eA_c gA_sI).trans ((eA_sA_ne hI293.1 ka_233 (by first | decide | omega) (by first | decide | omega) (by first | decide | omega)).trans (eA_c gA_sI))).trans hv417))
            obtain ⟨v419, hv419⟩ : ∃ v, eA g0 233 6 = v := ⟨_, rfl⟩
            have wv419 := HI.t6 hI0
            rw [hv419] at wv419
            have tv419 := congrArg Int32.toInt hv419
            have x420 := HI.eqA hI409 (p := 233) (j := 6) ((((eA_c gA_sI).trans ((eA_sA_ne hI293.1 ka_233 (by first | decide | omega) (by first | decide | omega) (by first | decide | omega)).trans (eA_c gA_sI))).trans hv419))
            obtain ⟨v421, hv421⟩ : ∃ v, eA g0 233 1 = v := ⟨_, rfl⟩
            have tv421 := congrArg Int32.toInt hv421
            have wv421 := HI.t1 hI0
            rw [hv421] at wv421
            have tv421 := congrArg Int32.toInt hv421
            have x422 := HI.eqA hI409 (p := 233) (j := 1) ((((eA_c gA_sI).trans ((eA_sA_ne hI293.1 ka_233 (by first | decide | omega) (by first | decide | omega) (by first | decide | omega)).trans (eA_c gA_sI))).trans hv421))
            have x423 := HI.eqA hI0 (p := 233) (j := 0) (hv350)
            have x424 := HI.eqA hI0 (p := 233) (j := 4) (hv415)
            have x425 := HI.eqA hI0 (p := 233) (j := 5) (hv417)
            have x426 := HI.eqA hI0 (p := 233) (j := 6) (hv419)
            have x427 := HI.eqA hI0 (p := 233) (j := 1) (hv421)
            have x428 := HI.eqA hI0 (p := 233) (j := 0) (hv350)
            exact ⟨_, rfl, hI409, hF410, _, rfl, by omega, ⟨⟨⟨by omega, by omega, by omega, by omega, by omega⟩, by omega, by omega, by omega⟩, (by intro i i0 i1; exact (Decidable.em ((((a2.toInt = 0 ∧ -1 ≤ a3.toInt ∧ a3.toInt ≤ 11) ∨ (a2.toInt = 1 ∧ 1 ≤ a3.toInt ∧ a3.toInt ≤ 9) ∨ (a2.toInt = 2 ∧ 0 ≤ a3.toInt ∧ a3.toInt ≤ 99)) ∧ 0 ≤ a1.toInt ∧ a1.toInt < (eA g0 233 0).toInt) ∧ i = 10 + 3 * a1.toInt + a2.toInt)).elim (fun k188_ => by refine Eq.trans ?_ (if_pos k188_).symm; refine (eA_ti ((gA_sI))).trans ?_; exact (Decidable.em (i = (3 * a1.toInt + a2.toInt + 10))).elim (fun k189_ => by refine (eA_eqT hI293.1 ka_233 k189_ (by first | decide | omega) (by first | decide | omega)).trans ?_; (first | (rfl) | (omega))) (fun k189_ => by refine (eA_neT hI293.1 ka_233 k189_ (by first | decide | omega) (by omega)).trans ?_; refine (eA_ti ((gA_sI))).trans ?_; (first | rfl | exact eA_ix (by omega) | omega))) (fun k188_ => by refine Eq.trans ?_ (if_neg k188_).symm; refine (eA_ti ((gA_sI))).trans ?_; exact (Decidable.em (i = (3 * a1.toInt + a2.toInt + 10))).elim (fun k190_ => by refine (eA_eqT hI293.1 ka_233 k190_ (by first | decide | omega) (by first | decide | omega)).trans ?_; (first | (rfl) | (omega))) (fun k190_ => by refine (eA_neT hI293.1 ka_233 k190_ (by first | decide | omega) (by omega)).trans ?_; refine (eA_ti ((gA_sI))).trans ?_; (first | rfl | exact eA_ix (by omega) | omega))))⟩⟩
  by_cases c295_1 : a2.toInt = 1
  · refine r_tsw 40 (by rw [c295_1]; rfl) ?_
    refine At.enter rfl ?_
    refine r_iload_n rfl ?_
    refine q_i2l (fun v429 hv429 => ?_)
    refine r_lconst 1 rfl ?_
    refine r_ldc2 9 rfl ?_
    refine q_inlS 49 rfl [.long v429, .long 1, .long 9] [] (Nat.le_of_ble_eq_true rfl) rfl ?_
    refine Ev.mk rfl rfl ⟨Nat.le_of_ble_eq_true rfl, Or.inl rfl⟩ ?_
    show At _ none _ _ (0, [(0, .long v429), (2, .long 1), (4, .long 9)], [], (_, _)) _
    refine At.enter rfl ?_
    refine r_lload_n rfl ?_
    refine r_lload_n rfl ?_
    refine r_lcmp _ rfl ?_
    refine r_ifs 6 rfl (fun c430 => ?_) (fun c430 => ?_)
    · have c430_ : v429.toInt < 1 := en_j_lt_t c430
      refine At.enter rfl ?_
      refine r_iconst 0 rfl ?_
      refine Ar.fall 18 rfl ?_
      refine At.enter rfl ?_
      refine q_iretz (by decide) ?_
      refine At.enter rfl ?_
      refine q_iretz (by decide) ?_
      refine At.enter rfl ?_
      refine r_iff 13 rfl (by decide) ?_
      refine At.enter rfl ?_
      refine r_aload_n rfl ?_
      refine r_iconst (-1) rfl ?_
      refine r_callV 18 rfl [.ref 231, .int (-1)] [] (Nat.le_of_ble_eq_true rfl) rfl (T_X11_tell_231 _ hI293 (-1) (by decide)) ?_
      rintro _ _ ⟨g431, rfl, hI432, hF433, v434, rfl, hr435⟩
      refine At.sti ?_
      have hF436 := Fr.tr hF294 hF433 rfl rfl
      have zv437 : ((-1) : Int32).toInt = (-1) := rfl
      refine At.enter rfl ?_
      refine r_ireti ?_
      obtain ⟨v438, hv438⟩ : ∃ v, eA g0 233 0 = v := ⟨_, rfl⟩
      have tv438 := congrArg Int32.toInt hv438
      have wv438 := HI.t0 hI0
      rw [hv438] at wv438
      have tv438 := congrArg Int32.toInt hv438
      have x439 := HI.eqA hI0 (p := 233) (j := 0) (hv438)
      have y440 := congrArg Int32.toInt hv438
      have x441 := HI.eqA hI432 (p := 233) (j := 0) ((((eA_c (hF433.2.1 233 (by decide))).trans (eA_c gA_sI)).trans hv438))
      obtain ⟨v442, hv442⟩ : ∃ v, eA g0 233 4 = v := ⟨_, rfl⟩
      have wv442 := HI.t4 hI0
      rw [hv442] at wv442
      have tv442 := congrArg Int32.toInt hv442
      have x443 := HI.eqA hI432 (p := 233) (j := 4) ((((eA_c (hF433.2.1 233 (by decide))).trans (eA_c gA_sI)).trans hv442))
      obtain ⟨v444, hv444⟩ : ∃ v, eA g0 233 5 = v := ⟨_, rfl⟩
      have wv444 := HI.t5 hI0
      rw [hv444] at wv444
      have tv444 := congrArg Int32.toInt hv444
      have x445 := HI.eqA hI432 (p := 233) (j := 5) ((((eA_c (hF433.2.1 233 (by decide))).trans (eA_c gA_sI)).trans hv444))
      obtain ⟨v446, hv446⟩ : ∃ v, eA g0 233 6 = v := ⟨_, rfl⟩
      have wv446 := HI.t6 hI0
      rw [hv446] at wv446
      have tv446 := congrArg Int32.toInt hv446
      have x447 := HI.eqA hI432 (p := 233) (j := 6) ((((eA_c (hF433.2.1 233 (by decide))).trans (eA_c gA_sI)).trans hv446))
      obtain ⟨v448, hv448⟩ : ∃ v, eA g0 233 1 = v := ⟨_, rfl⟩
      have tv448 := congrArg Int32.toInt hv448
      have wv448 := HI.t1 hI0
      rw [hv448] at wv448
      have tv448 := congrArg Int32.toInt hv448
      have x449 := HI.eqA hI432 (p := 233) (j := 1) ((((eA_c (hF433.2.1 233 (by decide))).trans (eA_c gA_sI)).trans hv448))
      have x450 := HI.eqA hI0 (p := 233) (j := 0) (hv438)
      have x451 := HI.eqA hI0 (p := 233) (j := 4) (hv442)
      have x452 := HI.eqA hI0 (p := 233) (j := 5) (hv444)
      have x453 := HI.eqA hI0 (p := 233) (j := 6) (hv446)
      have x454 := HI.eqA hI0 (p := 233) (j := 1) (hv448)
      have x455 := HI.eqA hI0 (p := 233) (j := 0) (hv438)
      exact ⟨_, rfl, hI432, hF436, _, rfl, by omega, ⟨⟨⟨by omega, by omega, by omega, by omega, by omega⟩, by omega, by omega, by omega⟩, (by intro i i0 i1; refine Eq.trans ?_ (if_neg (show ¬ ((((a2.toInt = 0 ∧ -1 ≤ a3.toInt ∧ a3.toInt ≤ 11) ∨ (a2.toInt = 1 ∧ 1 ≤ a3.toInt ∧ a3.toInt ≤ 9) ∨ (a2.toInt = 2 ∧ 0 ≤ a3.toInt ∧ a3.toInt ≤ 99)) ∧ 0 ≤ a1.toInt ∧ a1.toInt < (eA g0 233 0).toInt) ∧ i = 10 + 3 * a1.toInt + a2.toInt) from by omega)).symm; refine (eA_ti (((hF433.2.1 233 (by decide)).trans (gA_sI)))).trans ?_; (first | rfl | exact eA_ix (by omega) | omega))⟩⟩
    · have c430_ : v429.toInt ≥ 1 := en_j_lt_f c430
      refine At.enter rfl ?_
      refine r_lload_n rfl ?_
      refine r_lload rfl ?_
      refine r_lcmp _ rfl ?_
      refine r_ifs 13 rfl (fun c456 => ?_) (fun c456 => ?_)
      · have c456_ : v429.toInt > 9 := en_j_gt_t c456
        refine At.enter rfl ?_
        refine r_iconst 0 rfl ?_
        refine Ar.fall 18 rfl ?_
        refine At.enter rfl ?_
        refine q_iretz (by decide) ?_
        refine At.enter rfl ?_
        refine q_iretz (by decide) ?_
        refine At.enter rfl ?_
        refine r_iff 13 rfl (by decide) ?_
        refine At.enter rfl ?_
        refine r_aload_n rfl ?_
        refine r_iconst (-1) rfl ?_
        refine r_callV 18 rfl [.ref 231, .int (-1)] [] (Nat.le_of_ble_eq_true rfl) rfl (T_X11_tell_231 _ hI293 (-1) (by decide)) ?_
        rintro _ _ ⟨g457, rfl, hI458, hF459, v460, rfl, hr461⟩
        refine At.sti ?_
        have hF462 := Fr.tr hF294 hF459 rfl rfl
        have zv463 : ((-1) : Int32).toInt = (-1) := rfl
        refine At.enter rfl ?_
        refine r_ireti ?_
        obtain ⟨v464, hv464⟩ : ∃ v, eA g0 233 0 = v := ⟨_, rfl⟩
        have tv464 := congrArg Int32.toInt hv464
        have wv464 := HI.t0 hI0
        rw [hv464] at wv464
        have tv464 := congrArg Int32.toInt hv464
        have x465 := HI.eqA hI0 (p := 233) (j := 0) (hv464)
        have y466 := congrArg Int32.toInt hv464
        have x467 := HI.eqA hI458 (p := 233) (j := 0) ((((eA_c (hF459.2.1 233 (by decide))).trans (eA_c gA_sI)).trans hv464))
        obtain ⟨v468, hv468⟩ : ∃ v, eA g0 233 4 = v := ⟨_, rfl⟩
        have wv468 := HI.t4 hI0
        rw [hv468] at wv468
        have tv468 := congrArg Int32.toInt hv468
        have x469 := HI.eqA hI458 (p := 233) (j := 4) ((((eA_c (hF459.2.1 233 (by decide))).trans (eA_c gA_sI)).trans hv468))
        obtain ⟨v470, hv470⟩ : ∃ v, eA g0 233 5 = v := ⟨_, rfl⟩
        have wv470 := HI.t5 hI0
        rw [hv470] at wv470
        have tv470 := congrArg Int32.toInt hv470
        have x471 := HI.eqA hI458 (p := 233) (j := 5) ((((eA_c (hF459.2.1 233 (by decide))).trans (eA_c gA_sI)).trans hv470))
        obtain ⟨v472, hv472⟩ : ∃ v, eA g0 233 6 = v := ⟨_, rfl⟩
        have wv472 := HI.t6 hI0
        rw [hv472] at wv472
        have tv472 := congrArg Int32.toInt hv472
        have x473 := HI.eqA hI458 (p := 233) (j := 6) ((((eA_c (hF459.2.1 233 (by decide))).trans (eA_c gA_sI)).trans hv472))
        obtain ⟨v474, hv474⟩ : ∃ v, eA g0 233 1 = v := ⟨_, rfl⟩
        have tv474 := congrArg Int32.toInt hv474
        have wv474 := HI.t1 hI0
        rw [hv474] at wv474
        have tv474 := congrArg Int32.toInt hv474
        have x475 := HI.eqA hI458 (p := 233) (j := 1) ((((eA_c (hF459.2.1 233 (by decide))).trans (eA_c gA_sI)).trans hv474))
        have x476 := HI.eqA hI0 (p := 233) (j := 0) (hv464)
        have x477 := HI.eqA hI0 (p := 233) (j := 4) (hv468)
        have x478 := HI.eqA hI0 (p := 233) (j := 5) (hv470)
        have x479 := HI.eqA hI0 (p := 233) (j := 6) (hv472)
        have x480 := HI.eqA hI0 (p := 233) (j := 1) (hv474)
        have x481 := HI.eqA hI0 (p := 233) (j := 0) (hv464)
        exact ⟨_, rfl, hI458, hF462, _, rfl, by omega, ⟨⟨⟨by omega, by omega, by omega, by omega, by omega⟩, by omega, by omega, by omega⟩, (by intro i i0 i1; refine Eq.trans ?_ (if_neg (show ¬ ((((a2.toInt = 0 ∧ -1 ≤ a3.toInt ∧ a3.toInt ≤ 11) ∨ (a2.toInt = 1 ∧ 1 ≤ a3.toInt ∧ a3.toInt ≤ 9) ∨ (a2.toInt = 2 ∧ 0 ≤ a3.toInt ∧ a3.toInt ≤ 99)) ∧ 0 ≤ a1.toInt ∧ a1.toInt < (eA g0 233 0).toInt) ∧ i = 10 + 3 * a1.toInt + a2.toInt) from by omega)).symm; refine (eA_ti (((hF459.2.1 233 (by decide)).trans (gA_sI)))).trans ?_; (first | rfl | exact eA_ix (by omega) | omega))⟩⟩
      · have c456_ : v429.toInt ≤ 9 := en_j_gt_f c456
        refine At.enter rfl ?_
        refine r_iconst 1 rfl ?_
        refine r_goto ?_
        refine At.enter rfl ?_
        refine q_iretz (by decide) ?_
        refine At.enter rfl ?_
        refine q_iretz (by decide) ?_
        refine At.enter rfl ?_
        refine r_ift (by decide) ?_
        refine At.enter rfl ?_
        refine r_aload_n rfl ?_
        refine r_iload_n rfl ?_
        refine q_inlV 24 rfl [.ref 231, .int a1] [] (Nat.le_of_ble_eq_true rfl) rfl ?_
        refine Ev.mk rfl rfl ⟨Nat.le_of_ble_eq_true rfl, Or.inr (q_rc hI293.1 kx_231 rfl)⟩ ?_
        show At _ none _ _ (0, [(0, .ref 231), (1, .int a1)], [], (_, _)) _
        refine At.enter rfl ?_
        refine r_iload_n rfl ?_
        refine q_i2l (fun v482 hv482 => ?_)
        refine r_lconst 0 rfl ?_
        refine r_aload_n rfl ?_
        refine q_getR (Sh.ref hI293.1 kx_231 rfl) ?_
        refine r_iconst 0 rfl ?_
        obtain ⟨v483, hv483⟩ : ∃ v, eA g0 233 0 = v := ⟨_, rfl⟩
        have tv483 := congrArg Int32.toInt hv483
        have wv483 := HI.t0 hI0
        rw [hv483] at wv483
        refine q_iald (Sh.arr hI293.1 ka_233) 0 rfl (by decide) v483 ((eA_c (gA_sI)).trans hv483) ?_
        refine q_i2l (fun v484 hv484 => ?_)
        refine r_lconst 1 rfl ?_
        refine q_lsub (v484.toInt - 1) rfl (by omega) (fun v485 hv485 => ?_)
        refine q_inlS 15 rfl [.long v482, .long 0, .long v485] [] (Nat.le_of_ble_eq_true rfl) rfl ?_
        refine Ev.mk rfl rfl ⟨Nat.le_of_ble_eq_true rfl, Or.inl rfl⟩ ?_
        show At _ none _ _ (0, [(0, .long v482), (2, .long 0), (4, .long v485)], [], (_, _)) _
        refine At.enter rfl ?_
        refine r_lload_n rfl ?_
        refine r_lload_n rfl ?_
        refine r_lcmp _ rfl ?_
        refine r_ifs 6 rfl (fun c486 => ?_) (fun c486 => ?_)
        · have c486_ : v482.toInt < 0 := en_j_lt_t c486
          refine At.enter rfl ?_
          refine r_iconst 0 rfl ?_
          refine Ar.fall 18 rfl ?_
          refine At.enter rfl ?_
          refine q_iretz (by decide) ?_
          refine At.enter rfl ?_
          refine q_iretz (by decide) ?_
          refine At.enter rfl ?_
          refine r_ift (by decide) ?_
          refine At.enter rfl ?_
          refine r_aload_n rfl ?_
          refine r_bipush (-2) rfl ?_
          refine r_callV 49 rfl [.ref 231, .int (-2)] [] (Nat.le_of_ble_eq_true rfl) rfl (T_X11_tell_231 _ hI293 (-2) (by decide)) ?_
          rintro _ _ ⟨g487, rfl, hI488, hF489, v490, rfl, hr491⟩
          refine At.sti ?_
          have hF492 := Fr.tr hF294 hF489 rfl rfl
          have zv493 : ((-2) : Int32).toInt = (-2) := rfl
          refine At.enter rfl ?_
          refine r_ireti ?_
          have x494 := HI.eqA hI0 (p := 233) (j := 0) (hv483)
          have y495 := congrArg Int32.toInt hv483
          have x496 := HI.eqA hI488 (p := 233) (j := 0) ((((eA_c (hF489.2.1 233 (by decide))).trans (eA_c gA_sI)).trans hv483))
          obtain ⟨v497, hv497⟩ : ∃ v, eA g0 233 4 = v := ⟨_, rfl⟩
          have wv497 := HI.t4 hI0
          rw [hv497] at wv497
          have tv497 := congrArg Int32.toInt hv497
          have x498 := HI.eqA hI488 (p := 233) (j := 4) ((((eA_c (hF489.2.1 233 (by decide))).trans (eA_c gA_sI)).trans hv497))
          obtain ⟨v499, hv499⟩ : ∃ v, eA g0 233 5 = v := ⟨_, rfl⟩
          have wv499 := HI.t5 hI0
          rw [hv499] at wv499
          have tv499 := congrArg Int32.toInt hv499
          have x500 := HI.eqA hI488 (p := 233) (j := 5) ((((eA_c (hF489.2.1 233 (by decide))).trans (eA_c gA_sI)).trans hv499))
          obtain ⟨v501, hv501⟩ : ∃ v, eA g0 233 6 = v := ⟨_, rfl⟩
          have wv501 := HI.t6 hI0
          rw [hv501] at wv501
          have tv501 := congrArg Int32.toInt hv501
          have x502 := HI.eqA hI488 (p := 233) (j := 6) ((((eA_c (hF489.2.1 233 (by decide))).trans (eA_c gA_sI)).trans hv501))
          obtain ⟨v503, hv503⟩ : ∃ v, eA g0 233 1 = v := ⟨_, rfl⟩
          have tv503 := congrArg Int32.toInt hv503
          have wv503 := HI.t1 hI0
          rw [hv503] at wv503
          have tv503 := congrArg Int32.toInt hv503
          have x504 := HI.eqA hI488 (p := 233) (j := 1) ((((eA_c (hF489.2.1 233 (by decide))).trans (eA_c gA_sI)).trans hv503))
          have x505 := HI.eqA hI0 (p := 233) (j := 0) (hv483)
          have x506 := HI.eqA hI0 (p := 233) (j := 4) (hv497)
          have x507 := HI.eqA hI0 (p := 233) (j := 5) (hv499)
          have x508 := HI.eqA hI0 (p := 233) (j := 6) (hv501)
          have x509 := HI.eqA hI0 (p := 233) (j := 1) (hv503)
          have x510 := HI.eqA hI0 (p := 233) (j := 0) (hv483)
          exact ⟨_, rfl, hI488, hF492, _, rfl, by omega, ⟨⟨⟨by omega, by omega, by omega, by omega, by omega⟩, by omega, by omega, by omega⟩, (by intro i i0 i1; refine Eq.trans ?_ (if_neg (show ¬ ((((a2.toInt = 0 ∧ -1 ≤ a3.toInt ∧ a3.toInt ≤ 11) ∨ (a2.toInt = 1 ∧ 1 ≤ a3.toInt ∧ a3.toInt ≤ 9) ∨ (a2.toInt = 2 ∧ 0 ≤ a3.toInt ∧ a3.toInt ≤ 99)) ∧ 0 ≤ a1.toInt ∧ a1.toInt < (eA g0 233 0).toInt) ∧ i = 10 + 3 * a1.toInt + a2.toInt) from by omega)).symm; refine (eA_ti (((hF489.2.1 233 (by decide)).trans (gA_sI)))).trans ?_; (first | rfl | exact eA_ix (by omega) | omega))⟩⟩
        · have c486_ : v482.toInt ≥ 0 := en_j_lt_f c486
          refine At.enter rfl ?_
          refine r_lload_n rfl ?_
          refine r_lload rfl ?_
          refine r_lcmp _ rfl ?_
          refine r_ifs 13 rfl (fun c511 => ?_) (fun c511 => ?_)
          · have c511_ : v482.toInt > v485.toInt := en_j_gt_t c511
            refine At.enter rfl ?_
            refine r_iconst 0 rfl ?_
            refine Ar.fall 18 rfl ?_
            refine At.enter rfl ?_
            refine q_iretz (by decide) ?_
            refine At.enter rfl ?_
            refine q_iretz (by decide) ?_
            refine At.enter rfl ?_
            refine r_ift (by decide) ?_
            refine At.enter rfl ?_
            refine r_aload_n rfl ?_
            refine r_bipush (-2) rfl ?_
            refine r_callV 49 rfl [.ref 231, .int (-2)] [] (Nat.le_of_ble_eq_true rfl) rfl (T_X11_tell_231 _ hI293 (-2) (by decide)) ?_
            rintro _ _ ⟨g512, rfl, hI513, hF514, v515, rfl, hr516⟩
            refine At.sti ?_
            have hF517 := Fr.tr hF294 hF514 rfl rfl
            have zv518 : ((-2) : Int32).toInt = (-2) := rfl
            refine At.enter rfl ?_
            refine r_ireti ?_
            have x519 := HI.eqA hI0 (p := 233) (j := 0) (hv483)
            have y520 := congrArg Int32.toInt hv483
            have x521 := HI.eqA hI513 (p := 233) (j := 0) ((((eA_c (hF514.2.1 233 (by decide))).trans (eA_c gA_sI)).trans hv483))
            obtain ⟨v522, hv522⟩ : ∃ v, eA g0 233 4 = v := ⟨_, rfl⟩
            have wv522 := HI.t4 hI0
            rw [hv522] at wv522
            have tv522 := congrArg Int32.toInt hv522
            have x523 := HI.eqA hI513 (p := 233) (j := 4) ((((eA_c (hF514.2.1 233 (by decide))).trans (eA_c gA_sI)).trans hv522))
            obtain ⟨v524, hv524⟩ : ∃ v, eA g0 233 5 = v := ⟨_, rfl⟩
            have wv524 := HI.t5 hI0
            rw [hv524] at wv524
            have tv524 := congrArg Int32.toInt hv524
            have x525 := HI.eqA hI513 (p := 233) (j := 5) ((((eA_c (hF514.2.1 233 (by decide))).trans (eA_c gA_sI)).trans hv524))
            obtain ⟨v526, hv526⟩ : ∃ v, eA g0 233 6 = v := ⟨_, rfl⟩
            have wv526 := HI.t6 hI0
            rw [hv526] at wv526
            have tv526 := congrArg Int32.toInt hv526
            have x527 := HI.eqA hI513 (p := 233) (j := 6) ((((eA_c (hF514.2.1 233 (by decide))).trans (eA_c gA_sI)).trans hv526))
            obtain ⟨v528, hv528⟩ : ∃ v, eA g0 233 1 = v := ⟨_, rfl⟩
            have tv528 := congrArg Int32.toInt hv528
            have wv528 := HI.t1 hI0
            rw [hv528] at wv528
            have tv528 := congrArg Int32.toInt hv528
            have x529 := HI.eqA hI513 (p := 233) (j := 1) ((((eA_c (hF514.2.1 233 (by decide))).trans (eA_c gA_sI)).trans hv528))
            have x530 := HI.eqA hI0 (p := 233) (j := 0) (hv483)
            have x531 := HI.eqA hI0 (p := 233) (j := 4) (hv522)
            have x532 := HI.eqA hI0 (p := 233) (j := 5) (hv524)
            have x533 := HI.eqA hI0 (p := 233) (j := 6) (hv526)
            have x534 := HI.eqA hI0 (p := 233) (j := 1) (hv528)
            have x535 := HI.eqA hI0 (p := 233) (j := 0) (hv483)
            exact ⟨_, rfl, hI513, hF517, _, rfl, by omega, ⟨⟨⟨by omega, by omega, by omega, by omega, by omega⟩, by omega, by omega, by omega⟩, (by intro i i0 i1; refine Eq.trans ?_ (if_neg (show ¬ ((((a2.toInt = 0 ∧ -1 ≤ a3.toInt ∧ a3.toInt ≤ 11) ∨ (a2.toInt = 1 ∧ 1 ≤ a3.toInt ∧ a3.toInt ≤ 9) ∨ (a2.toInt = 2 ∧ 0 ≤ a3.toInt ∧ a3.toInt ≤ 99)) ∧ 0 ≤ a1.toInt ∧ a1.toInt < (eA g0 233 0).toInt) ∧ i = 10 + 3 * a1.toInt + a2.toInt) from by omega)).symm; refine (eA_ti (((hF514.2.1 233 (by decide)).trans (gA_sI)))).trans ?_; (first | rfl | exact eA_ix (by omega) | omega))⟩⟩
          · have c511_ : v482.toInt ≤ v485.toInt := en_j_gt_f c511
            refine At.enter rfl ?_
            refine r_iconst 1 rfl ?_
            refine r_goto ?_
            refine At.enter rfl ?_
            refine q_iretz (by decide) ?_
            refine At.enter rfl ?_
            refine q_iretz (by decide) ?_
            refine At.enter rfl ?_
            refine r_iff 27 rfl (by decide) ?_
            refine At.enter rfl ?_
            refine r_aload_n rfl ?_
            refine r_bipush 10 rfl ?_
            refine r_iconst 3 rfl ?_
            refine r_iload_n rfl ?_
            refine q_imul (3 * a1.toInt) rfl (by omega) (fun v536 hv536 => ?_)
            refine q_iadd (10 + v536.toInt) rfl (by omega) (fun v537 hv537 => ?_)
            refine r_iload_n rfl ?_
            refine q_iadd (v537.toInt + a2.toInt) rfl (by omega) (fun v538 hv538 => ?_)
            refine r_iload_n rfl ?_
            refine q_inlV 40 rfl [.ref 231, .int v538, .int a3] [] (Nat.le_of_ble_eq_true rfl) rfl ?_
            refine Ev.mk rfl rfl ⟨Nat.le_of_ble_eq_true rfl, Or.inr (q_rc hI293.1 kx_231 rfl)⟩ ?_
            show At _ none _ _ (0, [(0, .ref 231), (1, .int v538), (2, .int a3)], [], (_, _)) _
            refine At.enter rfl ?_
            refine r_aload_n rfl ?_
            refine q_getR (Sh.ref hI293.1 kx_231 rfl) ?_
            refine r_iload_n rfl ?_
            obtain ⟨v539, hv539⟩ : ∃ v, eA g0 233 (3 * a1.toInt + a2.toInt + 10) = v := ⟨_, rfl⟩
            have wv539 := HI.s1 hI0 (j := (3 * a1.toInt + a2.toInt + 10)) (a1.toInt) (by omega) (by omega)
            rw [hv539] at wv539
            refine q_iald (Sh.arr hI293.1 ka_233) (3 * a1.toInt + a2.toInt + 10) (by omega) (by omega) v539 ((eA_c (gA_sI)).trans hv539) ?_
            refine r_istore_n ([(3, .int v539), (0, .ref 231), (1, .int v538), (2, .int a3)]) rfl ?_
            refine r_aload_n rfl ?_
            refine q_getR (Sh.ref hI293.1 kx_231 rfl) ?_
            refine r_iload_n rfl ?_
            refine r_iload_n rfl ?_
            refine q_iast (Sh.arr hI293.1 ka_233) ((3 * a1.toInt + a2.toInt + 10)) (by omega) (by omega) ?_
            have hI540 := HI.ws hI293 (j := (3 * a1.toInt + a2.toInt + 10)) (v := a3) (a1.toInt) 1 (by omega) (by decide) (by omega) (by omega)
            have hF541 := Fr.wA (p := 233) (j := (3 * a1.toInt + a2.toInt + 10)) (v := a3) hF294 rfl
            refine r_aload_n rfl ?_
            refine r_iload_n rfl ?_
            refine q_inlV 19 rfl [.ref 231, .int v539] [] (Nat.le_of_ble_eq_true rfl) rfl ?_
            refine Ev.mk rfl rfl ⟨Nat.le_of_ble_eq_true rfl, Or.inr (q_rc hI540.1 kx_231 rfl)⟩ ?_
            show At _ none _ _ (0, [(0, .ref 231), (1, .int v539)], [], (_, _)) _
            refine At.enter rfl ?_
            refine r_aload_n rfl ?_
            refine r_iconst 0 rfl ?_
            refine q_putI (Sh.int hI540.1 kx_231 rfl) rfl ?_
            have hI542 := HI.wI0 hI540 kx_231 rfl (p := 231) (b := 1) (v := 0) rfl
            have hF543 := Fr.wI (p := 231) (b := 1) (v := 0) hF541 rfl
            refine r_iload_n rfl ?_
            refine q_ireti ?_
            refine At.enter rfl ?_
            refine q_ireti ?_
            refine At.enter rfl ?_
            refine r_goto ?_
            refine At.enter rfl ?_
            refine r_ireti ?_
            have x544 := HI.eqA hI0 (p := 233) (j := 0) (hv483)
            have y545 := congrArg Int32.toInt hv483
            have y546 := (eA_ix (g := g0) (p := 233) (show 10 + 3 * a1.toInt + a2.toInt = (3 * a1.toInt + a2.toInt + 10) from by omega)).trans (congrArg Int32.toInt hv539)
            have x547 := HI.eqA hI542 (p := 233) (j := 0) ((((eA_c gA_sI).trans ((eA_sA_ne hI293.1 ka_233 (by first | decide | omega) (by first | decide | omega) (by first | decide | omega)).trans (eA_c gA_sI))).trans hv483))
            obtain ⟨v548, hv548⟩ : ∃ v, eA g0 233 4 = v := ⟨_, rfl⟩
            have wv548 := HI.t4 hI0
            rw [hv548] at wv548
            have tv548 := congrArg Int32.toInt hv548
            have x549 := HI.eqA hI542 (p := 233) (j := 4) ((((eA_c gA_sI).trans ((eA_sA_ne hI293.1 ka_233 (by first | decide | omega) (by first | decide | omega) (by first | decide | omega)).trans (eA_c gA_sI))).trans hv548))
            obtain ⟨v550, hv550⟩ : ∃ v, eA g0 233 5 = v := ⟨_, rfl⟩
            have wv550 := HI.t5 hI0
            rw [hv550] at wv550
            have tv550 := congrArg Int32.toInt hv550
            have x551 := HI.eqA hI542 (p := 233) (j := 5) ((((eA_c gA_sI).trans ((eA_sA_ne hI293.1 ka_233 (by first | decide | omega) (by first | decide | omega) (by first | decide | omega)).trans (eA_c gA_sI))).trans hv550))
            obtain ⟨v552, hv552⟩ : ∃ v, eA g0 233 6 = v := ⟨_, rfl⟩
            have wv552 := HI.t6 hI0
            rw [hv552] at wv552
            have tv552 := congrArg Int32.toInt hv552
            have x553 := HI.eqA hI542 (p := 233) (j := 6) ((((eA_c gA_sI).trans ((eA_sA_ne hI293.1 ka_233 (by first | decide | omega) (by first | decide | omega) (by first | decide | omega)).trans (eA_c gA_sI))).trans hv552))
            obtain ⟨v554, hv554⟩ : ∃ v, eA g0 233 1 = v := ⟨_, rfl⟩
            have tv554 := congrArg Int32.toInt hv554
            have wv554 := HI.t1 hI0
            rw [hv554] at wv554
            have tv554 := congrArg Int32.toInt hv554
            have x555 := HI.eqA hI542 (p := 233) (j := 1) ((((eA_c gA_sI).trans ((eA_sA_ne hI293.1 ka_233 (by first | decide | omega) (by first | decide | omega) (by first | decide | omega)).trans (eA_c gA_sI))).trans hv554))
            have x556 := HI.eqA hI0 (p := 233) (j := 0) (hv483)
            have x557 := HI.eqA hI0 (p := 233) (j := 4) (hv548)
            have x558 := HI.eqA hI0 (p := 233) (j := 5) (hv550)
            have x559 := HI.eqA hI0 (p := 233) (j := 6) (hv552)
            have x560 := HI.eqA hI0 (p := 233) (j := 1) (hv554)
            have x561 := HI.eqA hI0 (p := 233) (j := 0) (hv483)
            exact ⟨_, rfl, hI542, hF543, _, rfl, by omega, ⟨⟨⟨by omega, by omega, by omega, by omega, by omega⟩, by omega, by omega, by omega⟩, (by intro i i0 i1; exact (Decidable.em ((((a2.toInt = 0 ∧ -1 ≤ a3.toInt ∧ a3.toInt ≤ 11) ∨ (a2.toInt = 1 ∧ 1 ≤ a3.toInt ∧ a3.toInt ≤ 9) ∨ (a2.toInt = 2 ∧ 0 ≤ a3.toInt ∧ a3.toInt ≤ 99)) ∧ 0 ≤ a1.toInt ∧ a1.toInt < (eA g0 233 0).toInt) ∧ i = 10 + 3 * a1.toInt + a2.toInt)).elim (fun k191_ => by refine Eq.trans ?_ (if_pos k191_).symm; refine (eA_ti ((gA_sI))).trans ?_; exact (Decidable.em (i = (3 * a1.toInt + a2.toInt + 10))).elim (fun k192_ => by refine (eA_eqT hI293.1 ka_233 k192_ (by first | decide | omega) (by first | decide | omega)).trans ?_; (first | (rfl) | (omega))) (fun k192_ => by refine (eA_neT hI293.1 ka_233 k192_ (by first | decide | omega) (by omega)).trans ?_; refine (eA_ti ((gA_sI))).trans ?_; (first | rfl | exact eA_ix (by omega) | omega))) (fun k191_ => by refine Eq.trans ?_ (if_neg k191_).symm; refine (eA_ti ((gA_sI))).trans ?_; exact (Decidable.em (i = (3 * a1.toInt + a2.toInt + 10))).elim (fun k193_ => by refine (eA_eqT hI293.1 ka_233 k193_ (by first | decide | omega) (by first | decide | omega)).trans ?_; (first | (rfl) | (omega))) (fun k193_ => by refine (eA_neT hI293.1 ka_233 k193_ (by first | decide | omega) (by omega)).trans ?_; refine (eA_ti ((gA_sI))).trans ?_; (first | rfl | exact eA_ix (by omega) | omega))))⟩⟩
  by_cases c295_2 : a2.toInt = 2
  · refine r_tsw 50 (by rw [c295_2]; rfl) ?_
    refine At.enter rfl ?_
    refine r_iload_n rfl ?_
    refine q_i2l (fun v562 hv562 => ?_)
    refine r_lconst 0 rfl ?_
    refine r_ldc2 99 rfl ?_
    refine q_inlS 59 rfl [.long v562, .long 0, .long 99] [] (Nat.le_of_ble_eq_true rfl) rfl ?_
    refine Ev.mk rfl rfl ⟨Nat.le_of_ble_eq_true rfl, Or.inl rfl⟩ ?_
    show At _ none _ _ (0, [(0, .long v562), (2, .long 0), (4, .long 99)], [], (_, _)) _
    refine At.enter rfl ?_
    refine r_lload_n rfl ?_
    refine r_lload_n rfl ?_
    refine r_lcmp _ rfl ?_
    refine r_ifs 6 rfl (fun c563 => ?_) (fun c563 => ?_)
    · have c563_ : v562.toInt < 0 := en_j_lt_t c563
      refine At.enter rfl ?_
      refine r_iconst 0 rfl ?_
      refine Ar.fall 18 rfl ?_
      refine At.enter rfl ?_
      refine q_iretz (by decide) ?_
      refine At.enter rfl ?_
      refine q_iretz (by decide) ?_
      refine At.enter rfl ?_
      refine r_iff 13 rfl (by decide) ?_
      refine At.enter rfl ?_
      refine r_aload_n rfl ?_
      refine r_iconst (-1) rfl ?_
      refine r_callV 18 rfl [.ref 231, .int (-1)] [] (Nat.le_of_ble_eq_true rfl) rfl (T_X11_tell_231 _ hI293 (-1) (by decide)) ?_
      rintro _ _ ⟨g564, rfl, hI565, hF566, v567, rfl, hr568⟩
      refine At.sti ?_
      have hF569 := Fr.tr hF294 hF566 rfl rfl
      have zv570 : ((-1) : Int32).toInt = (-1) := rfl
      refine At.enter rfl ?_
      refine r_ireti ?_
      obtain ⟨v571, hv571⟩ : ∃ v, eA g0 233 0 = v := ⟨_, rfl⟩
      have tv571 := congrArg Int32.toInt hv571
      have wv571 := HI.t0 hI0
      rw [hv571] at wv571
      have tv571 := congrArg Int32.toInt hv571
      have x572 := HI.eqA hI0 (p := 233) (j := 0) (hv571)
      have y573 := congrArg Int32.toInt hv571
      have x574 := HI.eqA hI565 (p := 233) (j := 0) ((((eA_c (hF566.2.1 233 (by decide))).trans (eA_c gA_sI)).trans hv571))
      obtain ⟨v575, hv575⟩ : ∃ v, eA g0 233 4 = v := ⟨_, rfl⟩
      have wv575 := HI.t4 hI0
      rw [hv575] at wv575
      have tv575 := congrArg Int32.toInt hv575
      have x576 := HI.eqA hI565 (p := 233) (j := 4) ((((eA_c (hF566.2.1 233 (by decide))).trans (eA_c gA_sI)).trans hv575))
      obtain ⟨v577, hv577⟩ : ∃ v, eA g0 233 5 = v := ⟨_, rfl⟩
      have wv577 := HI.t5 hI0
      rw [hv577] at wv577
      have tv577 := congrArg Int32.toInt hv577
      have x578 := HI.eqA hI565 (p := 233) (j := 5) ((((eA_c (hF566.2.1 233 (by decide))).trans (eA_c gA_sI)).trans hv577))
      obtain ⟨v579, hv579⟩ : ∃ v, eA g0 233 6 = v := ⟨_, rfl⟩
      have wv579 := HI.t6 hI0
      rw [hv579] at wv579
      have tv579 := congrArg Int32.toInt hv579
      have x580 := HI.eqA hI565 (p := 233) (j := 6) ((((eA_c (hF566.2.1 233 (by decide))).trans (eA_c gA_sI)).trans hv579))
      obtain ⟨v581, hv581⟩ : ∃ v, eA g0 233 1 = v := ⟨_, rfl⟩
      have tv581 := congrArg Int32.toInt hv581
      have wv581 := HI.t1 hI0
      rw [hv581] at wv581
      have tv581 := congrArg Int32.toInt hv581
      have x582 := HI.eqA hI565 (p := 233) (j := 1) ((((eA_c (hF566.2.1 233 (by decide))).trans (eA_c gA_sI)).trans hv581))
      have x583 := HI.eqA hI0 (p := 233) (j := 0) (hv571)
      have x584 := HI.eqA hI0 (p := 233) (j := 4) (hv575)
      have x585 := HI.eqA hI0 (p := 233) (j := 5) (hv577)
      have x586 := HI.eqA hI0 (p := 233) (j := 6) (hv579)
      have x587 := HI.eqA hI0 (p := 233) (j := 1) (hv581)
      have x588 := HI.eqA hI0 (p := 233) (j := 0) (hv571)
      exact ⟨_, rfl, hI565, hF569, _, rfl, by omega, ⟨⟨⟨by omega, by omega, by omega, by omega, by omega⟩, by omega, by omega, by omega⟩, (by intro i i0 i1; refine Eq.trans ?_ (if_neg (show ¬ ((((a2.toInt = 0 ∧ -1 ≤ a3.toInt ∧ a3.toInt ≤ 11) ∨ (a2.toInt = 1 ∧ 1 ≤ a3.toInt ∧ a3.toInt ≤ 9) ∨ (a2.toInt = 2 ∧ 0 ≤ a3.toInt ∧ a3.toInt ≤ 99)) ∧ 0 ≤ a1.toInt ∧ a1.toInt < (eA g0 233 0).toInt) ∧ i = 10 + 3 * a1.toInt + a2.toInt) from by omega)).symm; refine (eA_ti (((hF566.2.1 233 (by decide)).trans (gA_sI)))).trans ?_; (first | rfl | exact eA_ix (by omega) | omega))⟩⟩
    · have c563_ : v562.toInt ≥ 0 := en_j_lt_f c563
      refine At.enter rfl ?_
      refine r_lload_n rfl ?_
      refine r_lload rfl ?_
      refine r_lcmp _ rfl ?_
      refine r_ifs 13 rfl (fun c589 => ?_) (fun c589 => ?_)
      · have c589_ : v562.toInt > 99 := en_j_gt_t c589
        refine At.enter rfl ?_
        refine r_iconst 0 rfl ?_
        refine Ar.fall 18 rfl ?_
        refine At.enter rfl ?_
        refine q_iretz (by decide) ?_
        refine At.enter rfl ?_
        refine q_iretz (by decide) ?_
        refine At.enter rfl ?_
        refine r_iff 13 rfl (by decide) ?_
        refine At.enter rfl ?_
        refine r_aload_n rfl ?_
        refine r_iconst (-1) rfl ?_
        refine r_callV 18 rfl [.ref 231, .int (-1)] [] (Nat.le_of_ble_eq_true rfl) rfl (T_X11_tell_231 _ hI293 (-1) (by decide)) ?_
        rintro _ _ ⟨g590, rfl, hI591, hF592, v593, rfl, hr594⟩
        refine At.sti ?_
        have hF595 := Fr.tr hF294 hF592 rfl rfl
        have zv596 : ((-1) : Int32).toInt = (-1) := rfl
        refine At.enter rfl ?_
        refine r_ireti ?_
        obtain ⟨v597, hv597⟩ : ∃ v, eA g0 233 0 = v := ⟨_, rfl⟩
        have tv597 := congrArg Int32.toInt hv597
        have wv597 := HI.t0 hI0
        rw [hv597] at wv597
        have tv597 := congrArg Int32.toInt hv597
        have x598 := HI.eqA hI0 (p := 233) (j := 0) (hv597)
        have y599 := congrArg Int32.toInt hv597
        have x600 := HI.eqA hI591 (p := 233) (j := 0) ((((eA_c (hF592.2.1 233 (by decide))).trans (eA_c gA_sI)).trans hv597))
        obtain ⟨v601, hv601⟩ : ∃ v, eA g0 233 4 = v := ⟨_, rfl⟩
        have wv601 := HI.t4 hI0
        rw [hv601] at wv601
        have tv601 := congrArg Int32.toInt hv601
        have x602 := HI.eqA hI591 (p := 233) (j := 4) ((((eA_c (hF592.2.1 233 (by decide))).trans (eA_c gA_sI)).trans hv601))
        obtain ⟨v603, hv603⟩ : ∃ v, eA g0 233 5 = v := ⟨_, rfl⟩
        have wv603 := HI.t5 hI0
        rw [hv603] at wv603
        have tv603 := congrArg Int32.toInt hv603
        have x604 := HI.eqA hI591 (p := 233) (j := 5) ((((eA_c (hF592.2.1 233 (by decide))).trans (eA_c gA_sI)).trans hv603))
        obtain ⟨v605, hv605⟩ : ∃ v, eA g0 233 6 = v := ⟨_, rfl⟩
        have wv605 := HI.t6 hI0
        rw [hv605] at wv605
        have tv605 := congrArg Int32.toInt hv605
        have x606 := HI.eqA hI591 (p := 233) (j := 6) ((((eA_c (hF592.2.1 233 (by decide))).trans (eA_c gA_sI)).trans hv605))
        obtain ⟨v607, hv607⟩ : ∃ v, eA g0 233 1 = v := ⟨_, rfl⟩
        have tv607 := congrArg Int32.toInt hv607
        have wv607 := HI.t1 hI0
        rw [hv607] at wv607
        have tv607 := congrArg Int32.toInt hv607
        have x608 := HI.eqA hI591 (p := 233) (j := 1) ((((eA_c (hF592.2.1 233 (by decide))).trans (eA_c gA_sI)).trans hv607))
        have x609 := HI.eqA hI0 (p := 233) (j := 0) (hv597)
        have x610 := HI.eqA hI0 (p := 233) (j := 4) (hv601)
        have x611 := HI.eqA hI0 (p := 233) (j := 5) (hv603)
        have x612 := HI.eqA hI0 (p := 233) (j := 6) (hv605)
        have x613 := HI.eqA hI0 (p := 233) (j := 1) (hv607)
        have x614 := HI.eqA hI0 (p := 233) (j := 0) (hv597)
        exact ⟨_, rfl, hI591, hF595, _, rfl, by omega, ⟨⟨⟨by omega, by omega, by omega, by omega, by omega⟩, by omega, by omega, by omega⟩, (by intro i i0 i1; refine Eq.trans ?_ (if_neg (show ¬ ((((a2.toInt = 0 ∧ -1 ≤ a3.toInt ∧ a3.toInt ≤ 11) ∨ (a2.toInt = 1 ∧ 1 ≤ a3.toInt ∧ a3.toInt ≤ 9) ∨ (a2.toInt = 2 ∧ 0 ≤ a3.toInt ∧ a3.toInt ≤ 99)) ∧ 0 ≤ a1.toInt ∧ a1.toInt < (eA g0 233 0).toInt) ∧ i = 10 + 3 * a1.toInt + a2.toInt) from by omega)).symm; refine (eA_ti (((hF592.2.1 233 (by decide)).trans (gA_sI)))).trans ?_; (first | rfl | exact eA_ix (by omega) | omega))⟩⟩
      · have c589_ : v562.toInt ≤ 99 := en_j_gt_f c589
        refine At.enter rfl ?_
        refine r_iconst 1 rfl ?_
        refine r_goto ?_
        refine At.enter rfl ?_
        refine q_iretz (by decide) ?_
        refine At.enter rfl ?_
        refine q_iretz (by decide) ?_
        refine At.enter rfl ?_
        refine r_ift (by decide) ?_
        refine At.enter rfl ?_
        refine r_aload_n rfl ?_
        refine r_iload_n rfl ?_
        refine q_inlV 24 rfl [.ref 231, .int a1] [] (Nat.le_of_ble_eq_true rfl) rfl ?_
        refine Ev.mk rfl rfl ⟨Nat.le_of_ble_eq_true rfl, Or.inr (q_rc hI293.1 kx_231 rfl)⟩ ?_
        show At _ none _ _ (0, [(0, .ref 231), (1, .int a1)], [], (_, _)) _
        refine At.enter rfl ?_
        refine r_iload_n rfl ?_
        refine q_i2l (fun v615 hv615 => ?_)
        refine r_lconst 0 rfl ?_
        refine r_aload_n rfl ?_
        refine q_getR (Sh.ref hI293.1 kx_231 rfl) ?_
        refine r_iconst 0 rfl ?_
        obtain ⟨v616, hv616⟩ : ∃ v, eA g0 233 0 = v := ⟨_, rfl⟩
        have tv616 := congrArg Int32.toInt hv616
        have wv616 := HI.t0 hI0
        rw [hv616] at wv616
        refine q_iald (Sh.arr hI293.1 ka_233) 0 rfl (by decide) v616 ((eA_c (gA_sI)).trans hv616) ?_
        refine q_i2l (fun v617 hv617 => ?_)
        refine r_lconst 1 rfl ?_
        refine q_lsub (v617.toInt - 1) rfl (by omega) (fun v618 hv618 => ?_)
        refine q_inlS 15 rfl [.long v615, .long 0, .long v618] [] (Nat.le_of_ble_eq_true rfl) rfl ?_
        refine Ev.mk rfl rfl ⟨Nat.le_of_ble_eq_true rfl, Or.inl rfl⟩ ?_
        show At _ none _ _ (0, [(0, .long v615), (2, .long 0), (4, .long v618)], [], (_, _)) _
        refine At.enter rfl ?_
        refine r_lload_n rfl ?_
        refine r_lload_n rfl ?_
        refine r_lcmp _ rfl ?_
        refine r_ifs 6 rfl (fun c619 => ?_) (fun c619 => ?_)
        · have c619_ : v615.toInt < 0 := en_j_lt_t c619
          refine At.enter rfl ?_
          refine r_iconst 0 rfl ?_
          refine Ar.fall 18 rfl ?_
          refine At.enter rfl ?_
          refine q_iretz (by decide) ?_
          refine At.enter rfl ?_
          refine q_iretz (by decide) ?_
          refine At.enter rfl ?_
          refine r_ift (by decide) ?_
          refine At.enter rfl ?_
          refine r_aload_n rfl ?_
          refine r_bipush (-2) rfl ?_
          refine r_callV 49 rfl [.ref 231, .int (-2)] [] (Nat.le_of_ble_eq_true rfl) rfl (T_X11_tell_231 _ hI293 (-2) (by decide)) ?_
          rintro _ _ ⟨g620, rfl, hI621, hF622, v623, rfl, hr624⟩
          refine At.sti ?_
          have hF625 := Fr.tr hF294 hF622 rfl rfl
          have zv626 : ((-2) : Int32).toInt = (-2) := rfl
          refine At.enter rfl ?_
          refine r_ireti ?_
          have x627 := HI.eqA hI0 (p := 233) (j := 0) (hv616)
          have y628 := congrArg Int32.toInt hv616
          have x629 := HI.eqA hI621 (p := 233) (j := 0) ((((eA_c (hF622.2.1 233 (by decide))).trans (eA_c gA_sI)).trans hv616))
          obtain ⟨v630, hv630⟩ : ∃ v, eA g0 233 4 = v := ⟨_, rfl⟩
          have wv630 := HI.t4 hI0
          rw [hv630] at wv630
          have tv630 := congrArg Int32.toInt hv630
          have x631 := HI.eqA hI621 (p := 233) (j := 4) ((((eA_c (hF622.2.1 233 (by decide))).trans (eA_c gA_sI)).trans hv630))
          obtain ⟨v632, hv632⟩ : ∃ v, eA g0 233 5 = v := ⟨_, rfl⟩
          have wv632 := HI.t5 hI0
          rw [hv632] at wv632
          have tv632 := congrArg Int32.toInt hv632
          have x633 := HI.eqA hI621 (p := 233) (j := 5) ((((eA_c (hF622.2.1 233 (by decide))).trans (eA_c gA_sI)).trans hv632))
          obtain ⟨v634, hv634⟩ : ∃ v, eA g0 233 6 = v := ⟨_, rfl⟩
          have wv634 := HI.t6 hI0
          rw [hv634] at wv634
          have tv634 := congrArg Int32.toInt hv634
          have x635 := HI.eqA hI621 (p := 233) (j := 6) ((((eA_c (hF622.2.1 233 (by decide))).trans (eA_c gA_sI)).trans hv634))
          obtain ⟨v636, hv636⟩ : ∃ v, eA g0 233 1 = v := ⟨_, rfl⟩
          have tv636 := congrArg Int32.toInt hv636
          have wv636 := HI.t1 hI0
          rw [hv636] at wv636
          have tv636 := congrArg Int32.toInt hv636
          have x637 := HI.eqA hI621 (p := 233) (j := 1) ((((eA_c (hF622.2.1 233 (by decide))).trans (eA_c gA_sI)).trans hv636))
          have x638 := HI.eqA hI0 (p := 233) (j := 0) (hv616)
          have x639 := HI.eqA hI0 (p := 233) (j := 4) (hv630)
          have x640 := HI.eqA hI0 (p := 233) (j := 5) (hv632)
          have x641 := HI.eqA hI0 (p := 233) (j := 6) (hv634)
          have x642 := HI.eqA hI0 (p := 233) (j := 1) (hv636)
          have x643 := HI.eqA hI0 (p := 233) (j := 0) (hv616)
          exact ⟨_, rfl, hI621, hF625, _, rfl, by omega, ⟨⟨⟨by omega, by omega, by omega, by omega, by omega⟩, by omega, by omega, by omega⟩, (by intro i i0 i1; refine Eq.trans ?_ (if_neg (show ¬ ((((a2.toInt = 0 ∧ -1 ≤ a3.toInt ∧ a3.toInt ≤ 11) ∨ (a2.toInt = 1 ∧ 1 ≤ a3.toInt ∧ a3.toInt ≤ 9) ∨ (a2.toInt = 2 ∧ 0 ≤ a3.toInt ∧ a3.toInt ≤ 99)) ∧ 0 ≤ a1.toInt ∧ a1.toInt < (eA g0 233 0).toInt) ∧ i = 10 + 3 * a1.toInt + a2.toInt) from by omega)).symm; refine (eA_ti (((hF622.2.1 233 (by decide)).trans (gA_sI)))).trans ?_; (first | rfl | exact eA_ix (by omega) | omega))⟩⟩
        · have c619_ : v615.toInt ≥ 0 := en_j_lt_f c619
          refine At.enter rfl ?_
          refine r_lload_n rfl ?_
          refine r_lload rfl ?_
          refine r_lcmp _ rfl ?_
          refine r_ifs 13 rfl (fun c644 => ?_) (fun c644 => ?_)
          · have c644_ : v615.toInt > v618.toInt := en_j_gt_t c644
            refine At.enter rfl ?_
            refine r_iconst 0 rfl ?_
            refine Ar.fall 18 rfl ?_
            refine At.enter rfl ?_
            refine q_iretz (by decide) ?_
            refine At.enter rfl ?_
            refine q_iretz (by decide) ?_
            refine At.enter rfl ?_
            refine r_ift (by decide) ?_
            refine At.enter rfl ?_
            refine r_aload_n rfl ?_
            refine r_bipush (-2) rfl ?_
            refine r_callV 49 rfl [.ref 231, .int (-2)] [] (Nat.le_of_ble_eq_true rfl) rfl (T_X11_tell_231 _ hI293 (-2) (by decide)) ?_
            rintro _ _ ⟨g645, rfl, hI646, hF647, v648, rfl, hr649⟩
            refine At.sti ?_
            have hF650 := Fr.tr hF294 hF647 rfl rfl
            have zv651 : ((-2) : Int32).toInt = (-2) := rfl
            refine At.enter rfl ?_
            refine r_ireti ?_
            have x652 := HI.eqA hI0 (p := 233) (j := 0) (hv616)
            have y653 := congrArg Int32.toInt hv616
            have x654 := HI.eqA hI646 (p := 233) (j := 0) ((((eA_c (hF647.2.1 233 (by decide))).trans (eA_c gA_sI)).trans hv616))
            obtain ⟨v655, hv655⟩ : ∃ v, eA g0 233 4 = v := ⟨_, rfl⟩
            have wv655 := HI.t4 hI0
            rw [hv655] at wv655
            have tv655 := congrArg Int32.toInt hv655
            have x656 := HI.eqA hI646 (p := 233) (j := 4) ((((eA_c (hF647.2.1 233 (by decide))).trans (eA_c gA_sI)).trans hv655))
            obtain ⟨v657, hv657⟩ : ∃ v, eA g0 233 5 = v := ⟨_, rfl⟩
            have wv657 := HI.t5 hI0
            rw [hv657] at wv657
            have tv657 := congrArg Int32.toInt hv657
            have x658 := HI.eqA hI646 (p := 233) (j := 5) ((((eA_c (hF647.2.1 233 (by decide))).trans (eA_c gA_sI)).trans hv657))
            obtain ⟨v659, hv659⟩ : ∃ v, eA g0 233 6 = v := ⟨_, rfl⟩
            have wv659 := HI.t6 hI0
            rw [hv659] at wv659
            have tv659 := congrArg Int32.toInt hv659
            have x660 := HI.eqA hI646 (p := 233) (j := 6) ((((eA_c (hF647.2.1 233 (by decide))).trans (eA_c gA_sI)).trans hv659))
            obtain ⟨v661, hv661⟩ : ∃ v, eA g0 233 1 = v := ⟨_, rfl⟩
            have tv661 := congrArg Int32.toInt hv661
            have wv661 := HI.t1 hI0
            rw [hv661] at wv661
            have tv661 := congrArg Int32.toInt hv661
            have x662 := HI.eqA hI646 (p := 233) (j := 1) ((((eA_c (hF647.2.1 233 (by decide))).trans (eA_c gA_sI)).trans hv661))
            have x663 := HI.eqA hI0 (p := 233) (j := 0) (hv616)
            have x664 := HI.eqA hI0 (p := 233) (j := 4) (hv655)
            have x665 := HI.eqA hI0 (p := 233) (j := 5) (hv657)
            have x666 := HI.eqA hI0 (p := 233) (j := 6) (hv659)
            have x667 := HI.eqA hI0 (p := 233) (j := 1) (hv661)
            have x668 := HI.eqA hI0 (p := 233) (j := 0) (hv616)
            exact ⟨_, rfl, hI646, hF650, _, rfl, by omega, ⟨⟨⟨by omega, by omega, by omega, by omega, by omega⟩, by omega, by omega, by omega⟩, (by intro i i0 i1; refine Eq.trans ?_ (if_neg (show ¬ ((((a2.toInt = 0 ∧ -1 ≤ a3.toInt ∧ a3.toInt ≤ 11) ∨ (a2.toInt = 1 ∧ 1 ≤ a3.toInt ∧ a3.toInt ≤ 9) ∨ (a2.toInt = 2 ∧ 0 ≤ a3.toInt ∧ a3.toInt ≤ 99)) ∧ 0 ≤ a1.toInt ∧ a1.toInt < (eA g0 233 0).toInt) ∧ i = 10 + 3 * a1.toInt + a2.toInt) from by omega)).symm; refine (eA_ti (((hF647.2.1 233 (by decide)).trans (gA_sI)))).trans ?_; (first | rfl | exact eA_ix (by omega) | omega))⟩⟩
          · have c644_ : v615.toInt ≤ v618.toInt := en_j_gt_f c644
            refine At.enter rfl ?_
            refine r_iconst 1 rfl ?_
            refine r_goto ?_
            refine At.enter rfl ?_
            refine q_iretz (by decide) ?_
            refine At.enter rfl ?_
            refine q_iretz (by decide) ?_
            refine At.enter rfl ?_
            refine r_iff 27 rfl (by decide) ?_
            refine At.enter rfl ?_
            refine r_aload_n rfl ?_
            refine r_bipush 10 rfl ?_
            refine r_iconst 3 rfl ?_
            refine r_iload_n rfl ?_
            refine q_imul (3 * a1.toInt) rfl (by omega) (fun v669 hv669 => ?_)
            refine q_iadd (10 + v669.toInt) rfl (by omega) (fun v670 hv670 => ?_)
            refine r_iload_n rfl ?_
            refine q_iadd (v670.toInt + a2.toInt) rfl (by omega) (fun v671 hv671 => ?_)
            refine r_iload_n rfl ?_
            refine q_inlV 40 rfl [.ref 231, .int v671, .int a3] [] (Nat.le_of_ble_eq_true rfl) rfl ?_
            refine Ev.mk rfl rfl ⟨Nat.le_of_ble_eq_true rfl, Or.inr (q_rc hI293.1 kx_231 rfl)⟩ ?_
            show At _ none _ _ (0, [(0, .ref 231), (1, .int v671), (2, .int a3)], [], (_, _)) _
            refine At.enter rfl ?_
            refine r_aload_n rfl ?_
            refine q_getR (Sh.ref hI293.1 kx_231 rfl) ?_
            refine r_iload_n rfl ?_
            obtain ⟨v672, hv672⟩ : ∃ v, eA g0 233 (3 * a1.toInt + a2.toInt + 10) = v := ⟨_, rfl⟩
            have wv672 := HI.s2 hI0 (j := (3 * a1.toInt + a2.toInt + 10)) (a1.toInt) (by omega) (by omega)
            rw [hv672] at wv672
            refine q_iald (Sh.arr hI293.1 ka_233) (3 * a1.toInt + a2.toInt + 10) (by omega) (by omega) v672 ((eA_c (gA_sI)).trans hv672) ?_
            refine r_istore_n ([(3, .int v672), (0, .ref 231), (1, .int v671), (2, .int a3)]) rfl ?_
            refine r_aload_n rfl ?_
            refine q_getR (Sh.ref hI293.1 kx_231 rfl) ?_
            refine r_iload_n rfl ?_
            refine r_iload_n rfl ?_
            refine q_iast (Sh.arr hI293.1 ka_233) ((3 * a1.toInt + a2.toInt + 10)) (by omega) (by omega) ?_
            have hI673 := HI.ws hI293 (j := (3 * a1.toInt + a2.toInt + 10)) (v := a3) (a1.toInt) 2 (by omega) (by decide) (by omega) (by omega)
            have hF674 := Fr.wA (p := 233) (j := (3 * a1.toInt + a2.toInt + 10)) (v := a3) hF294 rfl
            refine r_aload_n rfl ?_
            refine r_iload_n rfl ?_
            refine q_inlV 19 rfl [.ref 231, .int v672] [] (Nat.le_of_ble_eq_true rfl) rfl ?_
            refine Ev.mk rfl rfl ⟨Nat.le_of_ble_eq_true rfl, Or.inr (q_rc hI673.1 kx_231 rfl)⟩ ?_
            show At _ none _ _ (0, [(0, .ref 231), (1, .int v672)], [], (_, _)) _
            refine At.enter rfl ?_
            refine r_aload_n rfl ?_
            refine r_iconst 0 rfl ?_
            refine q_putI (Sh.int hI673.1 kx_231 rfl) rfl ?_
            have hI675 := HI.wI0 hI673 kx_231 rfl (p := 231) (b := 1) (v := 0) rfl
            have hF676 := Fr.wI (p := 231) (b := 1) (v := 0) hF674 rfl
            refine r_iload_n rfl ?_
            refine q_ireti ?_
            refine At.enter rfl ?_
            refine q_ireti ?_
            refine At.enter rfl ?_
            refine r_goto ?_
            refine At.enter rfl ?_
            refine r_ireti ?_
            have x677 := HI.eqA hI0 (p := 233) (j := 0) (hv616)
            have y678 := congrArg Int32.toInt hv616
            have y679 := (eA_ix (g := g0) (p := 233) (show 10 + 3 * a1.toInt + a2.toInt = (3 * a1.toInt + a2.toInt + 10) from by omega)).trans (congrArg Int32.toInt hv672)
            have x680 := HI.eqA hI675 (p := 233) (j := 0) ((((eA_c gA_sI).trans ((eA_sA_ne hI293.1 ka_233 (by first | decide | omega) (by first | decide | omega) (by first | decide | omega)).trans (eA_c gA_sI))).trans hv616))
            obtain ⟨v681, hv681⟩ : ∃ v, eA g0 233 4 = v := ⟨_, rfl⟩
            have wv681 := HI.t4 hI0
            rw [hv681] at wv681
            have tv681 := congrArg Int32.toInt hv681
            have x682 := HI.eqA hI675 (p := 233) (j := 4) ((((eA_c gA_sI).trans ((eA_sA_ne hI293.1 ka_233 (by first | decide | omega) (by first | decide | omega) (by first | decide | omega)).trans (eA_c gA_sI))).trans hv681))
            obtain ⟨v683, hv683⟩ : ∃ v, eA g0 233 5 = v := ⟨_, rfl⟩
            have wv683 := HI.t5 hI0
            rw [hv683] at wv683
            have tv683 := congrArg Int32.toInt hv683
            have x684 := HI.eqA hI675 (p := 233) (j := 5) ((((eA_c gA_sI).trans ((eA_sA_ne hI293.1 ka_233 (by first | decide | omega) (by first | decide | omega) (by first | decide | omega)).trans (eA_c gA_sI))).trans hv683))
            obtain ⟨v685, hv685⟩ : ∃ v, eA g0 233 6 = v := ⟨_, rfl⟩
            have wv685 := HI.t6 hI0
            rw [hv685] at wv685
            have tv685 := congrArg Int32.toInt hv685
            have x686 := HI.eqA hI675 (p := 233) (j := 6) ((((eA_c gA_sI).trans ((eA_sA_ne hI293.1 ka_233 (by first | decide | omega) (by first | decide | omega) (by first | decide | omega)).trans (eA_c gA_sI))).trans hv685))
            obtain ⟨v687, hv687⟩ : ∃ v, eA g0 233 1 = v := ⟨_, rfl⟩
            have tv687 := congrArg Int32.toInt hv687
            have wv687 := HI.t1 hI0
            rw [hv687] at wv687
            have tv687 := congrArg Int32.toInt hv687
            have x688 := HI.eqA hI675 (p := 233) (j := 1) ((((eA_c gA_sI).trans ((eA_sA_ne hI293.1 ka_233 (by first | decide | omega) (by first | decide | omega) (by first | decide | omega)).trans (eA_c gA_sI))).trans hv687))
            have x689 := HI.eqA hI0 (p := 233) (j := 0) (hv616)
            have x690 := HI.eqA hI0 (p := 233) (j := 4) (hv681)
            have x691 := HI.eqA hI0 (p := 233) (j := 5) (hv683)
            have x692 := HI.eqA hI0 (p := 233) (j := 6) (hv685)
            have x693 := HI.eqA hI0 (p := 233) (j := 1) (hv687)
            have x694 := HI.eqA hI0 (p := 233) (j := 0) (hv616)
            exact ⟨_, rfl, hI675, hF676, _, rfl, by omega, ⟨⟨⟨by omega, by omega, by omega, by omega, by omega⟩, by omega, by omega, by omega⟩, (by intro i i0 i1; exact (Decidable.em ((((a2.toInt = 0 ∧ -1 ≤ a3.toInt ∧ a3.toInt ≤ 11) ∨ (a2.toInt = 1 ∧ 1 ≤ a3.toInt ∧ a3.toInt ≤ 9) ∨ (a2.toInt = 2 ∧ 0 ≤ a3.toInt ∧ a3.toInt ≤ 99)) ∧ 0 ≤ a1.toInt ∧ a1.toInt < (eA g0 233 0).toInt) ∧ i = 10 + 3 * a1.toInt + a2.toInt)).elim (fun k194_ => by refine Eq.trans ?_ (if_pos k194_).symm; refine (eA_ti ((gA_sI))).trans ?_; exact (Decidable.em (i = (3 * a1.toInt + a2.toInt + 10))).elim (fun k195_ => by refine (eA_eqT hI293.1 ka_233 k195_ (by first | decide | omega) (by first | decide | omega)).trans ?_; (first | (rfl) | (omega))) (fun k195_ => by refine (eA_neT hI293.1 ka_233 k195_ (by first | decide | omega) (by omega)).trans ?_; refine (eA_ti ((gA_sI))).trans ?_; (first | rfl | exact eA_ix (by omega) | omega))) (fun k194_ => by refine Eq.trans ?_ (if_neg k194_).symm; refine (eA_ti ((gA_sI))).trans ?_; exact (Decidable.em (i = (3 * a1.toInt + a2.toInt + 10))).elim (fun k196_ => by refine (eA_eqT hI293.1 ka_233 k196_ (by first | decide | omega) (by first | decide | omega)).trans ?_; (first | (rfl) | (omega))) (fun k196_ => by refine (eA_neT hI293.1 ka_233 k196_ (by first | decide | omega) (by omega)).trans ?_; refine (eA_ti ((gA_sI))).trans ?_; (first | rfl | exact eA_ix (by omega) | omega))))⟩⟩
  have c695 : a2.toInt < 0 ∨ 2 < a2.toInt := by omega
  refine r_tsw 60 (by unfold en_sw; rw [if_pos c695]; rfl) ?_
  refine At.enter rfl ?_
  refine r_iconst 0 rfl ?_
  refine q_iretz (by decide) ?_
  refine At.enter rfl ?_
  refine r_iff 13 rfl (by decide) ?_
  refine At.enter rfl ?_
  refine r_aload_n rfl ?_
  refine r_iconst (-1) rfl ?_
  refine r_callV 18 rfl [.ref 231, .int (-1)] [] (Nat.le_of_ble_eq_true rfl) rfl (T_X11_tell_231 _ hI293 (-1) (by decide)) ?_
  rintro _ _ ⟨g696, rfl, hI697, hF698, v699, rfl, hr700⟩
  refine At.sti ?_
  have hF701 := Fr.tr hF294 hF698 rfl rfl
  have zv702 : ((-1) : Int32).toInt = (-1) := rfl
  refine At.enter rfl ?_
  refine r_ireti ?_
  obtain ⟨v703, hv703⟩ : ∃ v, eA g0 233 0 = v := ⟨_, rfl⟩
  have tv703 := congrArg Int32.toInt hv703
  have wv703 := HI.t0 hI0
  rw [hv703] at wv703
  have tv703 := congrArg Int32.toInt hv703
  have x704 := HI.eqA hI0 (p := 233) (j := 0) (hv703)
  have y705 := congrArg Int32.toInt hv703
  have x706 := HI.eqA hI697 (p := 233) (j := 0) ((((eA_c (hF698.2.1 233 (by decide))).trans (eA_c gA_sI)).trans hv703))
  obtain ⟨v707, hv707⟩ : ∃ v, eA g0 233 4 = v := ⟨_, rfl⟩
  have wv707 := HI.t4 hI0
  rw [hv707] at wv707
  have tv707 := congrArg Int32.toInt hv707
  have x708 := HI.eqA hI697 (p := 233) (j := 4) ((((eA_c (hF698.2.1 233 (by decide))).trans (eA_c gA_sI)).trans hv707))
  obtain ⟨v709, hv709⟩ : ∃ v, eA g0 233 5 = v := ⟨_, rfl⟩
  have wv709 := HI.t5 hI0
  rw [hv709] at wv709
  have tv709 := congrArg Int32.toInt hv709
  have x710 := HI.eqA hI697 (p := 233) (j := 5) ((((eA_c (hF698.2.1 233 (by decide))).trans (eA_c gA_sI)).trans hv709))
  obtain ⟨v711, hv711⟩ : ∃ v, eA g0 233 6 = v := ⟨_, rfl⟩
  have wv711 := HI.t6 hI0
  rw [hv711] at wv711
  have tv711 := congrArg Int32.toInt hv711
  have x712 := HI.eqA hI697 (p := 233) (j := 6) ((((eA_c (hF698.2.1 233 (by decide))).trans (eA_c gA_sI)).trans hv711))
  obtain ⟨v713, hv713⟩ : ∃ v, eA g0 233 1 = v := ⟨_, rfl⟩
  have tv713 := congrArg Int32.toInt hv713
  have wv713 := HI.t1 hI0
  rw [hv713] at wv713
  have tv713 := congrArg Int32.toInt hv713
  have x714 := HI.eqA hI697 (p := 233) (j := 1) ((((eA_c (hF698.2.1 233 (by decide))).trans (eA_c gA_sI)).trans hv713))
  have x715 := HI.eqA hI0 (p := 233) (j := 0) (hv703)
  have x716 := HI.eqA hI0 (p := 233) (j := 4) (hv707)
  have x717 := HI.eqA hI0 (p := 233) (j := 5) (hv709)
  have x718 := HI.eqA hI0 (p := 233) (j := 6) (hv711)
  have x719 := HI.eqA hI0 (p := 233) (j := 1) (hv713)
  have x720 := HI.eqA hI0 (p := 233) (j := 0) (hv703)
  exact ⟨_, rfl, hI697, hF701, _, rfl, by omega, ⟨⟨⟨by omega, by omega, by omega, by omega, by omega⟩, by omega, by omega, by omega⟩, (by intro i i0 i1; refine Eq.trans ?_ (if_neg (show ¬ ((((a2.toInt = 0 ∧ -1 ≤ a3.toInt ∧ a3.toInt ≤ 11) ∨ (a2.toInt = 1 ∧ 1 ≤ a3.toInt ∧ a3.toInt ≤ 9) ∨ (a2.toInt = 2 ∧ 0 ≤ a3.toInt ∧ a3.toInt ≤ 99)) ∧ 0 ≤ a1.toInt ∧ a1.toInt < (eA g0 233 0).toInt) ∧ i = 10 + 3 * a1.toInt + a2.toInt) from by omega)).symm; refine (eA_ti (((hF698.2.1 233 (by decide)).trans (gA_sI)))).trans ?_; (first | rfl | exact eA_ix (by omega) | omega))⟩⟩

def F_X11_addLoad_231 : List (Nat × Nat) := []
def A_X11_addLoad_231 : List Nat := [233]
set_option maxRecDepth 100000 in
set_option maxHeartbeats 4000000 in
theorem T_X11_addLoad_231 (d : Nat) {N : Nat} {g0 : List en_E} (hI0 : HI g0) (a1 : Int32) (h_a1 : 1 ≤ a1.toInt ∧ a1.toInt ≤ 9) (a2 : Int32) (h_a2 : 0 ≤ a2.toInt ∧ a2.toInt ≤ 11) (a3 : Int32) (h_a3 : 0 ≤ a3.toInt ∧ a3.toInt ≤ 11) (a4 : Int32) (h_a4 : 0 ≤ a4.toInt ∧ a4.toInt ≤ 99) (a5 : Int32) (h_a5 : 0 ≤ a5.toInt ∧ a5.toInt ≤ 9) (a6 : Int32) (h_a6 : 0 ≤ a6.toInt ∧ a6.toInt ≤ 9999) (h1 : (eA g0 233 1).toInt < 8) (h2 : a2.toInt < (eA g0 233 0).toInt) (h3 : a3.toInt < (eA g0 233 0).toInt) : Ev (d + 1) 177 [.ref 231, .int a1, .int a2, .int a3, .int a4, .int a5, .int a6] (g0, N) (fun w h' => ∃ g', h' = (g', N) ∧ HI g' ∧ Fr F_X11_addLoad_231 A_X11_addLoad_231 g0 g' ∧ w = none ∧ ((∀ i : Int, 0 ≤ i → i < 46 → i ≠ 1 → eA g' 233 i = eA g0 233 i) ∧ (eA g' 233 1).toInt = (eA g0 233 1).toInt + 1 ∧ (∀ i : Int, 94 ≤ i → i < 110 → (eA g' 233 (i)).toInt = (eA g0 233 (i)).toInt) ∧ (∀ i : Int, 46 ≤ i → i < 94 → (eA g' 233 (i)).toInt = if i = 46 + 6 * (eA g0 233 1).toInt + 0 then a1.toInt else if i = 46 + 6 * (eA g0 233 1).toInt + 1 then a2.toInt else if i = 46 + 6 * (eA g0 233 1).toInt + 2 then a3.toInt else if i = 46 + 6 * (eA g0 233 1).toInt + 3 then a4.toInt else if i = 46 + 6 * (eA g0 233 1).toInt + 4 then a5.toInt else if i = 46 + 6 * (eA g0 233 1).toInt + 5 then a6.toInt else (eA g0 233 (i)).toInt))) := by
  have hF0 : Fr F_X11_addLoad_231 A_X11_addLoad_231 g0 g0 := Fr.rf
  refine Ev.mk rfl rfl ⟨Nat.le_of_ble_eq_true rfl, Or.inr (q_rc hI0.1 kx_231 rfl)⟩ ?_
  show At _ none _ _ (0, [(0, .ref 231), (1, .int a1), (2, .int a2), (3, .int a3), (4, .int a4), (5, .int a5), (6, .int a6)], [], (_, _)) _
  refine At.enter rfl ?_
  refine r_bipush 46 rfl ?_
  refine r_bipush 6 rfl ?_
  refine r_aload_n rfl ?_
  refine q_getR (Sh.ref hI0.1 kx_231 rfl) ?_
  refine r_iconst 1 rfl ?_
  obtain ⟨v59, hv59⟩ : ∃ v, eA g0 233 1 = v := ⟨_, rfl⟩
  have tv59 := congrArg Int32.toInt hv59
  have wv59 := HI.t1 hI0
  rw [hv59] at wv59
  have uv59 := h1; rw [hv59] at uv59
  refine q_iald (Sh.arr hI0.1 ka_233) 1 rfl (by decide) v59 hv59 ?_
  refine q_imul (6 * v59.toInt) rfl (by omega) (fun v60 hv60 => ?_)
  refine q_iadd (46 + v60.toInt) rfl (by omega) (fun v61 hv61 => ?_)
  refine r_istore ([(7, .int v61), (0, .ref 231), (1, .int a1), (2, .int a2), (3, .int a3), (4, .int a4), (5, .int a5), (6, .int a6)]) rfl ?_
  refine r_aload_n rfl ?_
  refine q_getR (Sh.ref hI0.1 kx_231 rfl) ?_
  refine r_iload rfl ?_
  refine r_iload_n rfl ?_
  refine q_iast (Sh.arr hI0.1 ka_233) ((6 * v59.toInt + 46)) (by omega) (by omega) ?_
  have hI62 := HI.wl hI0 (j := (6 * v59.toInt + 46)) (v := a1) (v59.toInt) 0 (by omega) (by decide) (by omega) (by omega)
  have hF63 := Fr.wA (p := 233) (j := (6 * v59.toInt + 46)) (v := a1) hF0 rfl
  refine r_aload_n rfl ?_
  refine q_getR (Sh.ref hI62.1 kx_231 rfl) ?_
  refine r_iload rfl ?_
  refine r_iconst 1 rfl ?_
  refine q_iadd (v61.toInt + 1) rfl (by omega) (fun v64 hv64 => ?_)
  refine r_iload_n rfl ?_
  refine q_iast (Sh.arr hI62.1 ka_233) ((6 * v59.toInt + 47)) (by omega) (by omega) ?_
  obtain ⟨v67, hv67⟩ : ∃ v, eA g0 233 0 = v := ⟨_, rfl⟩
  have tv67 := congrArg Int32.toInt hv67
  have wv67 := HI.t0 hI0
  rw [hv67] at wv67
  have uv67 := h2; rw [hv67] at uv67
  have wv67_ := h3; rw [hv67] at wv67_
  have tv67 := congrArg Int32.toInt hv67
  have x68 := HI.eqA hI62 (p := 233) (j := 0) (((eA_sA_ne hI0.1 ka_233 (by first | decide | omega) (by first | decide | omega) (by first | decide | omega)).trans hv67))
  have hI65 := HI.wl hI62 (j := (6 * v59.toInt + 47)) (v := a2) (v59.toInt) 1 (by omega) (by decide) (by omega) (by omega)
  have hF66 := Fr.wA (p := 233) (j := (6 * v59.toInt + 47)) (v := a2) hF63 rfl
  refine r_aload_n rfl ?_
  refine q_getR (Sh.ref hI65.1 kx_231 rfl) ?_
  refine r_iload rfl ?_
  refine r_iconst 2 rfl ?_
  refine q_iadd (v61.toInt + 2) rfl (by omega) (fun v69 hv69 => ?_)
  refine r_iload_n rfl ?_
  refine q_iast (Sh.arr hI65.1 ka_233) ((6 * v59.toInt + 48)) (by omega) (by omega) ?_
  have x72 := HI.eqA hI65 (p := 233) (j := 0) ((((eA_sA_ne hI62.1 ka_233 (by first | decide | omega) (by first | decide | omega) (by first | decide | omega)).trans (eA_sA_ne hI0.1 ka_233 (by first | decide | omega) (by first | decide | omega) (by first | decide | omega))).trans hv67))
  have hI70 := HI.wl hI65 (j := (6 * v59.toInt + 48)) (v := a3) (v59.toInt) 2 (by omega) (by decide) (by omega) (by omega)
  have hF71 := Fr.wA (p := 233) (j := (6 * v59.toInt + 48)) (v := a3) hF66 rfl
  refine r_aload_n rfl ?_
  refine q_getR (Sh.ref hI70.1 kx_231 rfl) ?_
  refine r_iload rfl ?_
  refine r_iconst 3 rfl ?_
  refine q_iadd (v61.toInt + 3) rfl (by omega) (fun v73 hv73 => ?_)
  refine r_iload rfl ?_
  refine q_iast (Sh.arr hI70.1 ka_233) ((6 * v59.toInt + 49)) (by omega) (by omega) ?_
  have hI74 := HI.wl hI70 (j := (6 * v59.toInt + 49)) (v := a4) (v59.toInt) 3 (by omega) (by decide) (by omega) (by omega)
  have hF75 := Fr.wA (p := 233) (j := (6 * v59.toInt + 49)) (v := a4) hF71 rfl
  refine r_aload_n rfl ?_
  refine q_getR (Sh.ref hI74.1 kx_231 rfl) ?_
  refine r_iload rfl ?_
  refine r_iconst 4 rfl ?_
  refine q_iadd (v61.toInt + 4) rfl (by omega) (fun v76 hv76 => ?_)
  refine r_iload rfl ?_
  refine q_iast (Sh.arr hI74.1 ka_233) ((6 * v59.toInt + 50)) (by omega) (by omega) ?_
  have hI77 := HI.wl hI74 (j := (6 * v59.toInt + 50)) (v := a5) (v59.toInt) 4 (by omega) (by decide) (by omega) (by omega)
  have hF78 := Fr.wA (p := 233) (j := (6 * v59.toInt + 50)) (v := a5) hF75 rfl
  refine r_aload_n rfl ?_
  refine q_getR (Sh.ref hI77.1 kx_231 rfl) ?_
  refine r_iload rfl ?_
  refine r_iconst 5 rfl ?_
  refine q_iadd (v61.toInt + 5) rfl (by omega) (fun v79 hv79 => ?_)
  refine r_iload rfl ?_
  refine q_iast (Sh.arr hI77.1 ka_233) ((6 * v59.toInt + 51)) (by omega) (by omega) ?_
  have hI80 := HI.wl hI77 (j := (6 * v59.toInt + 51)) (v := a6) (v59.toInt) 5 (by omega) (by decide) (by omega) (by omega)
  have hF81 := Fr.wA (p := 233) (j := (6 * v59.toInt + 51)) (v := a6) hF78 rfl
  refine r_aload_n rfl ?_
  refine q_getR (Sh.ref hI80.1 kx_231 rfl) ?_
  refine r_iconst 1 rfl ?_
  refine r_dup2 ⟨rfl, rfl⟩ ?_
  refine q_iald (Sh.arr hI80.1 ka_233) 1 rfl (by decide) v59 (((eA_sA_ne hI77.1 ka_233 (by first | decide | omega) (by first | decide | omega) (by first | decide | omega)).trans ((eA_sA_ne hI74.1 ka_233 (by first | decide | omega) (by first | decide | omega) (by first | decide | omega)).trans ((eA_sA_ne hI70.1 ka_233 (by first | decide | omega) (by first | decide | omega) (by first | decide | omega)).trans ((eA_sA_ne hI65.1 ka_233 (by first | decide | omega) (by first | decide | omega) (by first | decide | omega)).trans ((eA_sA_ne hI62.1 ka_233 (by first | decide | omega) (by first | decide | omega) (by first | decide | omega)).trans (eA_sA_ne hI0.1 ka_233 (by first | decide | omega) (by first | decide | omega) (by first | decide | omega))))))).trans hv59) ?_
  refine r_iconst 1 rfl ?_
  refine q_iadd (v59.toInt + 1) rfl (by omega) (fun v82 hv82 => ?_)
  refine q_iast (Sh.arr hI80.1 ka_233) (1) rfl (by decide) ?_
  have x85 := HI.eqA hI80 (p := 233) (j := 0) ((((eA_sA_ne hI77.1 ka_233 (by first | decide | omega) (by first | decide | omega) (by first | decide | omega)).trans ((eA_sA_ne hI74.1 ka_233 (by first | decide | omega) (by first | decide | omega) (by first | decide | omega)).trans ((eA_sA_ne hI70.1 ka_233 (by first | decide | omega) (by first | decide | omega) (by first | decide | omega)).trans ((eA_sA_ne hI65.1 ka_233 (by first | decide | omega) (by first | decide | omega) (by first | decide | omega)).trans ((eA_sA_ne hI62.1 ka_233 (by first | decide | omega) (by first | decide | omega) (by first | decide | omega)).trans (eA_sA_ne hI0.1 ka_233 (by first | decide | omega) (by first | decide | omega) (by first | decide | omega))))))).trans hv67))
  have x86 := HI.eqA hI80 (p := 233) (j := 1) ((((eA_sA_ne hI77.1 ka_233 (by first | decide | omega) (by first | decide | omega) (by first | decide | omega)).trans ((eA_sA_ne hI74.1 ka_233 (by first | decide | omega) (by first | decide | omega) (by first | decide | omega)).trans ((eA_sA_ne hI70.1 ka_233 (by first | decide | omega) (by first | decide | omega) (by first | decide | omega)).trans ((eA_sA_ne hI65.1 ka_233 (by first | decide | omega) (by first | decide | omega) (by first | decide | omega)).trans ((eA_sA_ne hI62.1 ka_233 (by first | decide | omega) (by first | decide | omega) (by first | decide | omega)).trans (eA_sA_ne hI0.1 ka_233 (by first | decide | omega) (by first | decide | omega) (by first | decide | omega))))))).trans hv59))
  have yv87 := HI.lt hI80
  have hI83 := HI.wt hI80 (j := 1) (v := v82) (by omega) (by omega)
  have hF84 := Fr.wA (p := 233) (j := 1) (v := v82) hF81 rfl
  refine r_vret ?_
  have x88 := HI.eqA hI83 (p := 233) (j := 1) ((eA_sA_eq hI80.1 ka_233 (by first | rfl | omega) (by first | decide | omega) (by first | decide | omega)))
  have x89 := HI.eqA hI0 (p := 233) (j := 1) (hv59)
  have x90 := HI.eqA hI0 (p := 233) (j := 0) (hv67)
  exact ⟨_, rfl, hI83, hF84, rfl, ⟨(fun i i0 i1 i2 => ((eA_sA_ne (i := i) hI80.1 ka_233 (by omega) (by first | decide | omega) (by omega)).trans ((eA_sA_ne (i := i) hI77.1 ka_233 (by omega) (by first | decide | omega) (by omega)).trans ((eA_sA_ne (i := i) hI74.1 ka_233 (by omega) (by first | decide | omega) (by omega)).trans ((eA_sA_ne (i := i) hI70.1 ka_233 (by omega) (by first | decide | omega) (by omega)).trans ((eA_sA_ne (i := i) hI65.1 ka_233 (by omega) (by first | decide | omega) (by omega)).trans ((eA_sA_ne (i := i) hI62.1 ka_233 (by omega) (by first | decide | omega) (by omega)).trans (eA_sA_ne (i := i) hI0.1 ka_233 (by omega) (by first | decide | omega) (by omega))))))))), by omega, (by intro i i0 i1; exact (Decidable.em (i = 1)).elim (fun k197_ => by refine (eA_eqT hI80.1 ka_233 k197_ (by first | decide | omega) (by first | decide | omega)).trans ?_; (first | (rfl) | (omega))) (fun k197_ => by refine (eA_neT hI80.1 ka_233 k197_ (by first | decide | omega) (by omega)).trans ?_; exact (Decidable.em (i = (6 * v59.toInt + 51))).elim (fun k198_ => by refine (eA_eqT hI77.1 ka_233 k198_ (by first | decide | omega) (by first | decide | omega)).trans ?_; (first | (rfl) | (omega))) (fun k198_ => by refine (eA_neT hI77.1 ka_233 k198_ (by first | decide | omega) (by omega)).trans ?_; exact (Decidable.em (i = (6 * v59.toInt + 50))).elim (fun k199_ => by refine (eA_eqT hI74.1 ka_233 k199_ (by first | decide | omega) (by first | decide | omega)).trans ?_; (first | (rfl) | (omega))) (fun k199_ => by refine (eA_neT hI74.1 ka_233 k199_ (by first | decide | omega) (by omega)).trans ?_; exact (Decidable.em (i = (6 * v59.toInt + 49))).elim (fun k200_ => by refine (eA_eqT hI70.1 ka_233 k200_ (by first | decide | omega) (by first | decide | omega)).trans ?_; (first | (rfl) | (omega))) (fun k200_ => by refine (eA_neT hI70.1 ka_233 k200_ (by first | decide | omega) (by omega)).trans ?_; exact (Decidable.em (i = (6 * v59.toInt + 48))).elim (fun k201_ => by refine (eA_eqT hI65.1 ka_233 k201_ (by first | decide | omega) (by first | decide | omega)).trans ?_; (first | (rfl) | (omega))) (fun k201_ => by refine (eA_neT hI65.1 ka_233 k201_ (by first | decide | omega) (by omega)).trans ?_; exact (Decidable.em (i = (6 * v59.toInt + 47))).elim (fun k202_ => by refine (eA_eqT hI62.1 ka_233 k202_ (by first | decide | omega) (by first | decide | omega)).trans ?_; (first | (rfl) | (omega))) (fun k202_ => by refine (eA_neT hI62.1 ka_233 k202_ (by first | decide | omega) (by omega)).trans ?_; exact (Decidable.em (i = (6 * v59.toInt + 46))).elim (fun k203_ => by refine (eA_eqT hI0.1 ka_233 k203_ (by first | decide | omega) (by first | decide | omega)).trans ?_; (first | (rfl) | (omega))) (fun k203_ => by refine (eA_neT hI0.1 ka_233 k203_ (by first | decide | omega) (by omega)).trans ?_; (first | rfl | exact eA_ix (by omega) | omega))))))))), (by intro i i0 i1; exact (Decidable.em (i = 46 + 6 * (eA g0 233 1).toInt + 0)).elim (fun k204_ => by refine Eq.trans ?_ (if_pos k204_).symm; exact (Decidable.em (i = 1)).elim (fun k205_ => by refine (eA_eqT hI80.1 ka_233 k205_ (by first | decide | omega) (by first | decide | omega)).trans ?_; (first | (rfl) | (omega))) (fun k205_ => by refine (eA_neT hI80.1 ka_233 k205_ (by first | decide | omega) (by omega)).trans ?_; exact (Decidable.em (i = (6 * v59.toInt + 51))).elim (fun k206_ => by refine (eA_eqT hI77.1 ka_233 k206_ (by first | decide | omega) (by first | decide | omega)).trans ?_; (first | (rfl) | (omega))) (fun k206_ => by refine (eA_neT hI77.1 ka_233 k206_ (by first | decide | omega) (by omega)).trans ?_; exact (Decidable.em (i = (6 * v59.toInt + 50))).elim (fun k207_ => by refine (eA_eqT hI74.1 ka_233 k207_ (by first | decide | omega) (by first | decide | omega)).trans ?_; (first | (rfl) | (omega))) (fun k207_ => by refine (eA_neT hI74.1 ka_233 k207_ (by first | decide | omega) (by omega)).trans ?_; exact (Decidable.em (i = (6 * v59.toInt + 49))).elim (fun k208_ => by refine (eA_eqT hI70.1 ka_233 k208_ (by first | decide | omega) (by first | decide | omega)).trans ?_; (first | (rfl) | (omega))) (fun k208_ => by refine (eA_neT hI70.1 ka_233 k208_ (by first | decide | omega) (by omega)).trans ?_; exact (Decidable.em (i = (6 * v59.toInt + 48))).elim (fun k209_ => by refine (eA_eqT hI65.1 ka_233 k209_ (by first | decide | omega) (by first | decide | omega)).trans ?_; (first | (rfl) | (omega))) (fun k209_ => by refine (eA_neT hI65.1 ka_233 k209_ (by first | decide | omega) (by omega)).trans ?_; exact (Decidable.em (i = (6 * v59.toInt + 47))).elim (fun k210_ => by refine (eA_eqT hI62.1 ka_233 k210_ (by first | decide | omega) (by first | decide | omega)).trans ?_; (first | (rfl) | (omega))) (fun k210_ => by refine (eA_neT hI62.1 ka_233 k210_ (by first | decide | omega) (by omega)).trans ?_; exact (Decidable.em (i = (6 * v59.toInt + 46))).elim (fun k211_ => by refine (eA_eqT hI0.1 ka_233 k211_ (by first | decide | omega) (by first | decide | omega)).trans ?_; (first | (rfl) | (omega))) (fun k211_ => by refine (eA_neT hI0.1 ka_233 k211_ (by first | decide | omega) (by omega)).trans ?_; (first | rfl | exact eA_ix (by omega) | omega))))))))) (fun k204_ => by refine Eq.trans ?_ (if_neg k204_).symm; exact (Decidable.em (i = 46 + 6 * (eA g0 233 1).toInt + 1)).elim (fun k212_ => by refine Eq.trans ?_ (if_pos k212_).symm; exact (Decidable.em (i = 1)).elim (fun k213_ => by refine (eA_eqT hI80.1 ka_233 k213_ (by first | decide | omega) (by first | decide | omega)).trans ?_; (first | (rfl) | (omega))) (fun k213_ => by refine (eA_neT hI80.1 ka_233 k213_ (by first | decide | omega) (by omega)).trans ?_; exact (Decidable.em (i = (6 * v59.toInt + 51))).elim (fun k214_ => by refine (eA_eqT hI77.1 ka_233 k214_ (by first | decide | omega) (by first | decide | omega)).trans ?_; (first | (rfl) | (omega))) (fun k214_ => by refine (eA_neT hI77.1 ka_233 k214_ (by first | decide | omega) (by omega)).trans ?_; exact (Decidable.em (i = (6 * v59.toInt + 50))).elim (fun k215_ => by refine (eA_eqT hI74.1 ka_233 k215_ (by first | decide | omega) (by first | decide | omega)).trans ?_; (first | (rfl) | (omega))) (fun k215_ => by refine (eA_neT hI74.1 ka_233 k215_ (by first | decide | omega) (by omega)).trans ?_; exact (Decidable.em (i = (6 * v59.toInt + 49))).elim (fun k216_ => by refine (eA_eqT hI70.1 ka_233 k216_ (by first | decide | omega) (by first | decide | omega)).trans ?_; (first | (rfl) | (omega))) (fun k216_ => by refine (eA_neT hI70.1 ka_233 k216_ (by first | decide | omega) (by omega)).trans ?_; exact (Decidable.em (i = (6 * v59.toInt + 48))).elim (fun k217_ => by refine (eA_eqT hI65.1 ka_233 k217_ (by first | decide | omega) (by first | decide | omega)).trans ?_; (first | (rfl) | (omega))) (fun k217_ => by refine (eA_neT hI65.1 ka_233 k217_ (by first | decide | omega) (by omega)).trans ?_; exact (Decidable.em (i = (6 * v59.toInt + 47))).elim (fun k218_ => by refine (eA_eqT hI62.1 ka_233 k218_ (by first | decide | omega) (by first | decide | omega)).trans ?_; (first | (rfl) | (omega))) (fun k218_ => by refine (eA_neT hI62.1 ka_233 k218_ (by first | decide | omega) (by omega)).trans ?_; exact (Decidable.em (i = (6 * v59.toInt + 46))).elim (fun k219_ => by refine (eA_eqT hI0.1 ka_233 k219_ (by first | decide | omega) (by first | decide | omega)).trans ?_; (first | (rfl) | (omega))) (fun k219_ => by refine (eA_neT hI0.1 ka_233 k219_ (by first | decide | omega) (by omega)).trans ?_; (first | rfl | exact eA_ix (by omega) | omega))))))))) (fun k212_ => by refine Eq.trans ?_ (if_neg k212_).symm; exact (Decidable.em (i = 46 + 6 * (eA g0 233 1).toInt + 2)).elim (fun k220_ => by refine Eq.trans ?_ (if_pos k220_).symm; exact (Decidable.em (i = 1)).elim (fun k221_ => by refine (eA_eqT hI80.1 ka_233 k221_ (by first | decide | omega) (by first | decide | omega)).trans ?_; (first | (rfl) | (omega))) (fun k221_ => by refine (eA_neT hI80.1 ka_233 k221_ (by first | decide | omega) (by omega)).trans ?_; exact (Decidable.em (i = (6 * v59.toInt + 51))).elim (fun k222_ => by refine (eA_eqT hI77.1 ka_233 k222_ (by first | decide | omega) (by first | decide | omega)).trans ?_; (first | (rfl) | (omega))) (fun k222_ => by refine (eA_neT hI77.1 ka_233 k222_ (by first | decide | omega) (by omega)).trans ?_; exact (Decidable.em (i = (6 * v59.toInt + 50))).elim (fun k223_ => by refine (eA_eqT hI74.1 ka_233 k223_ (by first | decide | omega) (by first | decide | omega)).trans ?_; (first | (rfl) | (omega))) (fun k223_ => by refine (eA_neT hI74.1 ka_233 k223_ (by first | decide | omega) (by omega)).trans ?_; exact (Decidable.em (i = (6 * v59.toInt + 49))).elim (fun k224_ => by refine (eA_eqT hI70.1 ka_233 k224_ (by first | decide | omega) (by first | decide | omega)).trans ?_; (first | (rfl) | (omega))) (fun k224_ => by refine (eA_neT hI70.1 ka_233 k224_ (by first | decide | omega) (by omega)).trans ?_; exact (Decidable.em (i = (6 * v59.toInt + 48))).elim (fun k225_ => by refine (eA_eqT hI65.1 ka_233 k225_ (by first | decide | omega) (by first | decide | omega)).trans ?_; (first | (rfl) | (omega))) (fun k225_ => by refine (eA_neT hI65.1 ka_233 k225_ (by first | decide | omega) (by omega)).trans ?_; exact (Decidable.em (i = (6 * v59.toInt + 47))).elim (fun k226_ => by refine (eA_eqT hI62.1 ka_233 k226_ (by first | decide | omega) (by first | decide | omega)).trans ?_; (first | (rfl) | (omega))) (fun k226_ => by refine (eA_neT hI62.1 ka_233 k226_ (by first | decide | omega) (by omega)).trans ?_; exact (Decidable.em (i = (6 * v59.toInt + 46))).elim (fun k227_ => by refine (eA_eqT hI0.1 ka_233 k227_ (by first | decide | omega) (by first | decide | omega)).trans ?_; (first | (rfl) | (omega))) (fun k227_ => by refine (eA_neT hI0.1 ka_233 k227_ (by first | decide | omega) (by omega)).trans ?_; (first | rfl | exact eA_ix (by omega) | omega))))))))) (fun k220_ => by refine Eq.trans ?_ (if_neg k220_).symm; exact (Decidable.em (i = 46 + 6 * (eA g0 233 1).toInt + 3)).elim (fun k228_ => by refine Eq.trans ?_ (if_pos k228_).symm; exact (Decidable.em (i = 1)).elim (fun k229_ => by refine (eA_eqT hI80.1 ka_233 k229_ (by first | decide | omega) (by first | decide | omega)).trans ?_; (first | (rfl) | (omega))) (fun k229_ => by refine (eA_neT hI80.1 ka_233 k229_ (by first | decide | omega) (by omega)).trans ?_; exact (Decidable.em (i = (6 * v59.toInt + 51))).elim (fun k230_ => by refine (eA_eqT hI77.1 ka_233 k230_ (by first | decide | omega) (by first | decide | omega)).trans ?_; (first | (rfl) | (omega))) (fun k230_ => by refine (eA_neT hI77.1 ka_233 k230_ (by first | decide | omega) (by omega)).trans ?_; exact (Decidable.em (i = (6 * v59.toInt + 50))).elim (fun k231_ => by refine (eA_eqT hI74.1 ka_233 k231_ (by first | decide | omega) (by first | decide | omega)).trans ?_; (first | (rfl) | (omega))) (fun k231_ => by refine (eA_neT hI74.1 ka_233 k231_ (by first | decide | omega) (by omega)).trans ?_; exact (Decidable.em (i = (6 * v59.toInt + 49))).elim (fun k232_ => by refine (eA_eqT hI70.1 ka_233 k232_ (by first | decide | omega) (by first | decide | omega)).trans ?_; (first | (rfl) | (omega))) (fun k232_ => by refine (eA_neT hI70.1 ka_233 k232_ (by first | decide | omega) (by omega)).trans ?_; exact (Decidable.em (i = (6 * v59.toInt + 48))).elim (fun k233_ => by refine (eA_eqT hI65.1 ka_233 k233_ (by first | decide | omega) (by first | decide | omega)).trans ?_; (first | (rfl) | (omega))) (fun k233_ => by refine (eA_neT hI65.1 ka_233 k233_ (by first | decide | omega) (by omega)).trans ?_; exact (Decidable.em (i = (6 * v59.toInt + 47))).elim (fun k234_ => by refine (eA_eqT hI62.1 ka_233 k234_ (by first | decide | omega) (by first | decide | omega)).trans ?_; (first | (rfl) | (omega))) (fun k234_ => by refine (eA_neT hI62.1 ka_233 k234_ (by first | decide | omega) (by omega)).trans ?_; exact (Decidable.em (i = (6 * v59.toInt + 46))).elim (fun k235_ => by refine (eA_eqT hI0.1 ka_233 k235_ (by first | decide | omega) (by first | decide | omega)).trans ?_; (first | (rfl) | (omega))) (fun k235_ => by refine (eA_neT hI0.1 ka_233 k235_ (by first | decide | omega) (by omega)).trans ?_; (first | rfl | exact eA_ix (by omega) | omega))))))))) (fun k228_ => by refine Eq.trans ?_ (if_neg k228_).symm; exact (Decidable.em (i = 46 + 6 * (eA g0 233 1).toInt + 4)).elim (fun k236_ => by refine Eq.trans ?_ (if_pos k236_).symm; exact (Decidable.em (i = 1)).elim (fun k237_ => by refine (eA_eqT hI80.1 ka_233 k237_ (by first | decide | omega) (by first | decide | omega)).trans ?_; (first | (rfl) | (omega))) (fun k237_ => by refine (eA_neT hI80.1 ka_233 k237_ (by first | decide | omega) (by omega)).trans ?_; exact (Decidable.em (i = (6 * v59.toInt + 51))).elim (fun k238_ => by refine (eA_eqT hI77.1 ka_233 k238_ (by first | decide | omega) (by first | decide | omega)).trans ?_; (first | (rfl) | (omega))) (fun k238_ => by refine (eA_neT hI77.1 ka_233 k238_ (by first | decide | omega) (by omega)).trans ?_; exact (Decidable.em (i = (6 * v59.toInt + 50))).elim (fun k239_ => by refine (eA_eqT hI74.1 ka_233 k239_ (by first | decide | omega) (by first | decide | omega)).trans ?_; (first | (rfl) | (omega))) (fun k239_ => by refine (eA_neT hI74.1 ka_233 k239_ (by first | decide | omega) (by omega)).trans ?_; exact (Decidable.em (i = (6 * v59.toInt + 49))).elim (fun k240_ => by refine (eA_eqT hI70.1 ka_233 k240_ (by first | decide | omega) (by first | decide | omega)).trans ?_; (first | (rfl) | (omega))) (fun k240_ => by refine (eA_neT hI70.1 ka_233 k240_ (by first | decide | omega) (by omega)).trans ?_; exact (Decidable.em (i = (6 * v59.toInt + 48))).elim (fun k241_ => by refine (eA_eqT hI65.1 ka_233 k241_ (by first | decide | omega) (by first | decide | omega)).trans ?_; (first | (rfl) | (omega))) (fun k241_ => by refine (eA_neT hI65.1 ka_233 k241_ (by first | decide | omega) (by omega)).trans ?_; exact (Decidable.em (i = (6 * v59.toInt + 47))).elim (fun k242_ => by refine (eA_eqT hI62.1 ka_233 k242_ (by first | decide | omega) (by first | decide | omega)).trans ?_; (first | (rfl) | (omega))) (fun k242_ => by refine (eA_neT hI62.1 ka_233 k242_ (by first | decide | omega) (by omega)).trans ?_; exact (Decidable.em (i = (6 * v59.toInt + 46))).elim (fun k243_ => by refine (eA_eqT hI0.1 ka_233 k243_ (by first | decide | omega) (by first | decide | omega)).trans ?_; (first | (rfl) | (omega))) (fun k243_ => by refine (eA_neT hI0.1 ka_233 k243_ (by first | decide | omega) (by omega)).trans ?_; (first | rfl | exact eA_ix (by omega) | omega))))))))) (fun k236_ => by refine Eq.trans ?_ (if_neg k236_).symm; exact (Decidable.em (i = 46 + 6 * (eA g0 233 1).toInt + 5)).elim (fun k244_ => by refine Eq.trans ?_ (if_pos k244_).symm; exact (Decidable.em (i = 1)).elim (fun k245_ => by refine (eA_eqT hI80.1 ka_233 k245_ (by first | decide | omega) (by first | decide | omega)).trans ?_; (first | (rfl) | (omega))) (fun k245_ => by refine (eA_neT hI80.1 ka_233 k245_ (by first | decide | omega) (by omega)).trans ?_; exact (Decidable.em (i = (6 * v59.toInt + 51))).elim (fun k246_ => by refine (eA_eqT hI77.1 ka_233 k246_ (by first | decide | omega) (by first | decide | omega)).trans ?_; (first | (rfl) | (omega))) (fun k246_ => by refine (eA_neT hI77.1 ka_233 k246_ (by first | decide | omega) (by omega)).trans ?_; exact (Decidable.em (i = (6 * v59.toInt + 50))).elim (fun k247_ => by refine (eA_eqT hI74.1 ka_233 k247_ (by first | decide | omega) (by first | decide | omega)).trans ?_; (first | (rfl) | (omega))) (fun k247_ => by refine (eA_neT hI74.1 ka_233 k247_ (by first | decide | omega) (by omega)).trans ?_; exact (Decidable.em (i = (6 * v59.toInt + 49))).elim (fun k248_ => by refine (eA_eqT hI70.1 ka_233 k248_ (by first | decide | omega) (by first | decide | omega)).trans ?_; (first | (rfl) | (omega))) (fun k248_ => by refine (eA_neT hI70.1 ka_233 k248_ (by first | decide | omega) (by omega)).trans ?_; exact (Decidable.em (i = (6 * v59.toInt + 48))).elim (fun k249_ => by refine (eA_eqT hI65.1 ka_233 k249_ (by first | decide | omega) (by first | decide | omega)).trans ?_; (first | (rfl) | (omega))) (fun k249_ => by refine (eA_neT hI65.1 ka_233 k249_ (by first | decide | omega) (by omega)).trans ?_; exact (Decidable.em (i = (6 * v59.toInt + 47))).elim (fun k250_ => by refine (eA_eqT hI62.1 ka_233 k250_ (by first | decide | omega) (by first | decide | omega)).trans ?_; (first | (rfl) | (omega))) (fun k250_ => by refine (eA_neT hI62.1 ka_233 k250_ (by first | decide | omega) (by omega)).trans ?_; exact (Decidable.em (i = (6 * v59.toInt + 46))).elim (fun k251_ => by refine (eA_eqT hI0.1 ka_233 k251_ (by first | decide | omega) (by first | decide | omega)).trans ?_; (first | (rfl) | (omega))) (fun k251_ => by refine (eA_neT hI0.1 ka_233 k251_ (by first | decide | omega) (by omega)).trans ?_; (first | rfl | exact eA_ix (by omega) | omega))))))))) (fun k244_ => by refine Eq.trans ?_ (if_neg k244_).symm; exact (Decidable.em (i = 1)).elim (fun k252_ => by refine (eA_eqT hI80.1 ka_233 k252_ (by first | decide | omega) (by first | decide | omega)).trans ?_; (first | (rfl) | (omega))) (fun k252_ => by refine (eA_neT hI80.1 ka_233 k252_ (by first | decide | omega) (by omega)).trans ?_; exact (Decidable.em (i = (6 * v59.toInt + 51))).elim (fun k253_ => by refine (eA_eqT hI77.1 ka_233 k253_ (by first | decide | omega) (by first | decide | omega)).trans ?_; (first | (rfl) | (omega))) (fun k253_ => by refine (eA_neT hI77.1 ka_233 k253_ (by first | decide | omega) (by omega)).trans ?_; exact (Decidable.em (i = (6 * v59.toInt + 50))).elim (fun k254_ => by refine (eA_eqT hI74.1 ka_233 k254_ (by first | decide | omega) (by first | decide | omega)).trans ?_; (first | (rfl) | (omega))) (fun k254_ => by refine (eA_neT hI74.1 ka_233 k254_ (by first | decide | omega) (by omega)).trans ?_; exact (Decidable.em (i = (6 * v59.toInt + 49))).elim (fun k255_ => by refine (eA_eqT hI70.1 ka_233 k255_ (by first | decide | omega) (by first | decide | omega)).trans ?_; (first | (rfl) | (omega))) (fun k255_ => by refine (eA_neT hI70.1 ka_233 k255_ (by first | decide | omega) (by omega)).trans ?_; exact (Decidable.em (i = (6 * v59.toInt + 48))).elim (fun k256_ => by refine (eA_eqT hI65.1 ka_233 k256_ (by first | decide | omega) (by first | decide | omega)).trans ?_; (first | (rfl) | (omega))) (fun k256_ => by refine (eA_neT hI65.1 ka_233 k256_ (by first | decide | omega) (by omega)).trans ?_; exact (Decidable.em (i = (6 * v59.toInt + 47))).elim (fun k257_ => by refine (eA_eqT hI62.1 ka_233 k257_ (by first | decide | omega) (by first | decide | omega)).trans ?_; (first | (rfl) | (omega))) (fun k257_ => by refine (eA_neT hI62.1 ka_233 k257_ (by first | decide | omega) (by omega)).trans ?_; exact (Decidable.em (i = (6 * v59.toInt + 46))).elim (fun k258_ => by refine (eA_eqT hI0.1 ka_233 k258_ (by first | decide | omega) (by first | decide | omega)).trans ?_; (first | (rfl) | (omega))) (fun k258_ => by refine (eA_neT hI0.1 ka_233 k258_ (by first | decide | omega) (by omega)).trans ?_; (first | rfl | exact eA_ix (by omega) | omega)))))))))))))))⟩⟩

def F_X11_load_231 : List (Nat × Nat) := [(231, 0), (231, 1)]
def A_X11_load_231 : List Nat := [232, 233]
set_option maxRecDepth 100000 in
set_option maxHeartbeats 4000000 in
theorem T_X11_load_231 (d : Nat) {N : Nat} {g0 : List en_E} (hI0 : HI g0) (a1 : Int32) (a2 : Int32) (a3 : Int32) (a4 : Int32) (a5 : Int32) (a6 : Int32) : Ev (d + 3) 178 [.ref 231, .int a1, .int a2, .int a3, .int a4, .int a5, .int a6] (g0, N) (fun w h' => ∃ g', h' = (g', N) ∧ HI g' ∧ Fr F_X11_load_231 A_X11_load_231 g0 g' ∧ ∃ r : Int32, w = some (.int r) ∧ ((-5) ≤ r.toInt ∧ r.toInt ≤ 7) ∧ (((¬ (1 ≤ a1.toInt ∧ a1.toInt ≤ 9 ∧ 0 ≤ a4.toInt ∧ a4.toInt ≤ 99 ∧ 0 ≤ a5.toInt ∧ a5.toInt ≤ 9 ∧ 0 ≤ a6.toInt ∧ a6.toInt ≤ 9999) → r.toInt = -1 ∧ (eA g' 233 1).toInt = (eA g0 233 1).toInt) ∧ ((1 ≤ a1.toInt ∧ a1.toInt ≤ 9 ∧ 0 ≤ a4.toInt ∧ a4.toInt ≤ 99 ∧ 0 ≤ a5.toInt ∧ a5.toInt ≤ 9 ∧ 0 ≤ a6.toInt ∧ a6.toInt ≤ 9999) ∧ ¬ (0 ≤ a2.toInt ∧ a2.toInt < (eA g0 233 0).toInt ∧ 0 ≤ a3.toInt ∧ a3.toInt < (eA g0 233 0).toInt) → r.toInt = -2 ∧ (eA g' 233 1).toInt = (eA g0 233 1).toInt) ∧ ((1 ≤ a1.toInt ∧ a1.toInt ≤ 9 ∧ 0 ≤ a4.toInt ∧ a4.toInt ≤ 99 ∧ 0 ≤ a5.toInt ∧ a5.toInt ≤ 9 ∧ 0 ≤ a6.toInt ∧ a6.toInt ≤ 9999) ∧ (0 ≤ a2.toInt ∧ a2.toInt < (eA g0 233 0).toInt ∧ 0 ≤ a3.toInt ∧ a3.toInt < (eA g0 233 0).toInt) ∧ 8 ≤ (eA g0 233 1).toInt → r.toInt = -5 ∧ (eA g' 233 1).toInt = (eA g0 233 1).toInt) ∧ ((1 ≤ a1.toInt ∧ a1.toInt ≤ 9 ∧ 0 ≤ a4.toInt ∧ a4.toInt ≤ 99 ∧ 0 ≤ a5.toInt ∧ a5.toInt ≤ 9 ∧ 0 ≤ a6.toInt ∧ a6.toInt ≤ 9999) ∧ (0 ≤ a2.toInt ∧ a2.toInt < (eA g0 233 0).toInt ∧ 0 ≤ a3.toInt ∧ a3.toInt < (eA g0 233 0).toInt) ∧ (eA g0 233 1).toInt < 8 → r.toInt = (eA g0 233 1).toInt ∧ (eA g' 233 1).toInt = (eA g0 233 1).toInt + 1) ∧ (eA g' 233 0).toInt = (eA g0 233 0).toInt ∧ (eA g' 233 4).toInt = (eA g0 233 4).toInt ∧ (eA g' 233 5).toInt = (eA g0 233 5).toInt ∧ (eA g' 233 6).toInt = (eA g0 233 6).toInt) ∧ (∀ i : Int, 10 ≤ i → i < 46 → (eA g' 233 (i)).toInt = (eA g0 233 (i)).toInt) ∧ (∀ i : Int, 94 ≤ i → i < 110 → (eA g' 233 (i)).toInt = (eA g0 233 (i)).toInt) ∧ (∀ i : Int, 46 ≤ i → i < 94 → (eA g' 233 (i)).toInt = if ((1 ≤ a1.toInt ∧ a1.toInt ≤ 9 ∧ 0 ≤ a4.toInt ∧ a4.toInt ≤ 99 ∧ 0 ≤ a5.toInt ∧ a5.toInt ≤ 9 ∧ 0 ≤ a6.toInt ∧ a6.toInt ≤ 9999) ∧ (0 ≤ a2.toInt ∧ a2.toInt < (eA g0 233 0).toInt ∧ 0 ≤ a3.toInt ∧ a3.toInt < (eA g0 233 0).toInt) ∧ (eA g0 233 1).toInt < 8) ∧ i = 46 + 6 * (eA g0 233 1).toInt + 0 then a1.toInt else if ((1 ≤ a1.toInt ∧ a1.toInt ≤ 9 ∧ 0 ≤ a4.toInt ∧ a4.toInt ≤ 99 ∧ 0 ≤ a5.toInt ∧ a5.toInt ≤ 9 ∧ 0 ≤ a6.toInt ∧ a6.toInt ≤ 9999) ∧ (0 ≤ a2.toInt ∧ a2.toInt < (eA g0 233 0).toInt ∧ 0 ≤ a3.toInt ∧ a3.toInt < (eA g0 233 0).toInt) ∧ (eA g0 233 1).toInt < 8) ∧ i = 46 + 6 * (eA g0 233 1).toInt + 1 then a2.toInt else if ((1 ≤ a1.toInt ∧ a1.toInt ≤ 9 ∧ 0 ≤ a4.toInt ∧ a4.toInt ≤ 99 ∧ 0 ≤ a5.toInt ∧ a5.toInt ≤ 9 ∧ 0 ≤ a6.toInt ∧ a6.toInt ≤ 9999) ∧ (0 ≤ a2.toInt ∧ a2.toInt < (eA g0 233 0).toInt ∧ 0 ≤ a3.toInt ∧ a3.toInt < (eA g0 233 0).toInt) ∧ (eA g0 233 1).toInt < 8) ∧ i = 46 + 6 * (eA g0 233 1).toInt + 2 then a3.toInt else if ((1 ≤ a1.toInt ∧ a1.toInt ≤ 9 ∧ 0 ≤ a4.toInt ∧ a4.toInt ≤ 99 ∧ 0 ≤ a5.toInt ∧ a5.toInt ≤ 9 ∧ 0 ≤ a6.toInt ∧ a6.toInt ≤ 9999) ∧ (0 ≤ a2.toInt ∧ a2.toInt < (eA g0 233 0).toInt ∧ 0 ≤ a3.toInt ∧ a3.toInt < (eA g0 233 0).toInt) ∧ (eA g0 233 1).toInt < 8) ∧ i = 46 + 6 * (eA g0 233 1).toInt + 3 then a4.toInt else if ((1 ≤ a1.toInt ∧ a1.toInt ≤ 9 ∧ 0 ≤ a4.toInt ∧ a4.toInt ≤ 99 ∧ 0 ≤ a5.toInt ∧ a5.toInt ≤ 9 ∧ 0 ≤ a6.toInt ∧ a6.toInt ≤ 9999) ∧ (0 ≤ a2.toInt ∧ a2.toInt < (eA g0 233 0).toInt ∧ 0 ≤ a3.toInt ∧ a3.toInt < (eA g0 233 0).toInt) ∧ (eA g0 233 1).toInt < 8) ∧ i = 46 + 6 * (eA g0 233 1).toInt + 4 then a5.toInt else if ((1 ≤ a1.toInt ∧ a1.toInt ≤ 9 ∧ 0 ≤ a4.toInt ∧ a4.toInt ≤ 99 ∧ 0 ≤ a5.toInt ∧ a5.toInt ≤ 9 ∧ 0 ≤ a6.toInt ∧ a6.toInt ≤ 9999) ∧ (0 ≤ a2.toInt ∧ a2.toInt < (eA g0 233 0).toInt ∧ 0 ≤ a3.toInt ∧ a3.toInt < (eA g0 233 0).toInt) ∧ (eA g0 233 1).toInt < 8) ∧ i = 46 + 6 * (eA g0 233 1).toInt + 5 then a6.toInt else (eA g0 233 (i)).toInt))) := by
  have hF0 : Fr F_X11_load_231 A_X11_load_231 g0 g0 := Fr.rf
  refine Ev.mk rfl rfl ⟨Nat.le_of_ble_eq_true rfl, Or.inr (q_rc hI0.1 kx_231 rfl)⟩ ?_
  show At _ none _ _ (0, [(0, .ref 231), (1, .int a1), (2, .int a2), (3, .int a3), (4, .int a4), (5, .int a5), (6, .int a6)], [], (_, _)) _
  refine At.enter rfl ?_
  refine r_aload_n rfl ?_
  refine r_iconst 0 rfl ?_
  refine q_putI (Sh.int hI0.1 kx_231 rfl) rfl ?_
  have hI281 := HI.wI0 hI0 kx_231 rfl (p := 231) (b := 0) (v := 0) rfl
  have hF282 := Fr.wI (p := 231) (b := 0) (v := 0) hF0 rfl
  refine r_iload_n rfl ?_
  refine r_iload rfl ?_
  refine r_iload rfl ?_
  refine r_iload rfl ?_
  refine q_inlS 15 rfl [.int a1, .int a4, .int a5, .int a6] [] (Nat.le_of_ble_eq_true rfl) rfl ?_
  refine Ev.mk rfl rfl ⟨Nat.le_of_ble_eq_true rfl, Or.inl rfl⟩ ?_
  show At _ none _ _ (0, [(0, .int a1), (1, .int a4), (2, .int a5), (3, .int a6)], [], (_, _)) _
  refine At.enter rfl ?_
  refine r_iload_n rfl ?_
  refine q_i2l (fun v283 hv283 => ?_)
  refine r_lconst 1 rfl ?_
  refine r_ldc2 9 rfl ?_
  refine q_inlS 9 rfl [.long v283, .long 1, .long 9] [] (Nat.le_of_ble_eq_true rfl) rfl ?_
  refine Ev.mk rfl rfl ⟨Nat.le_of_ble_eq_true rfl, Or.inl rfl⟩ ?_
  show At _ none _ _ (0, [(0, .long v283), (2, .long 1), (4, .long 9)], [], (_, _)) _
  refine At.enter rfl ?_
  refine r_lload_n rfl ?_
  refine r_lload_n rfl ?_
  refine r_lcmp _ rfl ?_
  refine r_ifs 6 rfl (fun c284 => ?_) (fun c284 => ?_)
  · have c284_ : v283.toInt < 1 := en_j_lt_t c284
    refine At.enter rfl ?_
    refine r_iconst 0 rfl ?_
    refine Ar.fall 18 rfl ?_
    refine At.enter rfl ?_
    refine q_iretz (by decide) ?_
    refine At.enter rfl ?_
    refine r_ift (by decide) ?_
    refine At.enter rfl ?_
    refine r_iconst 0 rfl ?_
    refine Ar.fall 53 rfl ?_
    refine At.enter rfl ?_
    refine q_iretz (by decide) ?_
    refine At.enter rfl ?_
    refine r_iff 18 rfl (by decide) ?_
    refine At.enter rfl ?_
    refine r_aload_n rfl ?_
    refine r_iconst (-1) rfl ?_
    refine r_callV 23 rfl [.ref 231, .int (-1)] [] (Nat.le_of_ble_eq_true rfl) rfl (T_X11_tell_231 _ hI281 (-1) (by decide)) ?_
    rintro _ _ ⟨g285, rfl, hI286, hF287, v288, rfl, hr289⟩
    refine At.sti ?_
    have hF290 := Fr.tr hF282 hF287 rfl rfl
    have zv291 : ((-1) : Int32).toInt = (-1) := rfl
    refine At.enter rfl ?_
    refine r_ireti ?_
    obtain ⟨v292, hv292⟩ : ∃ v, eA g0 233 1 = v := ⟨_, rfl⟩
    have tv292 := congrArg Int32.toInt hv292
    have wv292 := HI.t1 hI0
    rw [hv292] at wv292
    have tv292 := congrArg Int32.toInt hv292
    have x293 := HI.eqA hI286 (p := 233) (j := 1) ((((eA_c (hF287.2.1 233 (by decide))).trans (eA_c gA_sI)).trans hv292))
    obtain ⟨v294, hv294⟩ : ∃ v, eA g0 233 0 = v := ⟨_, rfl⟩
    have tv294 := congrArg Int32.toInt hv294
    have wv294 := HI.t0 hI0
    rw [hv294] at wv294
    have tv294 := congrArg Int32.toInt hv294
    have x295 := HI.eqA hI286 (p := 233) (j := 0) ((((eA_c (hF287.2.1 233 (by decide))).trans (eA_c gA_sI)).trans hv294))
    obtain ⟨v296, hv296⟩ : ∃ v, eA g0 233 4 = v := ⟨_, rfl⟩
    have wv296 := HI.t4 hI0
    rw [hv296] at wv296
    have tv296 := congrArg Int32.toInt hv296
    have x297 := HI.eqA hI286 (p := 233) (j := 4) ((((eA_c (hF287.2.1 233 (by decide))).trans (eA_c gA_sI)).trans hv296))
    obtain ⟨v298, hv298⟩ : ∃ v, eA g0 233 5 = v := ⟨_, rfl⟩
    have wv298 := HI.t5 hI0
    rw [hv298] at wv298
    have tv298 := congrArg Int32.toInt hv298
    have x299 := HI.eqA hI286 (p := 233) (j := 5) ((((eA_c (hF287.2.1 233 (by decide))).trans (eA_c gA_sI)).trans hv298))
    obtain ⟨v300, hv300⟩ : ∃ v, eA g0 233 6 = v := ⟨_, rfl⟩
    have wv300 := HI.t6 hI0
    rw [hv300] at wv300
    have tv300 := congrArg Int32.toInt hv300
    have x301 := HI.eqA hI286 (p := 233) (j := 6) ((((eA_c (hF287.2.1 233 (by decide))).trans (eA_c gA_sI)).trans hv300))
    have x302 := HI.eqA hI0 (p := 233) (j := 1) (hv292)
    have x303 := HI.eqA hI0 (p := 233) (j := 0) (hv294)
    have x304 := HI.eqA hI0 (p := 233) (j := 0) (hv294)
    have x305 := HI.eqA hI0 (p := 233) (j := 4) (hv296)
    have x306 := HI.eqA hI0 (p := 233) (j := 5) (hv298)
    have x307 := HI.eqA hI0 (p := 233) (j := 6) (hv300)
    exact ⟨_, rfl, hI286, hF290, _, rfl, by omega, ⟨⟨by omega, by omega, by omega, by omega, by omega, by omega, by omega, by omega⟩, (by intro i i0 i1; refine (eA_ti (((hF287.2.1 233 (by decide)).trans (gA_sI)))).trans ?_; (first | rfl | exact eA_ix (by omega) | omega)), (by intro i i0 i1; refine (eA_ti (((hF287.2.1 233 (by decide)).trans (gA_sI)))).trans ?_; (first | rfl | exact eA_ix (by omega) | omega)), (by have kn : ¬ ((1 ≤ a1.toInt ∧ a1.toInt ≤ 9 ∧ 0 ≤ a4.toInt ∧ a4.toInt ≤ 99 ∧ 0 ≤ a5.toInt ∧ a5.toInt ≤ 9 ∧ 0 ≤ a6.toInt ∧ a6.toInt ≤ 9999) ∧ (0 ≤ a2.toInt ∧ a2.toInt < (eA g0 233 0).toInt ∧ 0 ≤ a3.toInt ∧ a3.toInt < (eA g0 233 0).toInt) ∧ (eA g0 233 1).toInt < 8) := (by omega); intro i i0 i1; refine Eq.trans ?_ (if_neg (show ¬ (((1 ≤ a1.toInt ∧ a1.toInt ≤ 9 ∧ 0 ≤ a4.toInt ∧ a4.toInt ≤ 99 ∧ 0 ≤ a5.toInt ∧ a5.toInt ≤ 9 ∧ 0 ≤ a6.toInt ∧ a6.toInt ≤ 9999) ∧ (0 ≤ a2.toInt ∧ a2.toInt < (eA g0 233 0).toInt ∧ 0 ≤ a3.toInt ∧ a3.toInt < (eA g0 233 0).toInt) ∧ (eA g0 233 1).toInt < 8) ∧ i = 46 + 6 * (eA g0 233 1).toInt + 0) from fun z => kn z.1)).symm; refine Eq.trans ?_ (if_neg (show ¬ (((1 ≤ a1.toInt ∧ a1.toInt ≤ 9 ∧ 0 ≤ a4.toInt ∧ a4.toInt ≤ 99 ∧ 0 ≤ a5.toInt ∧ a5.toInt ≤ 9 ∧ 0 ≤ a6.toInt ∧ a6.toInt ≤ 9999) ∧ (0 ≤ a2.toInt ∧ a2.toInt < (eA g0 233 0).toInt ∧ 0 ≤ a3.toInt ∧ a3.toInt < (eA g0 233 0).toInt) ∧ (eA g0 233 1).toInt < 8) ∧ i = 46 + 6 * (eA g0 233 1).toInt + 1) from fun z => kn z.1)).symm; refine Eq.trans ?_ (if_neg (show ¬ (((1 ≤ a1.toInt ∧ a1.toInt ≤ 9 ∧ 0 ≤ a4.toInt ∧ a4.toInt ≤ 99 ∧ 0 ≤ a5.toInt ∧ a5.toInt ≤ 9 ∧ 0 ≤ a6.toInt ∧ a6.toInt ≤ 9999) ∧ (0 ≤ a2.toInt ∧ a2.toInt < (eA g0 233 0).toInt ∧ 0 ≤ a3.toInt ∧ a3.toInt < (eA g0 233 0).toInt) ∧ (eA g0 233 1).toInt < 8) ∧ i = 46 + 6 * (eA g0 233 1).toInt + 2) from fun z => kn z.1)).symm; refine Eq.trans ?_ (if_neg (show ¬ (((1 ≤ a1.toInt ∧ a1.toInt ≤ 9 ∧ 0 ≤ a4.toInt ∧ a4.toInt ≤ 99 ∧ 0 ≤ a5.toInt ∧ a5.toInt ≤ 9 ∧ 0 ≤ a6.toInt ∧ a6.toInt ≤ 9999) ∧ (0 ≤ a2.toInt ∧ a2.toInt < (eA g0 233 0).toInt ∧ 0 ≤ a3.toInt ∧ a3.toInt < (eA g0 233 0).toInt) ∧ (eA g0 233 1).toInt < 8) ∧ i = 46 + 6 * (eA g0 233 1).toInt + 3) from fun z => kn z.1)).symm; refine Eq.trans ?_ (if_neg (show ¬ (((1 ≤ a1.toInt ∧ a1.toInt ≤ 9 ∧ 0 ≤ a4.toInt ∧ a4.toInt ≤ 99 ∧ 0 ≤ a5.toInt ∧ a5.toInt ≤ 9 ∧ 0 ≤ a6.toInt ∧ a6.toInt ≤ 9999) ∧ (0 ≤ a2.toInt ∧ a2.toInt < (eA g0 233 0).toInt ∧ 0 ≤ a3.toInt ∧ a3.toInt < (eA g0 233 0).toInt) ∧ (eA g0 233 1).toInt < 8) ∧ i = 46 + 6 * (eA g0 233 1).toInt + 4) from fun z => kn z.1)).symm; refine Eq.trans ?_ (if_neg (show ¬ (((1 ≤ a1.toInt ∧ a1.toInt ≤ 9 ∧ 0 ≤ a4.toInt ∧ a4.toInt ≤ 99 ∧ 0 ≤ a5.toInt ∧ a5.toInt ≤ 9 ∧ 0 ≤ a6.toInt ∧ a6.toInt ≤ 9999) ∧ (0 ≤ a2.toInt ∧ a2.toInt < (eA g0 233 0).toInt ∧ 0 ≤ a3.toInt ∧ a3.toInt < (eA g0 233 0).toInt) ∧ (eA g0 233 1).toInt < 8) ∧ i = 46 + 6 * (eA g0 233 1).toInt + 5) from fun z => kn z.1)).symm; refine (eA_ti (((hF287.2.1 233 (by decide)).trans (gA_sI)))).trans ?_; (first | rfl | exact eA_ix (by omega) | omega))⟩⟩
  · have c284_ : v283.toInt ≥ 1 := en_j_lt_f c284
    refine At.enter rfl ?_
    refine r_lload_n rfl ?_
    refine r_lload rfl ?_
    refine r_lcmp _ rfl ?_
    refine r_ifs 13 rfl (fun c308 => ?_) (fun c308 => ?_)
    · have c308_ : v283.toInt > 9 := en_j_gt_t c308
      refine At.enter rfl ?_
      refine r_iconst 0 rfl ?_
      refine Ar.fall 18 rfl ?_
      refine At.enter rfl ?_
      refine q_iretz (by decide) ?_
      refine At.enter rfl ?_
      refine r_ift (by decide) ?_
      refine At.enter rfl ?_
      refine r_iconst 0 rfl ?_
      refine Ar.fall 53 rfl ?_
      refine At.enter rfl ?_
      refine q_iretz (by decide) ?_
      refine At.enter rfl ?_
      refine r_iff 18 rfl (by decide) ?_
      refine At.enter rfl ?_
      refine r_aload_n rfl ?_
      refine r_iconst (-1) rfl ?_
      refine r_callV 23 rfl [.ref 231, .int (-1)] [] (Nat.le_of_ble_eq_true rfl) rfl (T_X11_tell_231 _ hI281 (-1) (by decide)) ?_
      rintro _ _ ⟨g309, rfl, hI310, hF311, v312, rfl, hr313⟩
      refine At.sti ?_
      have hF314 := Fr.tr hF282 hF311 rfl rfl
      have zv315 : ((-1) : Int32).toInt = (-1) := rfl
      refine At.enter rfl ?_
      refine r_ireti ?_
      obtain ⟨v316, hv316⟩ : ∃ v, eA g0 233 1 = v := ⟨_, rfl⟩
      have tv316 := congrArg Int32.toInt hv316
      have wv316 := HI.t1 hI0
      rw [hv316] at wv316
      have tv316 := congrArg Int32.toInt hv316
      have x317 := HI.eqA hI310 (p := 233) (j := 1) ((((eA_c (hF311.2.1 233 (by decide))).trans (eA_c gA_sI)).trans hv316))
      obtain ⟨v318, hv318⟩ : ∃ v, eA g0 233 0 = v := ⟨_, rfl⟩
      have tv318 := congrArg Int32.toInt hv318
      have wv318 := HI.t0 hI0
      rw [hv318] at wv318
      have tv318 := congrArg Int32.toInt hv318
      have x319 := HI.eqA hI310 (p := 233) (j := 0) ((((eA_c (hF311.2.1 233 (by decide))).trans (eA_c gA_sI)).trans hv318))
      obtain ⟨v320, hv320⟩ : ∃ v, eA g0 233 4 = v := ⟨_, rfl⟩
      have wv320 := HI.t4 hI0
      rw [hv320] at wv320
      have tv320 := congrArg Int32.toInt hv320
      have x321 := HI.eqA hI310 (p := 233) (j := 4) ((((eA_c (hF311.2.1 233 (by decide))).trans (eA_c gA_sI)).trans hv320))
      obtain ⟨v322, hv322⟩ : ∃ v, eA g0 233 5 = v := ⟨_, rfl⟩
      have wv322 := HI.t5 hI0
      rw [hv322] at wv322
      have tv322 := congrArg Int32.toInt hv322
      have x323 := HI.eqA hI310 (p := 233) (j := 5) ((((eA_c (hF311.2.1 233 (by decide))).trans (eA_c gA_sI)).trans hv322))
      obtain ⟨v324, hv324⟩ : ∃ v, eA g0 233 6 = v := ⟨_, rfl⟩
      have wv324 := HI.t6 hI0
      rw [hv324] at wv324
      have tv324 := congrArg Int32.toInt hv324
      have x325 := HI.eqA hI310 (p := 233) (j := 6) ((((eA_c (hF311.2.1 233 (by decide))).trans (eA_c gA_sI)).trans hv324))
      have x326 := HI.eqA hI0 (p := 233) (j := 1) (hv316)
      have x327 := HI.eqA hI0 (p := 233) (j := 0) (hv318)
      have x328 := HI.eqA hI0 (p := 233) (j := 0) (hv318)
      have x329 := HI.eqA hI0 (p := 233) (j := 4) (hv320)
      have x330 := HI.eqA hI0 (p := 233) (j := 5) (hv322)
      have x331 := HI.eqA hI0 (p := 233) (j := 6) (hv324)
      exact ⟨_, rfl, hI310, hF314, _, rfl, by omega, ⟨⟨by omega, by omega, by omega, by omega, by omega, by omega, by omega, by omega⟩, (by intro i i0 i1; refine (eA_ti (((hF311.2.1 233 (by decide)).trans (gA_sI)))).trans ?_; (first | rfl | exact eA_ix (by omega) | omega)), (by intro i i0 i1; refine (eA_ti (((hF311.2.1 233 (by decide)).trans (gA_sI)))).trans ?_; (first | rfl | exact eA_ix (by omega) | omega)), (by have kn : ¬ ((1 ≤ a1.toInt ∧ a1.toInt ≤ 9 ∧ 0 ≤ a4.toInt ∧ a4.toInt ≤ 99 ∧ 0 ≤ a5.toInt ∧ a5.toInt ≤ 9 ∧ 0 ≤ a6.toInt ∧ a6.toInt ≤ 9999) ∧ (0 ≤ a2.toInt ∧ a2.toInt < (eA g0 233 0).toInt ∧ 0 ≤ a3.toInt ∧ a3.toInt < (eA g0 233 0).toInt) ∧ (eA g0 233 1).toInt < 8) := (by omega); intro i i0 i1; refine Eq.trans ?_ (if_neg (show ¬ (((1 ≤ a1.toInt ∧ a1.toInt ≤ 9 ∧ 0 ≤ a4.toInt ∧ a4.toInt ≤ 99 ∧ 0 ≤ a5.toInt ∧ a5.toInt ≤ 9 ∧ 0 ≤ a6.toInt ∧ a6.toInt ≤ 9999) ∧ (0 ≤ a2.toInt ∧ a2.toInt < (eA g0 233 0).toInt ∧ 0 ≤ a3.toInt ∧ a3.toInt < (eA g0 233 0).toInt) ∧ (eA g0 233 1).toInt < 8) ∧ i = 46 + 6 * (eA g0 233 1).toInt + 0) from fun z => kn z.1)).symm; refine Eq.trans ?_ (if_neg (show ¬ (((1 ≤ a1.toInt ∧ a1.toInt ≤ 9 ∧ 0 ≤ a4.toInt ∧ a4.toInt ≤ 99 ∧ 0 ≤ a5.toInt ∧ a5.toInt ≤ 9 ∧ 0 ≤ a6.toInt ∧ a6.toInt ≤ 9999) ∧ (0 ≤ a2.toInt ∧ a2.toInt < (eA g0 233 0).toInt ∧ 0 ≤ a3.toInt ∧ a3.toInt < (eA g0 233 0).toInt) ∧ (eA g0 233 1).toInt < 8) ∧ i = 46 + 6 * (eA g0 233 1).toInt + 1) from fun z => kn z.1)).symm; refine Eq.trans ?_ (if_neg (show ¬ (((1 ≤ a1.toInt ∧ a1.toInt ≤ 9 ∧ 0 ≤ a4.toInt ∧ a4.toInt ≤ 99 ∧ 0 ≤ a5.toInt ∧ a5.toInt ≤ 9 ∧ 0 ≤ a6.toInt ∧ a6.toInt ≤ 9999) ∧ (0 ≤ a2.toInt ∧ a2.toInt < (eA g0 233 0).toInt ∧ 0 ≤ a3.toInt ∧ a3.toInt < (eA g0 233 0).toInt) ∧ (eA g0 233 1).toInt < 8) ∧ i = 46 + 6 * (eA g0 233 1).toInt + 2) from fun z => kn z.1)).symm; refine Eq.trans ?_ (if_neg (show ¬ (((1 ≤ a1.toInt ∧ a1.toInt ≤ 9 ∧ 0 ≤ a4.toInt ∧ a4.toInt ≤ 99 ∧ 0 ≤ a5.toInt ∧ a5.toInt ≤ 9 ∧ 0 ≤ a6.toInt ∧ a6.toInt ≤ 9999) ∧ (0 ≤ a2.toInt ∧ a2.toInt < (eA g0 233 0).toInt ∧ 0 ≤ a3.toInt ∧ a3.toInt < (eA g0 233 0).toInt) ∧ (eA g0 233 1).toInt < 8) ∧ i = 46 + 6 * (eA g0 233 1).toInt + 3) from fun z => kn z.1)).symm; refine Eq.trans ?_ (if_neg (show ¬ (((1 ≤ a1.toInt ∧ a1.toInt ≤ 9 ∧ 0 ≤ a4.toInt ∧ a4.toInt ≤ 99 ∧ 0 ≤ a5.toInt ∧ a5.toInt ≤ 9 ∧ 0 ≤ a6.toInt ∧ a6.toInt ≤ 9999) ∧ (0 ≤ a2.toInt ∧ a2.toInt < (eA g0 233 0).toInt ∧ 0 ≤ a3.toInt ∧ a3.toInt < (eA g0 233 0).toInt) ∧ (eA g0 233 1).toInt < 8) ∧ i = 46 + 6 * (eA g0 233 1).toInt + 4) from fun z => kn z.1)).symm; refine Eq.trans ?_ (if_neg (show ¬ (((1 ≤ a1.toInt ∧ a1.toInt ≤ 9 ∧ 0 ≤ a4.toInt ∧ a4.toInt ≤ 99 ∧ 0 ≤ a5.toInt ∧ a5.toInt ≤ 9 ∧ 0 ≤ a6.toInt ∧ a6.toInt ≤ 9999) ∧ (0 ≤ a2.toInt ∧ a2.toInt < (eA g0 233 0).toInt ∧ 0 ≤ a3.toInt ∧ a3.toInt < (eA g0 233 0).toInt) ∧ (eA g0 233 1).toInt < 8) ∧ i = 46 + 6 * (eA g0 233 1).toInt + 5) from fun z => kn z.1)).symm; refine (eA_ti (((hF311.2.1 233 (by decide)).trans (gA_sI)))).trans ?_; (first | rfl | exact eA_ix (by omega) | omega))⟩⟩
    · have c308_ : v283.toInt ≤ 9 := en_j_gt_f c308
      refine At.enter rfl ?_
      refine r_iconst 1 rfl ?_
      refine r_goto ?_
      refine At.enter rfl ?_
      refine q_iretz (by decide) ?_
      refine At.enter rfl ?_
      refine r_iff 12 rfl (by decide) ?_
      refine At.enter rfl ?_
      refine r_iload_n rfl ?_
      refine q_i2l (fun v332 hv332 => ?_)
      refine r_lconst 0 rfl ?_
      refine r_ldc2 99 rfl ?_
      refine q_inlS 21 rfl [.long v332, .long 0, .long 99] [] (Nat.le_of_ble_eq_true rfl) rfl ?_
      refine Ev.mk rfl rfl ⟨Nat.le_of_ble_eq_true rfl, Or.inl rfl⟩ ?_
      show At _ none _ _ (0, [(0, .long v332), (2, .long 0), (4, .long 99)], [], (_, _)) _
      refine At.enter rfl ?_
      refine r_lload_n rfl ?_
      refine r_lload_n rfl ?_
      refine r_lcmp _ rfl ?_
      refine r_ifs 6 rfl (fun c333 => ?_) (fun c333 => ?_)
      · have c333_ : v332.toInt < 0 := en_j_lt_t c333
        refine At.enter rfl ?_
        refine r_iconst 0 rfl ?_
        refine Ar.fall 18 rfl ?_
        refine At.enter rfl ?_
        refine q_iretz (by decide) ?_
        refine At.enter rfl ?_
        refine r_ift (by decide) ?_
        refine At.enter rfl ?_
        refine r_iconst 0 rfl ?_
        refine Ar.fall 53 rfl ?_
        refine At.enter rfl ?_
        refine q_iretz (by decide) ?_
        refine At.enter rfl ?_
        refine r_iff 18 rfl (by decide) ?_
        refine At.enter rfl ?_
        refine r_aload_n rfl ?_
        refine r_iconst (-1) rfl ?_
        refine r_callV 23 rfl [.ref 231, .int (-1)] [] (Nat.le_of_ble_eq_true rfl) rfl (T_X11_tell_231 _ hI281 (-1) (by decide)) ?_
        rintro _ _ ⟨g334, rfl, hI335, hF336, v337, rfl, hr338⟩
        refine At.sti ?_
        have hF339 := Fr.tr hF282 hF336 rfl rfl
        have zv340 : ((-1) : Int32).toInt = (-1) := rfl
        refine At.enter rfl ?_
        refine r_ireti ?_
        obtain ⟨v341, hv341⟩ : ∃ v, eA g0 233 1 = v := ⟨_, rfl⟩
        have tv341 := congrArg Int32.toInt hv341
        have wv341 := HI.t1 hI0
        rw [hv341] at wv341
        have tv341 := congrArg Int32.toInt hv341
        have x342 := HI.eqA hI335 (p := 233) (j := 1) ((((eA_c (hF336.2.1 233 (by decide))).trans (eA_c gA_sI)).trans hv341))
        obtain ⟨v343, hv343⟩ : ∃ v, eA g0 233 0 = v := ⟨_, rfl⟩
        have tv343 := congrArg Int32.toInt hv343
        have wv343 := HI.t0 hI0
        rw [hv343] at wv343
        have tv343 := congrArg Int32.toInt hv343
        have x344 := HI.eqA hI335 (p := 233) (j := 0) ((((eA_c (hF336.2.1 233 (by decide))).trans (eA_c gA_sI)).trans hv343))
        obtain ⟨v345, hv345⟩ : ∃ v, eA g0 233 4 = v := ⟨_, rfl⟩
        have wv345 := HI.t4 hI0
        rw [hv345] at wv345
        have tv345 := congrArg Int32.toInt hv345
        have x346 := HI.eqA hI335 (p := 233) (j := 4) ((((eA_c (hF336.2.1 233 (by decide))).trans (eA_c gA_sI)).trans hv345))
        obtain ⟨v347, hv347⟩ : ∃ v, eA g0 233 5 = v := ⟨_, rfl⟩
        have wv347 := HI.t5 hI0
        rw [hv347] at wv347
        have tv347 := congrArg Int32.toInt hv347
        have x348 := HI.eqA hI335 (p := 233) (j := 5) ((((eA_c (hF336.2.1 233 (by decide))).trans (eA_c gA_sI)).trans hv347))
        obtain ⟨v349, hv349⟩ : ∃ v, eA g0 233 6 = v := ⟨_, rfl⟩
        have wv349 := HI.t6 hI0
        rw [hv349] at wv349
        have tv349 := congrArg Int32.toInt hv349
        have x350 := HI.eqA hI335 (p := 233) (j := 6) ((((eA_c (hF336.2.1 233 (by decide))).trans (eA_c gA_sI)).trans hv349))
        have x351 := HI.eqA hI0 (p := 233) (j := 1) (hv341)
        have x352 := HI.eqA hI0 (p := 233) (j := 0) (hv343)
        have x353 := HI.eqA hI0 (p := 233) (j := 0) (hv343)
        have x354 := HI.eqA hI0 (p := 233) (j := 4) (hv345)
        have x355 := HI.eqA hI0 (p := 233) (j := 5) (hv347)
        have x356 := HI.eqA hI0 (p := 233) (j := 6) (hv349)
        exact ⟨_, rfl, hI335, hF339, _, rfl, by omega, ⟨⟨by omega, by omega, by omega, by omega, by omega, by omega, by omega, by omega⟩, (by intro i i0 i1; refine (eA_ti (((hF336.2.1 233 (by decide)).trans (gA_sI)))).trans ?_; (first | rfl | exact eA_ix (by omega) | omega)), (by intro i i0 i1; refine (eA_ti (((hF336.2.1 233 (by decide)).trans (gA_sI)))).trans ?_; (first | rfl | exact eA_ix (by omega) | omega)), (by have kn : ¬ ((1 ≤ a1.toInt ∧ a1.toInt ≤ 9 ∧ 0 ≤ a4.toInt ∧ a4.toInt ≤ 99 ∧ 0 ≤ a5.toInt ∧ a5.toInt ≤ 9 ∧ 0 ≤ a6.toInt ∧ a6.toInt ≤ 9999) ∧ (0 ≤ a2.toInt ∧ a2.toInt < (eA g0 233 0).toInt ∧ 0 ≤ a3.toInt ∧ a3.toInt < (eA g0 233 0).toInt) ∧ (eA g0 233 1).toInt < 8) := (by omega); intro i i0 i1; refine Eq.trans ?_ (if_neg (show ¬ (((1 ≤ a1.toInt ∧ a1.toInt ≤ 9 ∧ 0 ≤ a4.toInt ∧ a4.toInt ≤ 99 ∧ 0 ≤ a5.toInt ∧ a5.toInt ≤ 9 ∧ 0 ≤ a6.toInt ∧ a6.toInt ≤ 9999) ∧ (0 ≤ a2.toInt ∧ a2.toInt < (eA g0 233 0).toInt ∧ 0 ≤ a3.toInt ∧ a3.toInt < (eA g0 233 0).toInt) ∧ (eA g0 233 1).toInt < 8) ∧ i = 46 + 6 * (eA g0 233 1).toInt + 0) from fun z => kn z.1)).symm; refine Eq.trans ?_ (if_neg (show ¬ (((1 ≤ a1.toInt ∧ a1.toInt ≤ 9 ∧ 0 ≤ a4.toInt ∧ a4.toInt ≤ 99 ∧ 0 ≤ a5.toInt ∧ a5.toInt ≤ 9 ∧ 0 ≤ a6.toInt ∧ a6.toInt ≤ 9999) ∧ (0 ≤ a2.toInt ∧ a2.toInt < (eA g0 233 0).toInt ∧ 0 ≤ a3.toInt ∧ a3.toInt < (eA g0 233 0).toInt) ∧ (eA g0 233 1).toInt < 8) ∧ i = 46 + 6 * (eA g0 233 1).toInt + 1) from fun z => kn z.1)).symm; refine Eq.trans ?_ (if_neg (show ¬ (((1 ≤ a1.toInt ∧ a1.toInt ≤ 9 ∧ 0 ≤ a4.toInt ∧ a4.toInt ≤ 99 ∧ 0 ≤ a5.toInt ∧ a5.toInt ≤ 9 ∧ 0 ≤ a6.toInt ∧ a6.toInt ≤ 9999) ∧ (0 ≤ a2.toInt ∧ a2.toInt < (eA g0 233 0).toInt ∧ 0 ≤ a3.toInt ∧ a3.toInt < (eA g0 233 0).toInt) ∧ (eA g0 233 1).toInt < 8) ∧ i = 46 + 6 * (eA g0 233 1).toInt + 2) from fun z => kn z.1)).symm; refine Eq.trans ?_ (if_neg (show ¬ (((1 ≤ a1.toInt ∧ a1.toInt ≤ 9 ∧ 0 ≤ a4.toInt ∧ a4.toInt ≤ 99 ∧ 0 ≤ a5.toInt ∧ a5.toInt ≤ 9 ∧ 0 ≤ a6.toInt ∧ a6.toInt ≤ 9999) ∧ (0 ≤ a2.toInt ∧ a2.toInt < (eA g0 233 0).toInt ∧ 0 ≤ a3.toInt ∧ a3.toInt < (eA g0 233 0).toInt) ∧ (eA g0 233 1).toInt < 8) ∧ i = 46 + 6 * (eA g0 233 1).toInt + 3) from fun z => kn z.1)).symm; refine Eq.trans ?_ (if_neg (show ¬ (((1 ≤ a1.toInt ∧ a1.toInt ≤ 9 ∧ 0 ≤ a4.toInt ∧ a4.toInt ≤ 99 ∧ 0 ≤ a5.toInt ∧ a5.toInt ≤ 9 ∧ 0 ≤ a6.toInt ∧ a6.toInt ≤ 9999) ∧ (0 ≤ a2.toInt ∧ a2.toInt < (eA g0 233 0).toInt ∧ 0 ≤ a3.toInt ∧ a3.toInt < (eA g0 233 0).toInt) ∧ (eA g0 233 1).toInt < 8) ∧ i = 46 + 6 * (eA g0 233 1).toInt + 4) from fun z => kn z.1)).symm; refine Eq.trans ?_ (if_neg (show ¬ (((1 ≤ a1.toInt ∧ a1.toInt ≤ 9 ∧ 0 ≤ a4.toInt ∧ a4.toInt ≤ 99 ∧ 0 ≤ a5.toInt ∧ a5.toInt ≤ 9 ∧ 0 ≤ a6.toInt ∧ a6.toInt ≤ 9999) ∧ (0 ≤ a2.toInt ∧ a2.toInt < (eA g0 233 0).toInt ∧ 0 ≤ a3.toInt ∧ a3.toInt < (eA g0 233 0).toInt) ∧ (eA g0 233 1).toInt < 8) ∧ i = 46 + 6 * (eA g0 233 1).toInt + 5) from fun z => kn z.1)).symm; refine (eA_ti (((hF336.2.1 233 (by decide)).trans (gA_sI)))).trans ?_; (first | rfl | exact eA_ix (by omega) | omega))⟩⟩
      · have c333_ : v332.toInt ≥ 0 := en_j_lt_f c333
        refine At.enter rfl ?_
        refine r_lload_n rfl ?_
        refine r_lload rfl ?_
        refine r_lcmp _ rfl ?_
        refine r_ifs 13 rfl (fun c357 => ?_) (fun c357 => ?_)
        · have c357_ : v332.toInt > 99 := en_j_gt_t c357
          refine At.enter rfl ?_
          refine r_iconst 0 rfl ?_
          refine Ar.fall 18 rfl ?_
          refine At.enter rfl ?_
          refine q_iretz (by decide) ?_
          refine At.enter rfl ?_
          refine r_ift (by decide) ?_
          refine At.enter rfl ?_
          refine r_iconst 0 rfl ?_
          refine Ar.fall 53 rfl ?_
          refine At.enter rfl ?_
          refine q_iretz (by decide) ?_
          refine At.enter rfl ?_
          refine r_iff 18 rfl (by decide) ?_
          refine At.enter rfl ?_
          refine r_aload_n rfl ?_
          refine r_iconst (-1) rfl ?_
          refine r_callV 23 rfl [.ref 231, .int (-1)] [] (Nat.le_of_ble_eq_true rfl) rfl (T_X11_tell_231 _ hI281 (-1) (by decide)) ?_
          rintro _ _ ⟨g358, rfl, hI359, hF360, v361, rfl, hr362⟩
          refine At.sti ?_
          have hF363 := Fr.tr hF282 hF360 rfl rfl
          have zv364 : ((-1) : Int32).toInt = (-1) := rfl
          refine At.enter rfl ?_
          refine r_ireti ?_
          obtain ⟨v365, hv365⟩ : ∃ v, eA g0 233 1 = v := ⟨_, rfl⟩
          have tv365 := congrArg Int32.toInt hv365
          have wv365 := HI.t1 hI0
          rw [hv365] at wv365
          have tv365 := congrArg Int32.toInt hv365
          have x366 := HI.eqA hI359 (p := 233) (j := 1) ((((eA_c (hF360.2.1 233 (by decide))).trans (eA_c gA_sI)).trans hv365))
          obtain ⟨v367, hv367⟩ : ∃ v, eA g0 233 0 = v := ⟨_, rfl⟩
          have tv367 := congrArg Int32.toInt hv367
          have wv367 := HI.t0 hI0
          rw [hv367] at wv367
          have tv367 := congrArg Int32.toInt hv367
          have x368 := HI.eqA hI359 (p := 233) (j := 0) ((((eA_c (hF360.2.1 233 (by decide))).trans (eA_c gA_sI)).trans hv367))
          obtain ⟨v369, hv369⟩ : ∃ v, eA g0 233 4 = v := ⟨_, rfl⟩
          have wv369 := HI.t4 hI0
          rw [hv369] at wv369
          have tv369 := congrArg Int32.toInt hv369
          have x370 := HI.eqA hI359 (p := 233) (j := 4) ((((eA_c (hF360.2.1 233 (by decide))).trans (eA_c gA_sI)).trans hv369))
          obtain ⟨v371, hv371⟩ : ∃ v, eA g0 233 5 = v := ⟨_, rfl⟩
          have wv371 := HI.t5 hI0
          rw [hv371] at wv371
          have tv371 := congrArg Int32.toInt hv371
          have x372 := HI.eqA hI359 (p := 233) (j := 5) ((((eA_c (hF360.2.1 233 (by decide))).trans (eA_c gA_sI)).trans hv371))
          obtain ⟨v373, hv373⟩ : ∃ v, eA g0 233 6 = v := ⟨_, rfl⟩
          have wv373 := HI.t6 hI0
          rw [hv373] at wv373
          have tv373 := congrArg Int32.toInt hv373
          have x374 := HI.eqA hI359 (p := 233) (j := 6) ((((eA_c (hF360.2.1 233 (by decide))).trans (eA_c gA_sI)).trans hv373))
          have x375 := HI.eqA hI0 (p := 233) (j := 1) (hv365)
          have x376 := HI.eqA hI0 (p := 233) (j := 0) (hv367)
          have x377 := HI.eqA hI0 (p := 233) (j := 0) (hv367)
          have x378 := HI.eqA hI0 (p := 233) (j := 4) (hv369)
          have x379 := HI.eqA hI0 (p := 233) (j := 5) (hv371)
          have x380 := HI.eqA hI0 (p := 233) (j := 6) (hv373)
          exact ⟨_, rfl, hI359, hF363, _, rfl, by omega, ⟨⟨by omega, by omega, by omega, by omega, by omega, by omega, by omega, by omega⟩, (by intro i i0 i1; refine (eA_ti (((hF360.2.1 233 (by decide)).trans (gA_sI)))).trans ?_; (first | rfl | exact eA_ix (by omega) | omega)), (by intro i i0 i1; refine (eA_ti (((hF360.2.1 233 (by decide)).trans (gA_sI)))).trans ?_; (first | rfl | exact eA_ix (by omega) | omega)), (by have kn : ¬ ((1 ≤ a1.toInt ∧ a1.toInt ≤ 9 ∧ 0 ≤ a4.toInt ∧ a4.toInt ≤ 99 ∧ 0 ≤ a5.toInt ∧ a5.toInt ≤ 9 ∧ 0 ≤ a6.toInt ∧ a6.toInt ≤ 9999) ∧ (0 ≤ a2.toInt ∧ a2.toInt < (eA g0 233 0).toInt ∧ 0 ≤ a3.toInt ∧ a3.toInt < (eA g0 233 0).toInt) ∧ (eA g0 233 1).toInt < 8) := (by omega); intro i i0 i1; refine Eq.trans ?_ (if_neg (show ¬ (((1 ≤ a1.toInt ∧ a1.toInt ≤ 9 ∧ 0 ≤ a4.toInt ∧ a4.toInt ≤ 99 ∧ 0 ≤ a5.toInt ∧ a5.toInt ≤ 9 ∧ 0 ≤ a6.toInt ∧ a6.toInt ≤ 9999) ∧ (0 ≤ a2.toInt ∧ a2.toInt < (eA g0 233 0).toInt ∧ 0 ≤ a3.toInt ∧ a3.toInt < (eA g0 233 0).toInt) ∧ (eA g0 233 1).toInt < 8) ∧ i = 46 + 6 * (eA g0 233 1).toInt + 0) from fun z => kn z.1)).symm; refine Eq.trans ?_ (if_neg (show ¬ (((1 ≤ a1.toInt ∧ a1.toInt ≤ 9 ∧ 0 ≤ a4.toInt ∧ a4.toInt ≤ 99 ∧ 0 ≤ a5.toInt ∧ a5.toInt ≤ 9 ∧ 0 ≤ a6.toInt ∧ a6.toInt ≤ 9999) ∧ (0 ≤ a2.toInt ∧ a2.toInt < (eA g0 233 0).toInt ∧ 0 ≤ a3.toInt ∧ a3.toInt < (eA g0 233 0).toInt) ∧ (eA g0 233 1).toInt < 8) ∧ i = 46 + 6 * (eA g0 233 1).toInt + 1) from fun z => kn z.1)).symm; refine Eq.trans ?_ (if_neg (show ¬ (((1 ≤ a1.toInt ∧ a1.toInt ≤ 9 ∧ 0 ≤ a4.toInt ∧ a4.toInt ≤ 99 ∧ 0 ≤ a5.toInt ∧ a5.toInt ≤ 9 ∧ 0 ≤ a6.toInt ∧ a6.toInt ≤ 9999) ∧ (0 ≤ a2.toInt ∧ a2.toInt < (eA g0 233 0).toInt ∧ 0 ≤ a3.toInt ∧ a3.toInt < (eA g0 233 0).toInt) ∧ (eA g0 233 1).toInt < 8) ∧ i = 46 + 6 * (eA g0 233 1).toInt + 2) from fun z => kn z.1)).symm; refine Eq.trans ?_ (if_neg (show ¬ (((1 ≤ a1.toInt ∧ a1.toInt ≤ 9 ∧ 0 ≤ a4.toInt ∧ a4.toInt ≤ 99 ∧ 0 ≤ a5.toInt ∧ a5.toInt ≤ 9 ∧ 0 ≤ a6.toInt ∧ a6.toInt ≤ 9999) ∧ (0 ≤ a2.toInt ∧ a2.toInt < (eA g0 233 0).toInt ∧ 0 ≤ a3.toInt ∧ a3.toInt < (eA g0 233 0).toInt) ∧ (eA g0 233 1).toInt < 8) ∧ i = 46 + 6 * (eA g0 233 1).toInt + 3) from fun z => kn z.1)).symm; refine Eq.trans ?_ (if_neg (show ¬ (((1 ≤ a1.toInt ∧ a1.toInt ≤ 9 ∧ 0 ≤ a4.toInt ∧ a4.toInt ≤ 99 ∧ 0 ≤ a5.toInt ∧ a5.toInt ≤ 9 ∧ 0 ≤ a6.toInt ∧ a6.toInt ≤ 9999) ∧ (0 ≤ a2.toInt ∧ a2.toInt < (eA g0 233 0).toInt ∧ 0 ≤ a3.toInt ∧ a3.toInt < (eA g0 233 0).toInt) ∧ (eA g0 233 1).toInt < 8) ∧ i = 46 + 6 * (eA g0 233 1).toInt + 4) from fun z => kn z.1)).symm; refine Eq.trans ?_ (if_neg (show ¬ (((1 ≤ a1.toInt ∧ a1.toInt ≤ 9 ∧ 0 ≤ a4.toInt ∧ a4.toInt ≤ 99 ∧ 0 ≤ a5.toInt ∧ a5.toInt ≤ 9 ∧ 0 ≤ a6.toInt ∧ a6.toInt ≤ 9999) ∧ (0 ≤ a2.toInt ∧ a2.toInt < (eA g0 233 0).toInt ∧ 0 ≤ a3.toInt ∧ a3.toInt < (eA g0 233 0).toInt) ∧ (eA g0 233 1).toInt < 8) ∧ i = 46 + 6 * (eA g0 233 1).toInt + 5) from fun z => kn z.1)).symm; refine (eA_ti (((hF360.2.1 233 (by decide)).trans (gA_sI)))).trans ?_; (first | rfl | exact eA_ix (by omega) | omega))⟩⟩
        · have c357_ : v332.toInt ≤ 99 := en_j_gt_f c357
          refine At.enter rfl ?_
          refine r_iconst 1 rfl ?_
          refine r_goto ?_
          refine At.enter rfl ?_
          refine q_iretz (by decide) ?_
          refine At.enter rfl ?_
          refine r_iff 24 rfl (by decide) ?_
          refine At.enter rfl ?_
          refine r_iload_n rfl ?_
          refine q_i2l (fun v381 hv381 => ?_)
          refine r_lconst 0 rfl ?_
          refine r_ldc2 9 rfl ?_
          refine q_inlS 33 rfl [.long v381, .long 0, .long 9] [] (Nat.le_of_ble_eq_true rfl) rfl ?_
          refine Ev.mk rfl rfl ⟨Nat.le_of_ble_eq_true rfl, Or.inl rfl⟩ ?_
          show At _ none _ _ (0, [(0, .long v381), (2, .long 0), (4, .long 9)], [], (_, _)) _
          refine At.enter rfl ?_
          refine r_lload_n rfl ?_
          refine r_lload_n rfl ?_
          refine r_lcmp _ rfl ?_
          refine r_ifs 6 rfl (fun c382 => ?_) (fun c382 => ?_)
          · have c382_ : v381.toInt < 0 := en_j_lt_t c382
            refine At.enter rfl ?_
            refine r_iconst 0 rfl ?_
            refine Ar.fall 18 rfl ?_
            refine At.enter rfl ?_
            refine q_iretz (by decide) ?_
            refine At.enter rfl ?_
            refine r_ift (by decide) ?_
            refine At.enter rfl ?_
            refine r_iconst 0 rfl ?_
            refine Ar.fall 53 rfl ?_
            refine At.enter rfl ?_
            refine q_iretz (by decide) ?_
            refine At.enter rfl ?_
            refine r_iff 18 rfl (by decide) ?_
            refine At.enter rfl ?_
            refine r_aload_n rfl ?_
            refine r_iconst (-1) rfl ?_
            refine r_callV 23 rfl [.ref 231, .int (-1)] [] (Nat.le_of_ble_eq_true rfl) rfl (T_X11_tell_231 _ hI281 (-1) (by decide)) ?_
            rintro _ _ ⟨g383, rfl, hI384, hF385, v386, rfl, hr387⟩
            refine At.sti ?_
            have hF388 := Fr.tr hF282 hF385 rfl rfl
            have zv389 : ((-1) : Int32).toInt = (-1) := rfl
            refine At.enter rfl ?_
            refine r_ireti ?_
            obtain ⟨v390, hv390⟩ : ∃ v, eA g0 233 1 = v := ⟨_, rfl⟩
            have tv390 := congrArg Int32.toInt hv390
            have wv390 := HI.t1 hI0
            rw [hv390] at wv390
            have tv390 := congrArg Int32.toInt hv390
            have x391 := HI.eqA hI384 (p := 233) (j := 1) ((((eA_c (hF385.2.1 233 (by decide))).trans (eA_c gA_sI)).trans hv390))
            obtain ⟨v392, hv392⟩ : ∃ v, eA g0 233 0 = v := ⟨_, rfl⟩
            have tv392 := congrArg Int32.toInt hv392
            have wv392 := HI.t0 hI0
            rw [hv392] at wv392
            have tv392 := congrArg Int32.toInt hv392
            have x393 := HI.eqA hI384 (p := 233) (j := 0) ((((eA_c (hF385.2.1 233 (by decide))).trans (eA_c gA_sI)).trans hv392))
            obtain ⟨v394, hv394⟩ : ∃ v, eA g0 233 4 = v := ⟨_, rfl⟩
            have wv394 := HI.t4 hI0
            rw [hv394] at wv394
            have tv394 := congrArg Int32.toInt hv394
            have x395 := HI.eqA hI384 (p := 233) (j := 4) ((((eA_c (hF385.2.1 233 (by decide))).trans (eA_c gA_sI)).trans hv394))
            obtain ⟨v396, hv396⟩ : ∃ v, eA g0 233 5 = v := ⟨_, rfl⟩
            have wv396 := HI.t5 hI0
            rw [hv396] at wv396
            have tv396 := congrArg Int32.toInt hv396
            have x397 := HI.eqA hI384 (p := 233) (j := 5) ((((eA_c (hF385.2.1 233 (by decide))).trans (eA_c gA_sI)).trans hv396))
            obtain ⟨v398, hv398⟩ : ∃ v, eA g0 233 6 = v := ⟨_, rfl⟩
            have wv398 := HI.t6 hI0
            rw [hv398] at wv398
            have tv398 := congrArg Int32.toInt hv398
            have x399 := HI.eqA hI384 (p := 233) (j := 6) ((((eA_c (hF385.2.1 233 (by decide))).trans (eA_c gA_sI)).trans hv398))
            have x400 := HI.eqA hI0 (p := 233) (j := 1) (hv390)
            have x401 := HI.eqA hI0 (p := 233) (j := 0) (hv392)
            have x402 := HI.eqA hI0 (p := 233) (j := 0) (hv392)
            have x403 := HI.eqA hI0 (p := 233) (j := 4) (hv394)
            have x404 := HI.eqA hI0 (p := 233) (j := 5) (hv396)
            have x405 := HI.eqA hI0 (p := 233) (j := 6) (hv398)
            exact ⟨_, rfl, hI384, hF388, _, rfl, by omega, ⟨⟨by omega, by omega, by omega, by omega, by omega, by omega, by omega, by omega⟩, (by intro i i0 i1; refine (eA_ti (((hF385.2.1 233 (by decide)).trans (gA_sI)))).trans ?_; (first | rfl | exact eA_ix (by omega) | omega)), (by intro i i0 i1; refine (eA_ti (((hF385.2.1 233 (by decide)).trans (gA_sI)))).trans ?_; (first | rfl | exact eA_ix (by omega) | omega)), (by have kn : ¬ ((1 ≤ a1.toInt ∧ a1.toInt ≤ 9 ∧ 0 ≤ a4.toInt ∧ a4.toInt ≤ 99 ∧ 0 ≤ a5.toInt ∧ a5.toInt ≤ 9 ∧ 0 ≤ a6.toInt ∧ a6.toInt ≤ 9999) ∧ (0 ≤ a2.toInt ∧ a2.toInt < (eA g0 233 0).toInt ∧ 0 ≤ a3.toInt ∧ a3.toInt < (eA g0 233 0).toInt) ∧ (eA g0 233 1).toInt < 8) := (by omega); intro i i0 i1; refine Eq.trans ?_ (if_neg (show ¬ (((1 ≤ a1.toInt ∧ a1.toInt ≤ 9 ∧ 0 ≤ a4.toInt ∧ a4.toInt ≤ 99 ∧ 0 ≤ a5.toInt ∧ a5.toInt ≤ 9 ∧ 0 ≤ a6.toInt ∧ a6.toInt ≤ 9999) ∧ (0 ≤ a2.toInt ∧ a2.toInt < (eA g0 233 0).toInt ∧ 0 ≤ a3.toInt ∧ a3.toInt < (eA g0 233 0).toInt) ∧ (eA g0 233 1).toInt < 8) ∧ i = 46 + 6 * (eA g0 233 1).toInt + 0) from fun z => kn z.1)).symm; refine Eq.trans ?_ (if_neg (show ¬ (((1 ≤ a1.toInt ∧ a1.toInt ≤ 9 ∧ 0 ≤ a4.toInt ∧ a4.toInt ≤ 99 ∧ 0 ≤ a5.toInt ∧ a5.toInt ≤ 9 ∧ 0 ≤ a6.toInt ∧ a6.toInt ≤ 9999) ∧ (0 ≤ a2.toInt ∧ a2.toInt < (eA g0 233 0).toInt ∧ 0 ≤ a3.toInt ∧ a3.toInt < (eA g0 233 0).toInt) ∧ (eA g0 233 1).toInt < 8) ∧ i = 46 + 6 * (eA g0 233 1).toInt + 1) from fun z => kn z.1)).symm; refine Eq.trans ?_ (if_neg (show ¬ (((1 ≤ a1.toInt ∧ a1.toInt ≤ 9 ∧ 0 ≤ a4.toInt ∧ a4.toInt ≤ 99 ∧ 0 ≤ a5.toInt ∧ a5.toInt ≤ 9 ∧ 0 ≤ a6.toInt ∧ a6.toInt ≤ 9999) ∧ (0 ≤ a2.toInt ∧ a2.toInt < (eA g0 233 0).toInt ∧ 0 ≤ a3.toInt ∧ a3.toInt < (eA g0 233 0).toInt) ∧ (eA g0 233 1).toInt < 8) ∧ i = 46 + 6 * (eA g0 233 1).toInt + 2) from fun z => kn z.1)).symm; refine Eq.trans ?_ (if_neg (show ¬ (((1 ≤ a1.toInt ∧ a1.toInt ≤ 9 ∧ 0 ≤ a4.toInt ∧ a4.toInt ≤ 99 ∧ 0 ≤ a5.toInt ∧ a5.toInt ≤ 9 ∧ 0 ≤ a6.toInt ∧ a6.toInt ≤ 9999) ∧ (0 ≤ a2.toInt ∧ a2.toInt < (eA g0 233 0).toInt ∧ 0 ≤ a3.toInt ∧ a3.toInt < (eA g0 233 0).toInt) ∧ (eA g0 233 1).toInt < 8) ∧ i = 46 + 6 * (eA g0 233 1).toInt + 3) from fun z => kn z.1)).symm; refine Eq.trans ?_ (if_neg (show ¬ (((1 ≤ a1.toInt ∧ a1.toInt ≤ 9 ∧ 0 ≤ a4.toInt ∧ a4.toInt ≤ 99 ∧ 0 ≤ a5.toInt ∧ a5.toInt ≤ 9 ∧ 0 ≤ a6.toInt ∧ a6.toInt ≤ 9999) ∧ (0 ≤ a2.toInt ∧ a2.toInt < (eA g0 233 0).toInt ∧ 0 ≤ a3.toInt ∧ a3.toInt < (eA g0 233 0).toInt) ∧ (eA g0 233 1).toInt < 8) ∧ i = 46 + 6 * (eA g0 233 1).toInt + 4) from fun z => kn z.1)).symm; refine Eq.trans ?_ (if_neg (show ¬ (((1 ≤ a1.toInt ∧ a1.toInt ≤ 9 ∧ 0 ≤ a4.toInt ∧ a4.toInt ≤ 99 ∧ 0 ≤ a5.toInt ∧ a5.toInt ≤ 9 ∧ 0 ≤ a6.toInt ∧ a6.toInt ≤ 9999) ∧ (0 ≤ a2.toInt ∧ a2.toInt < (eA g0 233 0).toInt ∧ 0 ≤ a3.toInt ∧ a3.toInt < (eA g0 233 0).toInt) ∧ (eA g0 233 1).toInt < 8) ∧ i = 46 + 6 * (eA g0 233 1).toInt + 5) from fun z => kn z.1)).symm; refine (eA_ti (((hF385.2.1 233 (by decide)).trans (gA_sI)))).trans ?_; (first | rfl | exact eA_ix (by omega) | omega))⟩⟩
          · have c382_ : v381.toInt ≥ 0 := en_j_lt_f c382
            refine At.enter rfl ?_
            refine r_lload_n rfl ?_
            refine r_lload rfl ?_
            refine r_lcmp _ rfl ?_
            refine r_ifs 13 rfl (fun c406 => ?_) (fun c406 => ?_)
            · have c406_ : v381.toInt > 9 := en_j_gt_t c406
              refine At.enter rfl ?_
              refine r_iconst 0 rfl ?_
              refine Ar.fall 18 rfl ?_
              refine At.enter rfl ?_
              refine q_iretz (by decide) ?_
              refine At.enter rfl ?_
              refine r_ift (by decide) ?_
              refine At.enter rfl ?_
              refine r_iconst 0 rfl ?_
              refine Ar.fall 53 rfl ?_
              refine At.enter rfl ?_
              refine q_iretz (by decide) ?_
              refine At.enter rfl ?_
              refine r_iff 18 rfl (by decide) ?_
              refine At.enter rfl ?_
              refine r_aload_n rfl ?_
              refine r_iconst (-1) rfl ?_
              refine r_callV 23 rfl [.ref 231, .int (-1)] [] (Nat.le_of_ble_eq_true rfl) rfl (T_X11_tell_231 _ hI281 (-1) (by decide)) ?_
              rintro _ _ ⟨g407, rfl, hI408, hF409, v410, rfl, hr411⟩
              refine At.sti ?_
              have hF412 := Fr.tr hF282 hF409 rfl rfl
              have zv413 : ((-1) : Int32).toInt = (-1) := rfl
              refine At.enter rfl ?_
              refine r_ireti ?_
              obtain ⟨v414, hv414⟩ : ∃ v, eA g0 233 1 = v := ⟨_, rfl⟩
              have tv414 := congrArg Int32.toInt hv414
              have wv414 := HI.t1 hI0
              rw [hv414] at wv414
              have tv414 := congrArg Int32.toInt hv414
              have x415 := HI.eqA hI408 (p := 233) (j := 1) ((((eA_c (hF409.2.1 233 (by decide))).trans (eA_c gA_sI)).trans hv414))
              obtain ⟨v416, hv416⟩ : ∃ v, eA g0 233 0 = v := ⟨_, rfl⟩
              have tv416 := congrArg Int32.toInt hv416
              have wv416 := HI.t0 hI0
              rw [hv416] at wv416
              have tv416 := congrArg Int32.toInt hv416
              have x417 := HI.eqA hI408 (p := 233) (j := 0) ((((eA_c (hF409.2.1 233 (by decide))).trans (eA_c gA_sI)).trans hv416))
              obtain ⟨v418, hv418⟩ : ∃ v, eA g0 233 4 = v := ⟨_, rfl⟩
              have wv418 := HI.t4 hI0
              rw [hv418] at wv418
              have tv418 := congrArg Int32.toInt hv418
              have x419 := HI.eqA hI408 (p := 233) (j := 4) ((((eA_c (hF409.2.1 233 (by decide))).trans (eA_c gA_sI)).trans hv418))
              obtain ⟨v420, hv420⟩ : ∃ v, eA g0 233 5 = v := ⟨_, rfl⟩
              have wv420 := HI.t5 hI0
              rw [hv420] at wv420
              have tv420 := congrArg Int32.toInt hv420
              have x421 := HI.eqA hI408 (p := 233) (j := 5) ((((eA_c (hF409.2.1 233 (by decide))).trans (eA_c gA_sI)).trans hv420))
              obtain ⟨v422, hv422⟩ : ∃ v, eA g0 233 6 = v := ⟨_, rfl⟩
              have wv422 := HI.t6 hI0
              rw [hv422] at wv422
              have tv422 := congrArg Int32.toInt hv422
              have x423 := HI.eqA hI408 (p := 233) (j := 6) ((((eA_c (hF409.2.1 233 (by decide))).trans (eA_c gA_sI)).trans hv422))
              have x424 := HI.eqA hI0 (p := 233) (j := 1) (hv414)
              have x425 := HI.eqA hI0 (p := 233) (j := 0) (hv416)
              have x426 := HI.eqA hI0 (p := 233) (j := 0) (hv416)
              have x427 := HI.eqA hI0 (p := 233) (j := 4) (hv418)
              have x428 := HI.eqA hI0 (p := 233) (j := 5) (hv420)
              have x429 := HI.eqA hI0 (p := 233) (j := 6) (hv422)
              exact ⟨_, rfl, hI408, hF412, _, rfl, by omega, ⟨⟨by omega, by omega, by omega, by omega, by omega, by omega, by omega, by omega⟩, (by intro i i0 i1; refine (eA_ti (((hF409.2.1 233 (by decide)).trans (gA_sI)))).trans ?_; (first | rfl | exact eA_ix (by omega) | omega)), (by intro i i0 i1; refine (eA_ti (((hF409.2.1 233 (by decide)).trans (gA_sI)))).trans ?_; (first | rfl | exact eA_ix (by omega) | omega)), (by have kn : ¬ ((1 ≤ a1.toInt ∧ a1.toInt ≤ 9 ∧ 0 ≤ a4.toInt ∧ a4.toInt ≤ 99 ∧ 0 ≤ a5.toInt ∧ a5.toInt ≤ 9 ∧ 0 ≤ a6.toInt ∧ a6.toInt ≤ 9999) ∧ (0 ≤ a2.toInt ∧ a2.toInt < (eA g0 233 0).toInt ∧ 0 ≤ a3.toInt ∧ a3.toInt < (eA g0 233 0).toInt) ∧ (eA g0 233 1).toInt < 8) := (by omega); intro i i0 i1; refine Eq.trans ?_ (if_neg (show ¬ (((1 ≤ a1.toInt ∧ a1.toInt ≤ 9 ∧ 0 ≤ a4.toInt ∧ a4.toInt ≤ 99 ∧ 0 ≤ a5.toInt ∧ a5.toInt ≤ 9 ∧ 0 ≤ a6.toInt ∧ a6.toInt ≤ 9999) ∧ (0 ≤ a2.toInt ∧ a2.toInt < (eA g0 233 0).toInt ∧ 0 ≤ a3.toInt ∧ a3.toInt < (eA g0 233 0).toInt) ∧ (eA g0 233 1).toInt < 8) ∧ i = 46 + 6 * (eA g0 233 1).toInt + 0) from fun z => kn z.1)).symm; refine Eq.trans ?_ (if_neg (show ¬ (((1 ≤ a1.toInt ∧ a1.toInt ≤ 9 ∧ 0 ≤ a4.toInt ∧ a4.toInt ≤ 99 ∧ 0 ≤ a5.toInt ∧ a5.toInt ≤ 9 ∧ 0 ≤ a6.toInt ∧ a6.toInt ≤ 9999) ∧ (0 ≤ a2.toInt ∧ a2.toInt < (eA g0 233 0).toInt ∧ 0 ≤ a3.toInt ∧ a3.toInt < (eA g0 233 0).toInt) ∧ (eA g0 233 1).toInt < 8) ∧ i = 46 + 6 * (eA g0 233 1).toInt + 1) from fun z => kn z.1)).symm; refine Eq.trans ?_ (if_neg (show ¬ (((1 ≤ a1.toInt ∧ a1.toInt ≤ 9 ∧ 0 ≤ a4.toInt ∧ a4.toInt ≤ 99 ∧ 0 ≤ a5.toInt ∧ a5.toInt ≤ 9 ∧ 0 ≤ a6.toInt ∧ a6.toInt ≤ 9999) ∧ (0 ≤ a2.toInt ∧ a2.toInt < (eA g0 233 0).toInt ∧ 0 ≤ a3.toInt ∧ a3.toInt < (eA g0 233 0).toInt) ∧ (eA g0 233 1).toInt < 8) ∧ i = 46 + 6 * (eA g0 233 1).toInt + 2) from fun z => kn z.1)).symm; refine Eq.trans ?_ (if_neg (show ¬ (((1 ≤ a1.toInt ∧ a1.toInt ≤ 9 ∧ 0 ≤ a4.toInt ∧ a4.toInt ≤ 99 ∧ 0 ≤ a5.toInt ∧ a5.toInt ≤ 9 ∧ 0 ≤ a6.toInt ∧ a6.toInt ≤ 9999) ∧ (0 ≤ a2.toInt ∧ a2.toInt < (eA g0 233 0).toInt ∧ 0 ≤ a3.toInt ∧ a3.toInt < (eA g0 233 0).toInt) ∧ (eA g0 233 1).toInt < 8) ∧ i = 46 + 6 * (eA g0 233 1).toInt + 3) from fun z => kn z.1)).symm; refine Eq.trans ?_ (if_neg (show ¬ (((1 ≤ a1.toInt ∧ a1.toInt ≤ 9 ∧ 0 ≤ a4.toInt ∧ a4.toInt ≤ 99 ∧ 0 ≤ a5.toInt ∧ a5.toInt ≤ 9 ∧ 0 ≤ a6.toInt ∧ a6.toInt ≤ 9999) ∧ (0 ≤ a2.toInt ∧ a2.toInt < (eA g0 233 0).toInt ∧ 0 ≤ a3.toInt ∧ a3.toInt < (eA g0 233 0).toInt) ∧ (eA g0 233 1).toInt < 8) ∧ i = 46 + 6 * (eA g0 233 1).toInt + 4) from fun z => kn z.1)).symm; refine Eq.trans ?_ (if_neg (show ¬ (((1 ≤ a1.toInt ∧ a1.toInt ≤ 9 ∧ 0 ≤ a4.toInt ∧ a4.toInt ≤ 99 ∧ 0 ≤ a5.toInt ∧ a5.toInt ≤ 9 ∧ 0 ≤ a6.toInt ∧ a6.toInt ≤ 9999) ∧ (0 ≤ a2.toInt ∧ a2.toInt < (eA g0 233 0).toInt ∧ 0 ≤ a3.toInt ∧ a3.toInt < (eA g0 233 0).toInt) ∧ (eA g0 233 1).toInt < 8) ∧ i = 46 + 6 * (eA g0 233 1).toInt + 5) from fun z => kn z.1)).symm; refine (eA_ti (((hF409.2.1 233 (by decide)).trans (gA_sI)))).trans ?_; (first | rfl | exact eA_ix (by omega) | omega))⟩⟩
            · have c406_ : v381.toInt ≤ 9 := en_j_gt_f c406
              refine At.enter rfl ?_
              refine r_iconst 1 rfl ?_
              refine r_goto ?_
              refine At.enter rfl ?_
              refine q_iretz (by decide) ?_
              refine At.enter rfl ?_
              refine r_iff 36 rfl (by decide) ?_
              refine At.enter rfl ?_
              refine r_iload_n rfl ?_
              refine q_i2l (fun v430 hv430 => ?_)
              refine r_lconst 0 rfl ?_
              refine r_ldc2 9999 rfl ?_
              refine q_inlS 45 rfl [.long v430, .long 0, .long 9999] [] (Nat.le_of_ble_eq_true rfl) rfl ?_
              refine Ev.mk rfl rfl ⟨Nat.le_of_ble_eq_true rfl, Or.inl rfl⟩ ?_
              show At _ none _ _ (0, [(0, .long v430), (2, .long 0), (4, .long 9999)], [], (_, _)) _
              refine At.enter rfl ?_
              refine r_lload_n rfl ?_
              refine r_lload_n rfl ?_
              refine r_lcmp _ rfl ?_
              refine r_ifs 6 rfl (fun c431 => ?_) (fun c431 => ?_)
              · have c431_ : v430.toInt < 0 := en_j_lt_t c431
                refine At.enter rfl ?_
                refine r_iconst 0 rfl ?_
                refine Ar.fall 18 rfl ?_
                refine At.enter rfl ?_
                refine q_iretz (by decide) ?_
                refine At.enter rfl ?_
                refine r_ift (by decide) ?_
                refine At.enter rfl ?_
                refine r_iconst 0 rfl ?_
                refine Ar.fall 53 rfl ?_
                refine At.enter rfl ?_
                refine q_iretz (by decide) ?_
                refine At.enter rfl ?_
                refine r_iff 18 rfl (by decide) ?_
                refine At.enter rfl ?_
                refine r_aload_n rfl ?_
                refine r_iconst (-1) rfl ?_
                refine r_callV 23 rfl [.ref 231, .int (-1)] [] (Nat.le_of_ble_eq_true rfl) rfl (T_X11_tell_231 _ hI281 (-1) (by decide)) ?_
                rintro _ _ ⟨g432, rfl, hI433, hF434, v435, rfl, hr436⟩
                refine At.sti ?_
                have hF437 := Fr.tr hF282 hF434 rfl rfl
                have zv438 : ((-1) : Int32).toInt = (-1) := rfl
                refine At.enter rfl ?_
                refine r_ireti ?_
                obtain ⟨v439, hv439⟩ : ∃ v, eA g0 233 1 = v := ⟨_, rfl⟩
                have tv439 := congrArg Int32.toInt hv439
                have wv439 := HI.t1 hI0
                rw [hv439] at wv439
                have tv439 := congrArg Int32.toInt hv439
                have x440 := HI.eqA hI433 (p := 233) (j := 1) ((((eA_c (hF434.2.1 233 (by decide))).trans (eA_c gA_sI)).trans hv439))
                obtain ⟨v441, hv441⟩ : ∃ v, eA g0 233 0 = v := ⟨_, rfl⟩
                have tv441 := congrArg Int32.toInt hv441
                have wv441 := HI.t0 hI0
                rw [hv441] at wv441
                have tv441 := congrArg Int32.toInt hv441
                have x442 := HI.eqA hI433 (p := 233) (j := 0) ((((eA_c (hF434.2.1 233 (by decide))).trans (eA_c gA_sI)).trans hv441))
                obtain ⟨v443, hv443⟩ : ∃ v, eA g0 233 4 = v := ⟨_, rfl⟩
                have wv443 := HI.t4 hI0
                rw [hv443] at wv443
                have tv443 := congrArg Int32.toInt hv443
                have x444 := HI.eqA hI433 (p := 233) (j := 4) ((((eA_c (hF434.2.1 233 (by decide))).trans (eA_c gA_sI)).trans hv443))
                obtain ⟨v445, hv445⟩ : ∃ v, eA g0 233 5 = v := ⟨_, rfl⟩
                have wv445 := HI.t5 hI0
                rw [hv445] at wv445
                have tv445 := congrArg Int32.toInt hv445
                have x446 := HI.eqA hI433 (p := 233) (j := 5) ((((eA_c (hF434.2.1 233 (by decide))).trans (eA_c gA_sI)).trans hv445))
                obtain ⟨v447, hv447⟩ : ∃ v, eA g0 233 6 = v := ⟨_, rfl⟩
                have wv447 := HI.t6 hI0
                rw [hv447] at wv447
                have tv447 := congrArg Int32.toInt hv447
                have x448 := HI.eqA hI433 (p := 233) (j := 6) ((((eA_c (hF434.2.1 233 (by decide))).trans (eA_c gA_sI)).trans hv447))
                have x449 := HI.eqA hI0 (p := 233) (j := 1) (hv439)
                have x450 := HI.eqA hI0 (p := 233) (j := 0) (hv441)
                have x451 := HI.eqA hI0 (p := 233) (j := 0) (hv441)
                have x452 := HI.eqA hI0 (p := 233) (j := 4) (hv443)
                have x453 := HI.eqA hI0 (p := 233) (j := 5) (hv445)
                have x454 := HI.eqA hI0 (p := 233) (j := 6) (hv447)
                exact ⟨_, rfl, hI433, hF437, _, rfl, by omega, ⟨⟨by omega, by omega, by omega, by omega, by omega, by omega, by omega, by omega⟩, (by intro i i0 i1; refine (eA_ti (((hF434.2.1 233 (by decide)).trans (gA_sI)))).trans ?_; (first | rfl | exact eA_ix (by omega) | omega)), (by intro i i0 i1; refine (eA_ti (((hF434.2.1 233 (by decide)).trans (gA_sI)))).trans ?_; (first | rfl | exact eA_ix (by omega) | omega)), (by have kn : ¬ ((1 ≤ a1.toInt ∧ a1.toInt ≤ 9 ∧ 0 ≤ a4.toInt ∧ a4.toInt ≤ 99 ∧ 0 ≤ a5.toInt ∧ a5.toInt ≤ 9 ∧ 0 ≤ a6.toInt ∧ a6.toInt ≤ 9999) ∧ (0 ≤ a2.toInt ∧ a2.toInt < (eA g0 233 0).toInt ∧ 0 ≤ a3.toInt ∧ a3.toInt < (eA g0 233 0).toInt) ∧ (eA g0 233 1).toInt < 8) := (by omega); intro i i0 i1; refine Eq.trans ?_ (if_neg (show ¬ (((1 ≤ a1.toInt ∧ a1.toInt ≤ 9 ∧ 0 ≤ a4.toInt ∧ a4.toInt ≤ 99 ∧ 0 ≤ a5.toInt ∧ a5.toInt ≤ 9 ∧ 0 ≤ a6.toInt ∧ a6.toInt ≤ 9999) ∧ (0 ≤ a2.toInt ∧ a2.toInt < (eA g0 233 0).toInt ∧ 0 ≤ a3.toInt ∧ a3.toInt < (eA g0 233 0).toInt) ∧ (eA g0 233 1).toInt < 8) ∧ i = 46 + 6 * (eA g0 233 1).toInt + 0) from fun z => kn z.1)).symm; refine Eq.trans ?_ (if_neg (show ¬ (((1 ≤ a1.toInt ∧ a1.toInt ≤ 9 ∧ 0 ≤ a4.toInt ∧ a4.toInt ≤ 99 ∧ 0 ≤ a5.toInt ∧ a5.toInt ≤ 9 ∧ 0 ≤ a6.toInt ∧ a6.toInt ≤ 9999) ∧ (0 ≤ a2.toInt ∧ a2.toInt < (eA g0 233 0).toInt ∧ 0 ≤ a3.toInt ∧ a3.toInt < (eA g0 233 0).toInt) ∧ (eA g0 233 1).toInt < 8) ∧ i = 46 + 6 * (eA g0 233 1).toInt + 1) from fun z => kn z.1)).symm; refine Eq.trans ?_ (if_neg (show ¬ (((1 ≤ a1.toInt ∧ a1.toInt ≤ 9 ∧ 0 ≤ a4.toInt ∧ a4.toInt ≤ 99 ∧ 0 ≤ a5.toInt ∧ a5.toInt ≤ 9 ∧ 0 ≤ a6.toInt ∧ a6.toInt ≤ 9999) ∧ (0 ≤ a2.toInt ∧ a2.toInt < (eA g0 233 0).toInt ∧ 0 ≤ a3.toInt ∧ a3.toInt < (eA g0 233 0).toInt) ∧ (eA g0 233 1).toInt < 8) ∧ i = 46 + 6 * (eA g0 233 1).toInt + 2) from fun z => kn z.1)).symm; refine Eq.trans ?_ (if_neg (show ¬ (((1 ≤ a1.toInt ∧ a1.toInt ≤ 9 ∧ 0 ≤ a4.toInt ∧ a4.toInt ≤ 99 ∧ 0 ≤ a5.toInt ∧ a5.toInt ≤ 9 ∧ 0 ≤ a6.toInt ∧ a6.toInt ≤ 9999) ∧ (0 ≤ a2.toInt ∧ a2.toInt < (eA g0 233 0).toInt ∧ 0 ≤ a3.toInt ∧ a3.toInt < (eA g0 233 0).toInt) ∧ (eA g0 233 1).toInt < 8) ∧ i = 46 + 6 * (eA g0 233 1).toInt + 3) from fun z => kn z.1)).symm; refine Eq.trans ?_ (if_neg (show ¬ (((1 ≤ a1.toInt ∧ a1.toInt ≤ 9 ∧ 0 ≤ a4.toInt ∧ a4.toInt ≤ 99 ∧ 0 ≤ a5.toInt ∧ a5.toInt ≤ 9 ∧ 0 ≤ a6.toInt ∧ a6.toInt ≤ 9999) ∧ (0 ≤ a2.toInt ∧ a2.toInt < (eA g0 233 0).toInt ∧ 0 ≤ a3.toInt ∧ a3.toInt < (eA g0 233 0).toInt) ∧ (eA g0 233 1).toInt < 8) ∧ i = 46 + 6 * (eA g0 233 1).toInt + 4) from fun z => kn z.1)).symm; refine Eq.trans ?_ (if_neg (show ¬ (((1 ≤ a1.toInt ∧ a1.toInt ≤ 9 ∧ 0 ≤ a4.toInt ∧ a4.toInt ≤ 99 ∧ 0 ≤ a5.toInt ∧ a5.toInt ≤ 9 ∧ 0 ≤ a6.toInt ∧ a6.toInt ≤ 9999) ∧ (0 ≤ a2.toInt ∧ a2.toInt < (eA g0 233 0).toInt ∧ 0 ≤ a3.toInt ∧ a3.toInt < (eA g0 233 0).toInt) ∧ (eA g0 233 1).toInt < 8) ∧ i = 46 + 6 * (eA g0 233 1).toInt + 5) from fun z => kn z.1)).symm; refine (eA_ti (((hF434.2.1 233 (by decide)).trans (gA_sI)))).trans ?_; (first | rfl | exact eA_ix (by omega) | omega))⟩⟩
              · have c431_ : v430.toInt ≥ 0 := en_j_lt_f c431
                refine At.enter rfl ?_
                refine r_lload_n rfl ?_
                refine r_lload rfl ?_
                refine r_lcmp _ rfl ?_
                refine r_ifs 13 rfl (fun c455 => ?_) (fun c455 => ?_)
                · have c455_ : v430.toInt > 9999 := en_j_gt_t c455
                  refine At.enter rfl ?_
                  refine r_iconst 0 rfl ?_
                  refine Ar.fall 18 rfl ?_
                  refine At.enter rfl ?_
                  refine q_iretz (by decide) ?_
                  refine At.enter rfl ?_
                  refine r_ift (by decide) ?_
                  refine At.enter rfl ?_
                  refine r_iconst 0 rfl ?_
                  refine Ar.fall 53 rfl ?_
                  refine At.enter rfl ?_
                  refine q_iretz (by decide) ?_
                  refine At.enter rfl ?_
                  refine r_iff 18 rfl (by decide) ?_
                  refine At.enter rfl ?_
                  refine r_aload_n rfl ?_
                  refine r_iconst (-1) rfl ?_
                  refine r_callV 23 rfl [.ref 231, .int (-1)] [] (Nat.le_of_ble_eq_true rfl) rfl (T_X11_tell_231 _ hI281 (-1) (by decide)) ?_
                  rintro _ _ ⟨g456, rfl, hI457, hF458, v459, rfl, hr460⟩
                  refine At.sti ?_
                  have hF461 := Fr.tr hF282 hF458 rfl rfl
                  have zv462 : ((-1) : Int32).toInt = (-1) := rfl
                  refine At.enter rfl ?_
                  refine r_ireti ?_
                  obtain ⟨v463, hv463⟩ : ∃ v, eA g0 233 1 = v := ⟨_, rfl⟩
                  have tv463 := congrArg Int32.toInt hv463
                  have wv463 := HI.t1 hI0
                  rw [hv463] at wv463
                  have tv463 := congrArg Int32.toInt hv463
                  have x464 := HI.eqA hI457 (p := 233) (j := 1) ((((eA_c (hF458.2.1 233 (by decide))).trans (eA_c gA_sI)).trans hv463))
                  obtain ⟨v465, hv465⟩ : ∃ v, eA g0 233 0 = v := ⟨_, rfl⟩
                  have tv465 := congrArg Int32.toInt hv465
                  have wv465 := HI.t0 hI0
                  rw [hv465] at wv465
                  have tv465 := congrArg Int32.toInt hv465
                  have x466 := HI.eqA hI457 (p := 233) (j := 0) ((((eA_c (hF458.2.1 233 (by decide))).trans (eA_c gA_sI)).trans hv465))
                  obtain ⟨v467, hv467⟩ : ∃ v, eA g0 233 4 = v := ⟨_, rfl⟩
                  have wv467 := HI.t4 hI0
                  rw [hv467] at wv467
                  have tv467 := congrArg Int32.toInt hv467
                  have x468 := HI.eqA hI457 (p := 233) (j := 4) ((((eA_c (hF458.2.1 233 (by decide))).trans (eA_c gA_sI)).trans hv467))
                  obtain ⟨v469, hv469⟩ : ∃ v, eA g0 233 5 = v := ⟨_, rfl⟩
                  have wv469 := HI.t5 hI0
                  rw [hv469] at wv469
                  have tv469 := congrArg Int32.toInt hv469
                  have x470 := HI.eqA hI457 (p := 233) (j := 5) ((((eA_c (hF458.2.1 233 (by decide))).trans (eA_c gA_sI)).trans hv469))
                  obtain ⟨v471, hv471⟩ : ∃ v, eA g0 233 6 = v := ⟨_, rfl⟩
                  have wv471 := HI.t6 hI0
                  rw [hv471] at wv471
                  have tv471 := congrArg Int32.toInt hv471
                  have x472 := HI.eqA hI457 (p := 233) (j := 6) ((((eA_c (hF458.2.1 233 (by decide))).trans (eA_c gA_sI)).trans hv471))
                  have x473 := HI.eqA hI0 (p := 233) (j := 1) (hv463)
                  have x474 := HI.eqA hI0 (p := 233) (j := 0) (hv465)
                  have x475 := HI.eqA hI0 (p := 233) (j := 0) (hv465)
                  have x476 := HI.eqA hI0 (p := 233) (j := 4) (hv467)
                  have x477 := HI.eqA hI0 (p := 233) (j := 5) (hv469)
                  have x478 := HI.eqA hI0 (p := 233) (j := 6) (hv471)
                  exact ⟨_, rfl, hI457, hF461, _, rfl, by omega, ⟨⟨by omega, by omega, by omega, by omega, by omega, by omega, by omega, by omega⟩, (by intro i i0 i1; refine (eA_ti (((hF458.2.1 233 (by decide)).trans (gA_sI)))).trans ?_; (first | rfl | exact eA_ix (by omega) | omega)), (by intro i i0 i1; refine (eA_ti (((hF458.2.1 233 (by decide)).trans (gA_sI)))).trans ?_; (first | rfl | exact eA_ix (by omega) | omega)), (by have kn : ¬ ((1 ≤ a1.toInt ∧ a1.toInt ≤ 9 ∧ 0 ≤ a4.toInt ∧ a4.toInt ≤ 99 ∧ 0 ≤ a5.toInt ∧ a5.toInt ≤ 9 ∧ 0 ≤ a6.toInt ∧ a6.toInt ≤ 9999) ∧ (0 ≤ a2.toInt ∧ a2.toInt < (eA g0 233 0).toInt ∧ 0 ≤ a3.toInt ∧ a3.toInt < (eA g0 233 0).toInt) ∧ (eA g0 233 1).toInt < 8) := (by omega); intro i i0 i1; refine Eq.trans ?_ (if_neg (show ¬ (((1 ≤ a1.toInt ∧ a1.toInt ≤ 9 ∧ 0 ≤ a4.toInt ∧ a4.toInt ≤ 99 ∧ 0 ≤ a5.toInt ∧ a5.toInt ≤ 9 ∧ 0 ≤ a6.toInt ∧ a6.toInt ≤ 9999) ∧ (0 ≤ a2.toInt ∧ a2.toInt < (eA g0 233 0).toInt ∧ 0 ≤ a3.toInt ∧ a3.toInt < (eA g0 233 0).toInt) ∧ (eA g0 233 1).toInt < 8) ∧ i = 46 + 6 * (eA g0 233 1).toInt + 0) from fun z => kn z.1)).symm; refine Eq.trans ?_ (if_neg (show ¬ (((1 ≤ a1.toInt ∧ a1.toInt ≤ 9 ∧ 0 ≤ a4.toInt ∧ a4.toInt ≤ 99 ∧ 0 ≤ a5.toInt ∧ a5.toInt ≤ 9 ∧ 0 ≤ a6.toInt ∧ a6.toInt ≤ 9999) ∧ (0 ≤ a2.toInt ∧ a2.toInt < (eA g0 233 0).toInt ∧ 0 ≤ a3.toInt ∧ a3.toInt < (eA g0 233 0).toInt) ∧ (eA g0 233 1).toInt < 8) ∧ i = 46 + 6 * (eA g0 233 1).toInt + 1) from fun z => kn z.1)).symm; refine Eq.trans ?_ (if_neg (show ¬ (((1 ≤ a1.toInt ∧ a1.toInt ≤ 9 ∧ 0 ≤ a4.toInt ∧ a4.toInt ≤ 99 ∧ 0 ≤ a5.toInt ∧ a5.toInt ≤ 9 ∧ 0 ≤ a6.toInt ∧ a6.toInt ≤ 9999) ∧ (0 ≤ a2.toInt ∧ a2.toInt < (eA g0 233 0).toInt ∧ 0 ≤ a3.toInt ∧ a3.toInt < (eA g0 233 0).toInt) ∧ (eA g0 233 1).toInt < 8) ∧ i = 46 + 6 * (eA g0 233 1).toInt + 2) from fun z => kn z.1)).symm; refine Eq.trans ?_ (if_neg (show ¬ (((1 ≤ a1.toInt ∧ a1.toInt ≤ 9 ∧ 0 ≤ a4.toInt ∧ a4.toInt ≤ 99 ∧ 0 ≤ a5.toInt ∧ a5.toInt ≤ 9 ∧ 0 ≤ a6.toInt ∧ a6.toInt ≤ 9999) ∧ (0 ≤ a2.toInt ∧ a2.toInt < (eA g0 233 0).toInt ∧ 0 ≤ a3.toInt ∧ a3.toInt < (eA g0 233 0).toInt) ∧ (eA g0 233 1).toInt < 8) ∧ i = 46 + 6 * (eA g0 233 1).toInt + 3) from fun z => kn z.1)).symm; refine Eq.trans ?_ (if_neg (show ¬ (((1 ≤ a1.toInt ∧ a1.toInt ≤ 9 ∧ 0 ≤ a4.toInt ∧ a4.toInt ≤ 99 ∧ 0 ≤ a5.toInt ∧ a5.toInt ≤ 9 ∧ 0 ≤ a6.toInt ∧ a6.toInt ≤ 9999) ∧ (0 ≤ a2.toInt ∧ a2.toInt < (eA g0 233 0).toInt ∧ 0 ≤ a3.toInt ∧ a3.toInt < (eA g0 233 0).toInt) ∧ (eA g0 233 1).toInt < 8) ∧ i = 46 + 6 * (eA g0 233 1).toInt + 4) from fun z => kn z.1)).symm; refine Eq.trans ?_ (if_neg (show ¬ (((1 ≤ a1.toInt ∧ a1.toInt ≤ 9 ∧ 0 ≤ a4.toInt ∧ a4.toInt ≤ 99 ∧ 0 ≤ a5.toInt ∧ a5.toInt ≤ 9 ∧ 0 ≤ a6.toInt ∧ a6.toInt ≤ 9999) ∧ (0 ≤ a2.toInt ∧ a2.toInt < (eA g0 233 0).toInt ∧ 0 ≤ a3.toInt ∧ a3.toInt < (eA g0 233 0).toInt) ∧ (eA g0 233 1).toInt < 8) ∧ i = 46 + 6 * (eA g0 233 1).toInt + 5) from fun z => kn z.1)).symm; refine (eA_ti (((hF458.2.1 233 (by decide)).trans (gA_sI)))).trans ?_; (first | rfl | exact eA_ix (by omega) | omega))⟩⟩
                · have c455_ : v430.toInt ≤ 9999 := en_j_gt_f c455
                  refine At.enter rfl ?_
                  refine r_iconst 1 rfl ?_
                  refine r_goto ?_
                  refine At.enter rfl ?_
                  refine q_iretz (by decide) ?_
                  refine At.enter rfl ?_
                  refine r_iff 48 rfl (by decide) ?_
                  refine At.enter rfl ?_
                  refine r_iconst 1 rfl ?_
                  refine r_goto ?_
                  refine At.enter rfl ?_
                  refine q_iretz (by decide) ?_
                  refine At.enter rfl ?_
                  refine r_ift (by decide) ?_
                  refine At.enter rfl ?_
                  refine r_aload_n rfl ?_
                  refine r_iload_n rfl ?_
                  refine q_inlV 29 rfl [.ref 231, .int a2] [] (Nat.le_of_ble_eq_true rfl) rfl ?_
                  refine Ev.mk rfl rfl ⟨Nat.le_of_ble_eq_true rfl, Or.inr (q_rc hI281.1 kx_231 rfl)⟩ ?_
                  show At _ none _ _ (0, [(0, .ref 231), (1, .int a2)], [], (_, _)) _
                  refine At.enter rfl ?_
                  refine r_iload_n rfl ?_
                  refine q_i2l (fun v479 hv479 => ?_)
                  refine r_lconst 0 rfl ?_
                  refine r_aload_n rfl ?_
                  refine q_getR (Sh.ref hI281.1 kx_231 rfl) ?_
                  refine r_iconst 0 rfl ?_
                  obtain ⟨v480, hv480⟩ : ∃ v, eA g0 233 0 = v := ⟨_, rfl⟩
                  have tv480 := congrArg Int32.toInt hv480
                  have wv480 := HI.t0 hI0
                  rw [hv480] at wv480
                  refine q_iald (Sh.arr hI281.1 ka_233) 0 rfl (by decide) v480 ((eA_c (gA_sI)).trans hv480) ?_
                  refine q_i2l (fun v481 hv481 => ?_)
                  refine r_lconst 1 rfl ?_
                  refine q_lsub (v481.toInt - 1) rfl (by omega) (fun v482 hv482 => ?_)
                  refine q_inlS 15 rfl [.long v479, .long 0, .long v482] [] (Nat.le_of_ble_eq_true rfl) rfl ?_
                  refine Ev.mk rfl rfl ⟨Nat.le_of_ble_eq_true rfl, Or.inl rfl⟩ ?_
                  show At _ none _ _ (0, [(0, .long v479), (2, .long 0), (4, .long v482)], [], (_, _)) _
                  refine At.enter rfl ?_
                  refine r_lload_n rfl ?_
                  refine r_lload_n rfl ?_
                  refine r_lcmp _ rfl ?_
                  refine r_ifs 6 rfl (fun c483 => ?_) (fun c483 => ?_)
                  · have c483_ : v479.toInt < 0 := en_j_lt_t c483
                    refine At.enter rfl ?_
                    refine r_iconst 0 rfl ?_
                    refine Ar.fall 18 rfl ?_
                    refine At.enter rfl ?_
                    refine q_iretz (by decide) ?_
                    refine At.enter rfl ?_
                    refine q_iretz (by decide) ?_
                    refine At.enter rfl ?_
                    refine r_ift (by decide) ?_
                    refine At.enter rfl ?_
                    refine r_aload_n rfl ?_
                    refine r_bipush (-2) rfl ?_
                    refine r_callV 46 rfl [.ref 231, .int (-2)] [] (Nat.le_of_ble_eq_true rfl) rfl (T_X11_tell_231 _ hI281 (-2) (by decide)) ?_
                    rintro _ _ ⟨g484, rfl, hI485, hF486, v487, rfl, hr488⟩
                    refine At.sti ?_
                    have hF489 := Fr.tr hF282 hF486 rfl rfl
                    have zv490 : ((-2) : Int32).toInt = (-2) := rfl
                    refine At.enter rfl ?_
                    refine r_ireti ?_
                    obtain ⟨v491, hv491⟩ : ∃ v, eA g0 233 1 = v := ⟨_, rfl⟩
                    have tv491 := congrArg Int32.toInt hv491
                    have wv491 := HI.t1 hI0
                    rw [hv491] at wv491
                    have tv491 := congrArg Int32.toInt hv491
                    have x492 := HI.eqA hI485 (p := 233) (j := 1) ((((eA_c (hF486.2.1 233 (by decide))).trans (eA_c gA_sI)).trans hv491))
                    have x493 := HI.eqA hI485 (p := 233) (j := 0) ((((eA_c (hF486.2.1 233 (by decide))).trans (eA_c gA_sI)).trans hv480))
                    obtain ⟨v494, hv494⟩ : ∃ v, eA g0 233 4 = v := ⟨_, rfl⟩
                    have wv494 := HI.t4 hI0
                    rw [hv494] at wv494
                    have tv494 := congrArg Int32.toInt hv494
                    have x495 := HI.eqA hI485 (p := 233) (j := 4) ((((eA_c (hF486.2.1 233 (by decide))).trans (eA_c gA_sI)).trans hv494))
                    obtain ⟨v496, hv496⟩ : ∃ v, eA g0 233 5 = v := ⟨_, rfl⟩
                    have wv496 := HI.t5 hI0
                    rw [hv496] at wv496
                    have tv496 := congrArg Int32.toInt hv496
                    have x497 := HI.eqA hI485 (p := 233) (j := 5) ((((eA_c (hF486.2.1 233 (by decide))).trans (eA_c gA_sI)).trans hv496))
                    obtain ⟨v498, hv498⟩ : ∃ v, eA g0 233 6 = v := ⟨_, rfl⟩
                    have wv498 := HI.t6 hI0
                    rw [hv498] at wv498
                    have tv498 := congrArg Int32.toInt hv498
                    have x499 := HI.eqA hI485 (p := 233) (j := 6) ((((eA_c (hF486.2.1 233 (by decide))).trans (eA_c gA_sI)).trans hv498))
                    have x500 := HI.eqA hI0 (p := 233) (j := 1) (hv491)
                    have x501 := HI.eqA hI0 (p := 233) (j := 0) (hv480)
                    have x502 := HI.eqA hI0 (p := 233) (j := 0) (hv480)
                    have x503 := HI.eqA hI0 (p := 233) (j := 4) (hv494)
                    have x504 := HI.eqA hI0 (p := 233) (j := 5) (hv496)
                    have x505 := HI.eqA hI0 (p := 233) (j := 6) (hv498)
                    exact ⟨_, rfl, hI485, hF489, _, rfl, by omega, ⟨⟨by omega, by omega, by omega, by omega, by omega, by omega, by omega, by omega⟩, (by intro i i0 i1; refine (eA_ti (((hF486.2.1 233 (by decide)).trans (gA_sI)))).trans ?_; (first | rfl | exact eA_ix (by omega) | omega)), (by intro i i0 i1; refine (eA_ti (((hF486.2.1 233 (by decide)).trans (gA_sI)))).trans ?_; (first | rfl | exact eA_ix (by omega) | omega)), (by have kn : ¬ ((1 ≤ a1.toInt ∧ a1.toInt ≤ 9 ∧ 0 ≤ a4.toInt ∧ a4.toInt ≤ 99 ∧ 0 ≤ a5.toInt ∧ a5.toInt ≤ 9 ∧ 0 ≤ a6.toInt ∧ a6.toInt ≤ 9999) ∧ (0 ≤ a2.toInt ∧ a2.toInt < (eA g0 233 0).toInt ∧ 0 ≤ a3.toInt ∧ a3.toInt < (eA g0 233 0).toInt) ∧ (eA g0 233 1).toInt < 8) := (by omega); intro i i0 i1; refine Eq.trans ?_ (if_neg (show ¬ (((1 ≤ a1.toInt ∧ a1.toInt ≤ 9 ∧ 0 ≤ a4.toInt ∧ a4.toInt ≤ 99 ∧ 0 ≤ a5.toInt ∧ a5.toInt ≤ 9 ∧ 0 ≤ a6.toInt ∧ a6.toInt ≤ 9999) ∧ (0 ≤ a2.toInt ∧ a2.toInt < (eA g0 233 0).toInt ∧ 0 ≤ a3.toInt ∧ a3.toInt < (eA g0 233 0).toInt) ∧ (eA g0 233 1).toInt < 8) ∧ i = 46 + 6 * (eA g0 233 1).toInt + 0) from fun z => kn z.1)).symm; refine Eq.trans ?_ (if_neg (show ¬ (((1 ≤ a1.toInt ∧ a1.toInt ≤ 9 ∧ 0 ≤ a4.toInt ∧ a4.toInt ≤ 99 ∧ 0 ≤ a5.toInt ∧ a5.toInt ≤ 9 ∧ 0 ≤ a6.toInt ∧ a6.toInt ≤ 9999) ∧ (0 ≤ a2.toInt ∧ a2.toInt < (eA g0 233 0).toInt ∧ 0 ≤ a3.toInt ∧ a3.toInt < (eA g0 233 0).toInt) ∧ (eA g0 233 1).toInt < 8) ∧ i = 46 + 6 * (eA g0 233 1).toInt + 1) from fun z => kn z.1)).symm; refine Eq.trans ?_ (if_neg (show ¬ (((1 ≤ a1.toInt ∧ a1.toInt ≤ 9 ∧ 0 ≤ a4.toInt ∧ a4.toInt ≤ 99 ∧ 0 ≤ a5.toInt ∧ a5.toInt ≤ 9 ∧ 0 ≤ a6.toInt ∧ a6.toInt ≤ 9999) ∧ (0 ≤ a2.toInt ∧ a2.toInt < (eA g0 233 0).toInt ∧ 0 ≤ a3.toInt ∧ a3.toInt < (eA g0 233 0).toInt) ∧ (eA g0 233 1).toInt < 8) ∧ i = 46 + 6 * (eA g0 233 1).toInt + 2) from fun z => kn z.1)).symm; refine Eq.trans ?_ (if_neg (show ¬ (((1 ≤ a1.toInt ∧ a1.toInt ≤ 9 ∧ 0 ≤ a4.toInt ∧ a4.toInt ≤ 99 ∧ 0 ≤ a5.toInt ∧ a5.toInt ≤ 9 ∧ 0 ≤ a6.toInt ∧ a6.toInt ≤ 9999) ∧ (0 ≤ a2.toInt ∧ a2.toInt < (eA g0 233 0).toInt ∧ 0 ≤ a3.toInt ∧ a3.toInt < (eA g0 233 0).toInt) ∧ (eA g0 233 1).toInt < 8) ∧ i = 46 + 6 * (eA g0 233 1).toInt + 3) from fun z => kn z.1)).symm; refine Eq.trans ?_ (if_neg (show ¬ (((1 ≤ a1.toInt ∧ a1.toInt ≤ 9 ∧ 0 ≤ a4.toInt ∧ a4.toInt ≤ 99 ∧ 0 ≤ a5.toInt ∧ a5.toInt ≤ 9 ∧ 0 ≤ a6.toInt ∧ a6.toInt ≤ 9999) ∧ (0 ≤ a2.toInt ∧ a2.toInt < (eA g0 233 0).toInt ∧ 0 ≤ a3.toInt ∧ a3.toInt < (eA g0 233 0).toInt) ∧ (eA g0 233 1).toInt < 8) ∧ i = 46 + 6 * (eA g0 233 1).toInt + 4) from fun z => kn z.1)).symm; refine Eq.trans ?_ (if_neg (show ¬ (((1 ≤ a1.toInt ∧ a1.toInt ≤ 9 ∧ 0 ≤ a4.toInt ∧ a4.toInt ≤ 99 ∧ 0 ≤ a5.toInt ∧ a5.toInt ≤ 9 ∧ 0 ≤ a6.toInt ∧ a6.toInt ≤ 9999) ∧ (0 ≤ a2.toInt ∧ a2.toInt < (eA g0 233 0).toInt ∧ 0 ≤ a3.toInt ∧ a3.toInt < (eA g0 233 0).toInt) ∧ (eA g0 233 1).toInt < 8) ∧ i = 46 + 6 * (eA g0 233 1).toInt + 5) from fun z => kn z.1)).symm; refine (eA_ti (((hF486.2.1 233 (by decide)).trans (gA_sI)))).trans ?_; (first | rfl | exact eA_ix (by omega) | omega))⟩⟩
                  · have c483_ : v479.toInt ≥ 0 := en_j_lt_f c483
                    refine At.enter rfl ?_
                    refine r_lload_n rfl ?_
                    refine r_lload rfl ?_
                    refine r_lcmp _ rfl ?_
                    refine r_ifs 13 rfl (fun c506 => ?_) (fun c506 => ?_)
                    · have c506_ : v479.toInt > v482.toInt := en_j_gt_t c506
                      refine At.enter rfl ?_
                      refine r_iconst 0 rfl ?_
                      refine Ar.fall 18 rfl ?_
                      refine At.enter rfl ?_
                      refine q_iretz (by decide) ?_
                      refine At.enter rfl ?_
                      refine q_iretz (by decide) ?_
                      refine At.enter rfl ?_
                      refine r_ift (by decide) ?_
                      refine At.enter rfl ?_
                      refine r_aload_n rfl ?_
                      refine r_bipush (-2) rfl ?_
                      refine r_callV 46 rfl [.ref 231, .int (-2)] [] (Nat.le_of_ble_eq_true rfl) rfl (T_X11_tell_231 _ hI281 (-2) (by decide)) ?_
                      rintro _ _ ⟨g507, rfl, hI508, hF509, v510, rfl, hr511⟩
                      refine At.sti ?_
                      have hF512 := Fr.tr hF282 hF509 rfl rfl
                      have zv513 : ((-2) : Int32).toInt = (-2) := rfl
                      refine At.enter rfl ?_
                      refine r_ireti ?_
                      obtain ⟨v514, hv514⟩ : ∃ v, eA g0 233 1 = v := ⟨_, rfl⟩
                      have tv514 := congrArg Int32.toInt hv514
                      have wv514 := HI.t1 hI0
                      rw [hv514] at wv514
                      have tv514 := congrArg Int32.toInt hv514
                      have x515 := HI.eqA hI508 (p := 233) (j := 1) ((((eA_c (hF509.2.1 233 (by decide))).trans (eA_c gA_sI)).trans hv514))
                      have x516 := HI.eqA hI508 (p := 233) (j := 0) ((((eA_c (hF509.2.1 233 (by decide))).trans (eA_c gA_sI)).trans hv480))
                      obtain ⟨v517, hv517⟩ : ∃ v, eA g0 233 4 = v := ⟨_, rfl⟩
                      have wv517 := HI.t4 hI0
                      rw [hv517] at wv517
                      have tv517 := congrArg Int32.toInt hv517
                      have x518 := HI.eqA hI508 (p := 233) (j := 4) ((((eA_c (hF509.2.1 233 (by decide))).trans (eA_c gA_sI)).trans hv517))
                      obtain ⟨v519, hv519⟩ : ∃ v, eA g0 233 5 = v := ⟨_, rfl⟩
                      have wv519 := HI.t5 hI0
                      rw [hv519] at wv519
                      have tv519 := congrArg Int32.toInt hv519
                      have x520 := HI.eqA hI508 (p := 233) (j := 5) ((((eA_c (hF509.2.1 233 (by decide))).trans (eA_c gA_sI)).trans hv519))
                      obtain ⟨v521, hv521⟩ : ∃ v, eA g0 233 6 = v := ⟨_, rfl⟩
                      have wv521 := HI.t6 hI0
                      rw [hv521] at wv521
                      have tv521 := congrArg Int32.toInt hv521
                      have x522 := HI.eqA hI508 (p := 233) (j := 6) ((((eA_c (hF509.2.1 233 (by decide))).trans (eA_c gA_sI)).trans hv521))
                      have x523 := HI.eqA hI0 (p := 233) (j := 1) (hv514)
                      have x524 := HI.eqA hI0 (p := 233) (j := 0) (hv480)
                      have x525 := HI.eqA hI0 (p := 233) (j := 0) (hv480)
                      have x526 := HI.eqA hI0 (p := 233) (j := 4) (hv517)
                      have x527 := HI.eqA hI0 (p := 233) (j := 5) (hv519)
                      have x528 := HI.eqA hI0 (p := 233) (j := 6) (hv521)
                      exact ⟨_, rfl, hI508, hF512, _, rfl, by omega, ⟨⟨by omega, by omega, by omega, by omega, by omega, by omega, by omega, by omega⟩, (by intro i i0 i1; refine (eA_ti (((hF509.2.1 233 (by decide)).trans (gA_sI)))).trans ?_; (first | rfl | exact eA_ix (by omega) | omega)), (by intro i i0 i1; refine (eA_ti (((hF509.2.1 233 (by decide)).trans (gA_sI)))).trans ?_; (first | rfl | exact eA_ix (by omega) | omega)), (by have kn : ¬ ((1 ≤ a1.toInt ∧ a1.toInt ≤ 9 ∧ 0 ≤ a4.toInt ∧ a4.toInt ≤ 99 ∧ 0 ≤ a5.toInt ∧ a5.toInt ≤ 9 ∧ 0 ≤ a6.toInt ∧ a6.toInt ≤ 9999) ∧ (0 ≤ a2.toInt ∧ a2.toInt < (eA g0 233 0).toInt ∧ 0 ≤ a3.toInt ∧ a3.toInt < (eA g0 233 0).toInt) ∧ (eA g0 233 1).toInt < 8) := (by omega); intro i i0 i1; refine Eq.trans ?_ (if_neg (show ¬ (((1 ≤ a1.toInt ∧ a1.toInt ≤ 9 ∧ 0 ≤ a4.toInt ∧ a4.toInt ≤ 99 ∧ 0 ≤ a5.toInt ∧ a5.toInt ≤ 9 ∧ 0 ≤ a6.toInt ∧ a6.toInt ≤ 9999) ∧ (0 ≤ a2.toInt ∧ a2.toInt < (eA g0 233 0).toInt ∧ 0 ≤ a3.toInt ∧ a3.toInt < (eA g0 233 0).toInt) ∧ (eA g0 233 1).toInt < 8) ∧ i = 46 + 6 * (eA g0 233 1).toInt + 0) from fun z => kn z.1)).symm; refine Eq.trans ?_ (if_neg (show ¬ (((1 ≤ a1.toInt ∧ a1.toInt ≤ 9 ∧ 0 ≤ a4.toInt ∧ a4.toInt ≤ 99 ∧ 0 ≤ a5.toInt ∧ a5.toInt ≤ 9 ∧ 0 ≤ a6.toInt ∧ a6.toInt ≤ 9999) ∧ (0 ≤ a2.toInt ∧ a2.toInt < (eA g0 233 0).toInt ∧ 0 ≤ a3.toInt ∧ a3.toInt < (eA g0 233 0).toInt) ∧ (eA g0 233 1).toInt < 8) ∧ i = 46 + 6 * (eA g0 233 1).toInt + 1) from fun z => kn z.1)).symm; refine Eq.trans ?_ (if_neg (show ¬ (((1 ≤ a1.toInt ∧ a1.toInt ≤ 9 ∧ 0 ≤ a4.toInt ∧ a4.toInt ≤ 99 ∧ 0 ≤ a5.toInt ∧ a5.toInt ≤ 9 ∧ 0 ≤ a6.toInt ∧ a6.toInt ≤ 9999) ∧ (0 ≤ a2.toInt ∧ a2.toInt < (eA g0 233 0).toInt ∧ 0 ≤ a3.toInt ∧ a3.toInt < (eA g0 233 0).toInt) ∧ (eA g0 233 1).toInt < 8) ∧ i = 46 + 6 * (eA g0 233 1).toInt + 2) from fun z => kn z.1)).symm; refine Eq.trans ?_ (if_neg (show ¬ (((1 ≤ a1.toInt ∧ a1.toInt ≤ 9 ∧ 0 ≤ a4.toInt ∧ a4.toInt ≤ 99 ∧ 0 ≤ a5.toInt ∧ a5.toInt ≤ 9 ∧ 0 ≤ a6.toInt ∧ a6.toInt ≤ 9999) ∧ (0 ≤ a2.toInt ∧ a2.toInt < (eA g0 233 0).toInt ∧ 0 ≤ a3.toInt ∧ a3.toInt < (eA g0 233 0).toInt) ∧ (eA g0 233 1).toInt < 8) ∧ i = 46 + 6 * (eA g0 233 1).toInt + 3) from fun z => kn z.1)).symm; refine Eq.trans ?_ (if_neg (show ¬ (((1 ≤ a1.toInt ∧ a1.toInt ≤ 9 ∧ 0 ≤ a4.toInt ∧ a4.toInt ≤ 99 ∧ 0 ≤ a5.toInt ∧ a5.toInt ≤ 9 ∧ 0 ≤ a6.toInt ∧ a6.toInt ≤ 9999) ∧ (0 ≤ a2.toInt ∧ a2.toInt < (eA g0 233 0).toInt ∧ 0 ≤ a3.toInt ∧ a3.toInt < (eA g0 233 0).toInt) ∧ (eA g0 233 1).toInt < 8) ∧ i = 46 + 6 * (eA g0 233 1).toInt + 4) from fun z => kn z.1)).symm; refine Eq.trans ?_ (if_neg (show ¬ (((1 ≤ a1.toInt ∧ a1.toInt ≤ 9 ∧ 0 ≤ a4.toInt ∧ a4.toInt ≤ 99 ∧ 0 ≤ a5.toInt ∧ a5.toInt ≤ 9 ∧ 0 ≤ a6.toInt ∧ a6.toInt ≤ 9999) ∧ (0 ≤ a2.toInt ∧ a2.toInt < (eA g0 233 0).toInt ∧ 0 ≤ a3.toInt ∧ a3.toInt < (eA g0 233 0).toInt) ∧ (eA g0 233 1).toInt < 8) ∧ i = 46 + 6 * (eA g0 233 1).toInt + 5) from fun z => kn z.1)).symm; refine (eA_ti (((hF509.2.1 233 (by decide)).trans (gA_sI)))).trans ?_; (first | rfl | exact eA_ix (by omega) | omega))⟩⟩
                    · have c506_ : v479.toInt ≤ v482.toInt := en_j_gt_f c506
                      refine At.enter rfl ?_
                      refine r_iconst 1 rfl ?_
                      refine r_goto ?_
                      refine At.enter rfl ?_
                      refine q_iretz (by decide) ?_
                      refine At.enter rfl ?_
                      refine q_iretz (by decide) ?_
                      refine At.enter rfl ?_
                      refine r_iff 32 rfl (by decide) ?_
                      refine At.enter rfl ?_
                      refine r_aload_n rfl ?_
                      refine r_iload_n rfl ?_
                      refine q_inlV 37 rfl [.ref 231, .int a3] [] (Nat.le_of_ble_eq_true rfl) rfl ?_
                      refine Ev.mk rfl rfl ⟨Nat.le_of_ble_eq_true rfl, Or.inr (q_rc hI281.1 kx_231 rfl)⟩ ?_
                      show At _ none _ _ (0, [(0, .ref 231), (1, .int a3)], [], (_, _)) _
                      refine At.enter rfl ?_
                      refine r_iload_n rfl ?_
                      refine q_i2l (fun v529 hv529 => ?_)
                      refine r_lconst 0 rfl ?_
                      refine r_aload_n rfl ?_
                      refine q_getR (Sh.ref hI281.1 kx_231 rfl) ?_
                      refine r_iconst 0 rfl ?_
                      refine q_iald (Sh.arr hI281.1 ka_233) 0 rfl (by decide) v480 ((eA_c (gA_sI)).trans hv480) ?_
                      refine q_i2l (fun v530 hv530 => ?_)
                      refine r_lconst 1 rfl ?_
                      refine q_lsub (v530.toInt - 1) rfl (by omega) (fun v531 hv531 => ?_)
                      refine q_inlS 15 rfl [.long v529, .long 0, .long v531] [] (Nat.le_of_ble_eq_true rfl) rfl ?_
                      refine Ev.mk rfl rfl ⟨Nat.le_of_ble_eq_true rfl, Or.inl rfl⟩ ?_
                      show At _ none _ _ (0, [(0, .long v529), (2, .long 0), (4, .long v531)], [], (_, _)) _
                      refine At.enter rfl ?_
                      refine r_lload_n rfl ?_
                      refine r_lload_n rfl ?_
                      refine r_lcmp _ rfl ?_
                      refine r_ifs 6 rfl (fun c532 => ?_) (fun c532 => ?_)
                      · have c532_ : v529.toInt < 0 := en_j_lt_t c532
                        refine At.enter rfl ?_
                        refine r_iconst 0 rfl ?_
                        refine Ar.fall 18 rfl ?_
                        refine At.enter rfl ?_
                        refine q_iretz (by decide) ?_
                        refine At.enter rfl ?_
                        refine q_iretz (by decide) ?_
                        refine At.enter rfl ?_
                        refine r_iff 40 rfl (by decide) ?_
                        refine At.enter rfl ?_
                        refine r_aload_n rfl ?_
                        refine r_bipush (-2) rfl ?_
                        refine r_callV 46 rfl [.ref 231, .int (-2)] [] (Nat.le_of_ble_eq_true rfl) rfl (T_X11_tell_231 _ hI281 (-2) (by decide)) ?_
                        rintro _ _ ⟨g533, rfl, hI534, hF535, v536, rfl, hr537⟩
                        refine At.sti ?_
                        have hF538 := Fr.tr hF282 hF535 rfl rfl
                        have zv539 : ((-2) : Int32).toInt = (-2) := rfl
                        refine At.enter rfl ?_
                        refine r_ireti ?_
                        obtain ⟨v540, hv540⟩ : ∃ v, eA g0 233 1 = v := ⟨_, rfl⟩
                        have tv540 := congrArg Int32.toInt hv540
                        have wv540 := HI.t1 hI0
                        rw [hv540] at wv540
                        have tv540 := congrArg Int32.toInt hv540
                        have x541 := HI.eqA hI534 (p := 233) (j := 1) ((((eA_c (hF535.2.1 233 (by decide))).trans (eA_c gA_sI)).trans hv540))
                        have x542 := HI.eqA hI534 (p := 233) (j := 0) ((((eA_c (hF535.2.1 233 (by decide))).trans (eA_c gA_sI)).trans hv480))
                        obtain ⟨v543, hv543⟩ : ∃ v, eA g0 233 4 = v := ⟨_, rfl⟩
                        have wv543 := HI.t4 hI0
                        rw [hv543] at wv543
                        have tv543 := congrArg Int32.toInt hv543
                        have x544 := HI.eqA hI534 (p := 233) (j := 4) ((((eA_c (hF535.2.1 233 (by decide))).trans (eA_c gA_sI)).trans hv543))
                        obtain ⟨v545, hv545⟩ : ∃ v, eA g0 233 5 = v := ⟨_, rfl⟩
                        have wv545 := HI.t5 hI0
                        rw [hv545] at wv545
                        have tv545 := congrArg Int32.toInt hv545
                        have x546 := HI.eqA hI534 (p := 233) (j := 5) ((((eA_c (hF535.2.1 233 (by decide))).trans (eA_c gA_sI)).trans hv545))
                        obtain ⟨v547, hv547⟩ : ∃ v, eA g0 233 6 = v := ⟨_, rfl⟩
                        have wv547 := HI.t6 hI0
                        rw [hv547] at wv547
                        have tv547 := congrArg Int32.toInt hv547
                        have x548 := HI.eqA hI534 (p := 233) (j := 6) ((((eA_c (hF535.2.1 233 (by decide))).trans (eA_c gA_sI)).trans hv547))
                        have x549 := HI.eqA hI0 (p := 233) (j := 1) (hv540)
                        have x550 := HI.eqA hI0 (p := 233) (j := 0) (hv480)
                        have x551 := HI.eqA hI0 (p := 233) (j := 0) (hv480)
                        have x552 := HI.eqA hI0 (p := 233) (j := 4) (hv543)
                        have x553 := HI.eqA hI0 (p := 233) (j := 5) (hv545)
                        have x554 := HI.eqA hI0 (p := 233) (j := 6) (hv547)
                        exact ⟨_, rfl, hI534, hF538, _, rfl, by omega, ⟨⟨by omega, by omega, by omega, by omega, by omega, by omega, by omega, by omega⟩, (by intro i i0 i1; refine (eA_ti (((hF535.2.1 233 (by decide)).trans (gA_sI)))).trans ?_; (first | rfl | exact eA_ix (by omega) | omega)), (by intro i i0 i1; refine (eA_ti (((hF535.2.1 233 (by decide)).trans (gA_sI)))).trans ?_; (first | rfl | exact eA_ix (by omega) | omega)), (by have kn : ¬ ((1 ≤ a1.toInt ∧ a1.toInt ≤ 9 ∧ 0 ≤ a4.toInt ∧ a4.toInt ≤ 99 ∧ 0 ≤ a5.toInt ∧ a5.toInt ≤ 9 ∧ 0 ≤ a6.toInt ∧ a6.toInt ≤ 9999) ∧ (0 ≤ a2.toInt ∧ a2.toInt < (eA g0 233 0).toInt ∧ 0 ≤ a3.toInt ∧ a3.toInt < (eA g0 233 0).toInt) ∧ (eA g0 233 1).toInt < 8) := (by omega); intro i i0 i1; refine Eq.trans ?_ (if_neg (show ¬ (((1 ≤ a1.toInt ∧ a1.toInt ≤ 9 ∧ 0 ≤ a4.toInt ∧ a4.toInt ≤ 99 ∧ 0 ≤ a5.toInt ∧ a5.toInt ≤ 9 ∧ 0 ≤ a6.toInt ∧ a6.toInt ≤ 9999) ∧ (0 ≤ a2.toInt ∧ a2.toInt < (eA g0 233 0).toInt ∧ 0 ≤ a3.toInt ∧ a3.toInt < (eA g0 233 0).toInt) ∧ (eA g0 233 1).toInt < 8) ∧ i = 46 + 6 * (eA g0 233 1).toInt + 0) from fun z => kn z.1)).symm; refine Eq.trans ?_ (if_neg (show ¬ (((1 ≤ a1.toInt ∧ a1.toInt ≤ 9 ∧ 0 ≤ a4.toInt ∧ a4.toInt ≤ 99 ∧ 0 ≤ a5.toInt ∧ a5.toInt ≤ 9 ∧ 0 ≤ a6.toInt ∧ a6.toInt ≤ 9999) ∧ (0 ≤ a2.toInt ∧ a2.toInt < (eA g0 233 0).toInt ∧ 0 ≤ a3.toInt ∧ a3.toInt < (eA g0 233 0).toInt) ∧ (eA g0 233 1).toInt < 8) ∧ i = 46 + 6 * (eA g0 233 1).toInt + 1) from fun z => kn z.1)).symm; refine Eq.trans ?_ (if_neg (show ¬ (((1 ≤ a1.toInt ∧ a1.toInt ≤ 9 ∧ 0 ≤ a4.toInt ∧ a4.toInt ≤ 99 ∧ 0 ≤ a5.toInt ∧ a5.toInt ≤ 9 ∧ 0 ≤ a6.toInt ∧ a6.toInt ≤ 9999) ∧ (0 ≤ a2.toInt ∧ a2.toInt < (eA g0 233 0).toInt ∧ 0 ≤ a3.toInt ∧ a3.toInt < (eA g0 233 0).toInt) ∧ (eA g0 233 1).toInt < 8) ∧ i = 46 + 6 * (eA g0 233 1).toInt + 2) from fun z => kn z.1)).symm; refine Eq.trans ?_ (if_neg (show ¬ (((1 ≤ a1.toInt ∧ a1.toInt ≤ 9 ∧ 0 ≤ a4.toInt ∧ a4.toInt ≤ 99 ∧ 0 ≤ a5.toInt ∧ a5.toInt ≤ 9 ∧ 0 ≤ a6.toInt ∧ a6.toInt ≤ 9999) ∧ (0 ≤ a2.toInt ∧ a2.toInt < (eA g0 233 0).toInt ∧ 0 ≤ a3.toInt ∧ a3.toInt < (eA g0 233 0).toInt) ∧ (eA g0 233 1).toInt < 8) ∧ i = 46 + 6 * (eA g0 233 1).toInt + 3) from fun z => kn z.1)).symm; refine Eq.trans ?_ (if_neg (show ¬ (((1 ≤ a1.toInt ∧ a1.toInt ≤ 9 ∧ 0 ≤ a4.toInt ∧ a4.toInt ≤ 99 ∧ 0 ≤ a5.toInt ∧ a5.toInt ≤ 9 ∧ 0 ≤ a6.toInt ∧ a6.toInt ≤ 9999) ∧ (0 ≤ a2.toInt ∧ a2.toInt < (eA g0 233 0).toInt ∧ 0 ≤ a3.toInt ∧ a3.toInt < (eA g0 233 0).toInt) ∧ (eA g0 233 1).toInt < 8) ∧ i = 46 + 6 * (eA g0 233 1).toInt + 4) from fun z => kn z.1)).symm; refine Eq.trans ?_ (if_neg (show ¬ (((1 ≤ a1.toInt ∧ a1.toInt ≤ 9 ∧ 0 ≤ a4.toInt ∧ a4.toInt ≤ 99 ∧ 0 ≤ a5.toInt ∧ a5.toInt ≤ 9 ∧ 0 ≤ a6.toInt ∧ a6.toInt ≤ 9999) ∧ (0 ≤ a2.toInt ∧ a2.toInt < (eA g0 233 0).toInt ∧ 0 ≤ a3.toInt ∧ a3.toInt < (eA g0 233 0).toInt) ∧ (eA g0 233 1).toInt < 8) ∧ i = 46 + 6 * (eA g0 233 1).toInt + 5) from fun z => kn z.1)).symm; refine (eA_ti (((hF535.2.1 233 (by decide)).trans (gA_sI)))).trans ?_; (first | rfl | exact eA_ix (by omega) | omega))⟩⟩
                      · have c532_ : v529.toInt ≥ 0 := en_j_lt_f c532
                        refine At.enter rfl ?_
                        refine r_lload_n rfl ?_
                        refine r_lload rfl ?_
                        refine r_lcmp _ rfl ?_
                        refine r_ifs 13 rfl (fun c555 => ?_) (fun c555 => ?_)
                        · have c555_ : v529.toInt > v531.toInt := en_j_gt_t c555
                          refine At.enter rfl ?_
                          refine r_iconst 0 rfl ?_
                          refine Ar.fall 18 rfl ?_
                          refine At.enter rfl ?_
                          refine q_iretz (by decide) ?_
                          refine At.enter rfl ?_
                          refine q_iretz (by decide) ?_
                          refine At.enter rfl ?_
                          refine r_iff 40 rfl (by decide) ?_
                          refine At.enter rfl ?_
                          refine r_aload_n rfl ?_
                          refine r_bipush (-2) rfl ?_
                          refine r_callV 46 rfl [.ref 231, .int (-2)] [] (Nat.le_of_ble_eq_true rfl) rfl (T_X11_tell_231 _ hI281 (-2) (by decide)) ?_
                          rintro _ _ ⟨g556, rfl, hI557, hF558, v559, rfl, hr560⟩
                          refine At.sti ?_
                          have hF561 := Fr.tr hF282 hF558 rfl rfl
                          have zv562 : ((-2) : Int32).toInt = (-2) := rfl
                          refine At.enter rfl ?_
                          refine r_ireti ?_
                          obtain ⟨v563, hv563⟩ : ∃ v, eA g0 233 1 = v := ⟨_, rfl⟩
                          have tv563 := congrArg Int32.toInt hv563
                          have wv563 := HI.t1 hI0
                          rw [hv563] at wv563
                          have tv563 := congrArg Int32.toInt hv563
                          have x564 := HI.eqA hI557 (p := 233) (j := 1) ((((eA_c (hF558.2.1 233 (by decide))).trans (eA_c gA_sI)).trans hv563))
                          have x565 := HI.eqA hI557 (p := 233) (j := 0) ((((eA_c (hF558.2.1 233 (by decide))).trans (eA_c gA_sI)).trans hv480))
                          obtain ⟨v566, hv566⟩ : ∃ v, eA g0 233 4 = v := ⟨_, rfl⟩
                          have wv566 := HI.t4 hI0
                          rw [hv566] at wv566
                          have tv566 := congrArg Int32.toInt hv566
                          have x567 := HI.eqA hI557 (p := 233) (j := 4) ((((eA_c (hF558.2.1 233 (by decide))).trans (eA_c gA_sI)).trans hv566))
                          obtain ⟨v568, hv568⟩ : ∃ v, eA g0 233 5 = v := ⟨_, rfl⟩
                          have wv568 := HI.t5 hI0
                          rw [hv568] at wv568
                          have tv568 := congrArg Int32.toInt hv568
                          have x569 := HI.eqA hI557 (p := 233) (j := 5) ((((eA_c (hF558.2.1 233 (by decide))).trans (eA_c gA_sI)).trans hv568))
                          obtain ⟨v570, hv570⟩ : ∃ v, eA g0 233 6 = v := ⟨_, rfl⟩
                          have wv570 := HI.t6 hI0
                          rw [hv570] at wv570
                          have tv570 := congrArg Int32.toInt hv570
                          have x571 := HI.eqA hI557 (p := 233) (j := 6) ((((eA_c (hF558.2.1 233 (by decide))).trans (eA_c gA_sI)).trans hv570))
                          have x572 := HI.eqA hI0 (p := 233) (j := 1) (hv563)
                          have x573 := HI.eqA hI0 (p := 233) (j := 0) (hv480)
                          have x574 := HI.eqA hI0 (p := 233) (j := 0) (hv480)
                          have x575 := HI.eqA hI0 (p := 233) (j := 4) (hv566)
                          have x576 := HI.eqA hI0 (p := 233) (j := 5) (hv568)
                          have x577 := HI.eqA hI0 (p := 233) (j := 6) (hv570)
                          exact ⟨_, rfl, hI557, hF561, _, rfl, by omega, ⟨⟨by omega, by omega, by omega, by omega, by omega, by omega, by omega, by omega⟩, (by intro i i0 i1; refine (eA_ti (((hF558.2.1 233 (by decide)).trans (gA_sI)))).trans ?_; (first | rfl | exact eA_ix (by omega) | omega)), (by intro i i0 i1; refine (eA_ti (((hF558.2.1 233 (by decide)).trans (gA_sI)))).trans ?_; (first | rfl | exact eA_ix (by omega) | omega)), (by have kn : ¬ ((1 ≤ a1.toInt ∧ a1.toInt ≤ 9 ∧ 0 ≤ a4.toInt ∧ a4.toInt ≤ 99 ∧ 0 ≤ a5.toInt ∧ a5.toInt ≤ 9 ∧ 0 ≤ a6.toInt ∧ a6.toInt ≤ 9999) ∧ (0 ≤ a2.toInt ∧ a2.toInt < (eA g0 233 0).toInt ∧ 0 ≤ a3.toInt ∧ a3.toInt < (eA g0 233 0).toInt) ∧ (eA g0 233 1).toInt < 8) := (by omega); intro i i0 i1; refine Eq.trans ?_ (if_neg (show ¬ (((1 ≤ a1.toInt ∧ a1.toInt ≤ 9 ∧ 0 ≤ a4.toInt ∧ a4.toInt ≤ 99 ∧ 0 ≤ a5.toInt ∧ a5.toInt ≤ 9 ∧ 0 ≤ a6.toInt ∧ a6.toInt ≤ 9999) ∧ (0 ≤ a2.toInt ∧ a2.toInt < (eA g0 233 0).toInt ∧ 0 ≤ a3.toInt ∧ a3.toInt < (eA g0 233 0).toInt) ∧ (eA g0 233 1).toInt < 8) ∧ i = 46 + 6 * (eA g0 233 1).toInt + 0) from fun z => kn z.1)).symm; refine Eq.trans ?_ (if_neg (show ¬ (((1 ≤ a1.toInt ∧ a1.toInt ≤ 9 ∧ 0 ≤ a4.toInt ∧ a4.toInt ≤ 99 ∧ 0 ≤ a5.toInt ∧ a5.toInt ≤ 9 ∧ 0 ≤ a6.toInt ∧ a6.toInt ≤ 9999) ∧ (0 ≤ a2.toInt ∧ a2.toInt < (eA g0 233 0).toInt ∧ 0 ≤ a3.toInt ∧ a3.toInt < (eA g0 233 0).toInt) ∧ (eA g0 233 1).toInt < 8) ∧ i = 46 + 6 * (eA g0 233 1).toInt + 1) from fun z => kn z.1)).symm; refine Eq.trans ?_ (if_neg (show ¬ (((1 ≤ a1.toInt ∧ a1.toInt ≤ 9 ∧ 0 ≤ a4.toInt ∧ a4.toInt ≤ 99 ∧ 0 ≤ a5.toInt ∧ a5.toInt ≤ 9 ∧ 0 ≤ a6.toInt ∧ a6.toInt ≤ 9999) ∧ (0 ≤ a2.toInt ∧ a2.toInt < (eA g0 233 0).toInt ∧ 0 ≤ a3.toInt ∧ a3.toInt < (eA g0 233 0).toInt) ∧ (eA g0 233 1).toInt < 8) ∧ i = 46 + 6 * (eA g0 233 1).toInt + 2) from fun z => kn z.1)).symm; refine Eq.trans ?_ (if_neg (show ¬ (((1 ≤ a1.toInt ∧ a1.toInt ≤ 9 ∧ 0 ≤ a4.toInt ∧ a4.toInt ≤ 99 ∧ 0 ≤ a5.toInt ∧ a5.toInt ≤ 9 ∧ 0 ≤ a6.toInt ∧ a6.toInt ≤ 9999) ∧ (0 ≤ a2.toInt ∧ a2.toInt < (eA g0 233 0).toInt ∧ 0 ≤ a3.toInt ∧ a3.toInt < (eA g0 233 0).toInt) ∧ (eA g0 233 1).toInt < 8) ∧ i = 46 + 6 * (eA g0 233 1).toInt + 3) from fun z => kn z.1)).symm; refine Eq.trans ?_ (if_neg (show ¬ (((1 ≤ a1.toInt ∧ a1.toInt ≤ 9 ∧ 0 ≤ a4.toInt ∧ a4.toInt ≤ 99 ∧ 0 ≤ a5.toInt ∧ a5.toInt ≤ 9 ∧ 0 ≤ a6.toInt ∧ a6.toInt ≤ 9999) ∧ (0 ≤ a2.toInt ∧ a2.toInt < (eA g0 233 0).toInt ∧ 0 ≤ a3.toInt ∧ a3.toInt < (eA g0 233 0).toInt) ∧ (eA g0 233 1).toInt < 8) ∧ i = 46 + 6 * (eA g0 233 1).toInt + 4) from fun z => kn z.1)).symm; refine Eq.trans ?_ (if_neg (show ¬ (((1 ≤ a1.toInt ∧ a1.toInt ≤ 9 ∧ 0 ≤ a4.toInt ∧ a4.toInt ≤ 99 ∧ 0 ≤ a5.toInt ∧ a5.toInt ≤ 9 ∧ 0 ≤ a6.toInt ∧ a6.toInt ≤ 9999) ∧ (0 ≤ a2.toInt ∧ a2.toInt < (eA g0 233 0).toInt ∧ 0 ≤ a3.toInt ∧ a3.toInt < (eA g0 233 0).toInt) ∧ (eA g0 233 1).toInt < 8) ∧ i = 46 + 6 * (eA g0 233 1).toInt + 5) from fun z => kn z.1)).symm; refine (eA_ti (((hF558.2.1 233 (by decide)).trans (gA_sI)))).trans ?_; (first | rfl | exact eA_ix (by omega) | omega))⟩⟩
                        · have c555_ : v529.toInt ≤ v531.toInt := en_j_gt_f c555
                          refine At.enter rfl ?_
                          refine r_iconst 1 rfl ?_
                          refine r_goto ?_
                          refine At.enter rfl ?_
                          refine q_iretz (by decide) ?_
                          refine At.enter rfl ?_
                          refine q_iretz (by decide) ?_
                          refine At.enter rfl ?_
                          refine r_ift (by decide) ?_
                          refine At.enter rfl ?_
                          refine r_aload_n rfl ?_
                          refine q_getR (Sh.ref hI281.1 kx_231 rfl) ?_
                          refine r_iconst 1 rfl ?_
                          obtain ⟨v578, hv578⟩ : ∃ v, eA g0 233 1 = v := ⟨_, rfl⟩
                          have tv578 := congrArg Int32.toInt hv578
                          have wv578 := HI.t1 hI0
                          rw [hv578] at wv578
                          refine q_iald (Sh.arr hI281.1 ka_233) 1 rfl (by decide) v578 ((eA_c (gA_sI)).trans hv578) ?_
                          refine r_bipush 8 rfl ?_
                          refine r_ics 58 rfl (fun c579 => ?_) (fun c579 => ?_)
                          · have c579_ : v578.toInt ≠ 8 := en_i_ne_t c579
                            refine At.enter rfl ?_
                            refine r_aload_n rfl ?_
                            refine r_iload_n rfl ?_
                            refine r_iload_n rfl ?_
                            refine r_iload_n rfl ?_
                            refine r_iload rfl ?_
                            refine r_iload rfl ?_
                            refine r_iload rfl ?_
                            have x580 := HI.eqA hI281 (p := 233) (j := 0) (((eA_c gA_sI).trans hv480))
                            have x581 := HI.eqA hI281 (p := 233) (j := 1) (((eA_c gA_sI).trans hv578))
                            refine r_callV 78 rfl [.ref 231, .int a1, .int a2, .int a3, .int a4, .int a5, .int a6] [] (Nat.le_of_ble_eq_true rfl) rfl (T_X11_addLoad_231 _ hI281 a1 (by omega) a2 (by omega) a3 (by omega) a4 (by omega) a5 (by omega) a6 (by omega) (by omega) (by omega) (by omega)) ?_
                            rintro _ _ ⟨g582, rfl, hI583, hF584, rfl, hr586⟩
                            refine At.stn ?_
                            have hF587 := Fr.tr hF282 hF584 rfl rfl
                            obtain ⟨v588, hv588⟩ : ∃ v, eA g0 233 2 = v := ⟨_, rfl⟩
                            have tv588 := congrArg Int32.toInt hv588
                            have wv588 := HI.t2 hI0
                            rw [hv588] at wv588
                            have tv588 := congrArg Int32.toInt hv588
                            obtain ⟨v589, hv589⟩ : ∃ v, eA g0 233 4 = v := ⟨_, rfl⟩
                            have wv589 := HI.t4 hI0
                            rw [hv589] at wv589
                            have tv589 := congrArg Int32.toInt hv589
                            obtain ⟨v590, hv590⟩ : ∃ v, eA g0 233 5 = v := ⟨_, rfl⟩
                            have wv590 := HI.t5 hI0
                            rw [hv590] at wv590
                            have tv590 := congrArg Int32.toInt hv590
                            obtain ⟨v591, hv591⟩ : ∃ v, eA g0 233 6 = v := ⟨_, rfl⟩
                            have wv591 := HI.t6 hI0
                            rw [hv591] at wv591
                            have tv591 := congrArg Int32.toInt hv591
                            obtain ⟨v592, hv592⟩ : ∃ v, eA g582 233 1 = v := ⟨_, rfl⟩
                            have y593 := hr586.2.1
                            have tv592 := congrArg Int32.toInt hv592
                            have x594 := HI.eqA hI281 (p := 233) (j := 1) (((eA_c gA_sI).trans hv578))
                            have fq595 := hr586.2.2.2
                            rw [show (eA _ 233 1).toInt = (eA g0 233 1).toInt from eA_ti (j := 1) ((gA_sI))] at fq595
                            have lw_v592 := fun i h0 h1 => congrArg Int32.toInt (hr586.1 i (Int.le_trans (by decide) h0) h1 (fun e => absurd (e ▸ h0 : (10 : Int) ≤ 1) (by decide)))
                            refine At.enter rfl ?_
                            refine r_aload_n rfl ?_
                            refine r_aload_n rfl ?_
                            refine q_getR (Sh.ref hI583.1 kx_231 rfl) ?_
                            refine r_iconst 1 rfl ?_
                            refine q_iald (Sh.arr hI583.1 ka_233) 1 rfl (by decide) v592 hv592 ?_
                            refine r_iconst 1 rfl ?_
                            refine q_isub (v592.toInt - 1) rfl (by omega) (fun v596 hv596 => ?_)
                            refine r_callV 90 rfl [.ref 231, .int v596] [] (Nat.le_of_ble_eq_true rfl) rfl (T_X11_tell_231 _ hI583 v596 (by omega)) ?_
                            rintro _ _ ⟨g597, rfl, hI598, hF599, v600, rfl, hr601⟩
                            refine At.sti ?_
                            have hF602 := Fr.tr hF587 hF599 rfl rfl
                            refine At.enter rfl ?_
                            refine r_ireti ?_
                            have x603 := HI.eqA hI598 (p := 233) (j := 1) (((eA_c (hF599.2.1 233 (by decide))).trans hv592))
                            have x604 := HI.eqA hI598 (p := 233) (j := 0) (((eA_c (hF599.2.1 233 (by decide))).trans ((hr586.1 0 (by decide) (by decide) (by decide)).trans ((eA_c gA_sI).trans hv480))))
                            have x605 := HI.eqA hI598 (p := 233) (j := 4) (((eA_c (hF599.2.1 233 (by decide))).trans ((hr586.1 4 (by decide) (by decide) (by decide)).trans ((eA_c gA_sI).trans hv589))))
                            have x606 := HI.eqA hI598 (p := 233) (j := 5) (((eA_c (hF599.2.1 233 (by decide))).trans ((hr586.1 5 (by decide) (by decide) (by decide)).trans ((eA_c gA_sI).trans hv590))))
                            have x607 := HI.eqA hI598 (p := 233) (j := 6) (((eA_c (hF599.2.1 233 (by decide))).trans ((hr586.1 6 (by decide) (by decide) (by decide)).trans ((eA_c gA_sI).trans hv591))))
                            have x608 := HI.eqA hI0 (p := 233) (j := 1) (hv578)
                            have x609 := HI.eqA hI0 (p := 233) (j := 0) (hv480)
                            have x610 := HI.eqA hI0 (p := 233) (j := 0) (hv480)
                            have x611 := HI.eqA hI0 (p := 233) (j := 4) (hv589)
                            have x612 := HI.eqA hI0 (p := 233) (j := 5) (hv590)
                            have x613 := HI.eqA hI0 (p := 233) (j := 6) (hv591)
                            exact ⟨_, rfl, hI598, hF602, _, rfl, by omega, ⟨⟨by omega, by omega, by omega, by omega, by omega, by omega, by omega, by omega⟩, (by intro i i0 i1; refine (eA_ti ((hF599.2.1 233 (by decide)))).trans ?_; (first | (refine ((hr586.2.2.1 (i) (by omega) (by omega))).trans ?_; refine (eA_ti ((gA_sI))).trans ?_; (first | rfl | exact eA_ix (by omega) | omega)) | (refine ((fq595 (i) (by omega) (by omega))).trans ?_; exact (Decidable.em ((i) = 46 + 6 * (eA g0 233 1).toInt + 0)).elim (fun k259_ => by refine (if_pos k259_).trans ?_; (first | rfl | exact eA_ix (by omega) | omega)) (fun k259_ => by refine (if_neg k259_).trans ?_; exact (Decidable.em ((i) = 46 + 6 * (eA g0 233 1).toInt + 1)).elim (fun k260_ => by refine (if_pos k260_).trans ?_; (first | rfl | exact eA_ix (by omega) | omega)) (fun k260_ => by refine (if_neg k260_).trans ?_; exact (Decidable.em ((i) = 46 + 6 * (eA g0 233 1).toInt + 2)).elim (fun k261_ => by refine (if_pos k261_).trans ?_; (first | rfl | exact eA_ix (by omega) | omega)) (fun k261_ => by refine (if_neg k261_).trans ?_; exact (Decidable.em ((i) = 46 + 6 * (eA g0 233 1).toInt + 3)).elim (fun k262_ => by refine (if_pos k262_).trans ?_; (first | rfl | exact eA_ix (by omega) | omega)) (fun k262_ => by refine (if_neg k262_).trans ?_; exact (Decidable.em ((i) = 46 + 6 * (eA g0 233 1).toInt + 4)).elim (fun k263_ => by refine (if_pos k263_).trans ?_; (first | rfl | exact eA_ix (by omega) | omega)) (fun k263_ => by refine (if_neg k263_).trans ?_; exact (Decidable.em ((i) = 46 + 6 * (eA g0 233 1).toInt + 5)).elim (fun k264_ => by refine (if_pos k264_).trans ?_; (first | rfl | exact eA_ix (by omega) | omega)) (fun k264_ => by refine (if_neg k264_).trans ?_; refine (eA_ti ((gA_sI))).trans ?_; (first | rfl | exact eA_ix (by omega) | omega)))))))) | (refine ((lw_v592 (i) (by omega) (by omega))).trans ?_; refine (eA_ti ((gA_sI))).trans ?_; (first | rfl | exact eA_ix (by omega) | omega)))), (by intro i i0 i1; refine (eA_ti ((hF599.2.1 233 (by decide)))).trans ?_; (first | (refine ((hr586.2.2.1 (i) (by omega) (by omega))).trans ?_; refine (eA_ti ((gA_sI))).trans ?_; (first | rfl | exact eA_ix (by omega) | omega)) | (refine ((fq595 (i) (by omega) (by omega))).trans ?_; exact (Decidable.em ((i) = 46 + 6 * (eA g0 233 1).toInt + 0)).elim (fun k265_ => by refine (if_pos k265_).trans ?_; (first | rfl | exact eA_ix (by omega) | omega)) (fun k265_ => by refine (if_neg k265_).trans ?_; exact (Decidable.em ((i) = 46 + 6 * (eA g0 233 1).toInt + 1)).elim (fun k266_ => by refine (if_pos k266_).trans ?_; (first | rfl | exact eA_ix (by omega) | omega)) (fun k266_ => by refine (if_neg k266_).trans ?_; exact (Decidable.em ((i) = 46 + 6 * (eA g0 233 1).toInt + 2)).elim (fun k267_ => by refine (if_pos k267_).trans ?_; (first | rfl | exact eA_ix (by omega) | omega)) (fun k267_ => by refine (if_neg k267_).trans ?_; exact (Decidable.em ((i) = 46 + 6 * (eA g0 233 1).toInt + 3)).elim (fun k268_ => by refine (if_pos k268_).trans ?_; (first | rfl | exact eA_ix (by omega) | omega)) (fun k268_ => by refine (if_neg k268_).trans ?_; exact (Decidable.em ((i) = 46 + 6 * (eA g0 233 1).toInt + 4)).elim (fun k269_ => by refine (if_pos k269_).trans ?_; (first | rfl | exact eA_ix (by omega) | omega)) (fun k269_ => by refine (if_neg k269_).trans ?_; exact (Decidable.em ((i) = 46 + 6 * (eA g0 233 1).toInt + 5)).elim (fun k270_ => by refine (if_pos k270_).trans ?_; (first | rfl | exact eA_ix (by omega) | omega)) (fun k270_ => by refine (if_neg k270_).trans ?_; refine (eA_ti ((gA_sI))).trans ?_; (first | rfl | exact eA_ix (by omega) | omega)))))))) | (refine ((lw_v592 (i) (by omega) (by omega))).trans ?_; refine (eA_ti ((gA_sI))).trans ?_; (first | rfl | exact eA_ix (by omega) | omega)))), (by have kp : (1 ≤ a1.toInt ∧ a1.toInt ≤ 9 ∧ 0 ≤ a4.toInt ∧ a4.toInt ≤ 99 ∧ 0 ≤ a5.toInt ∧ a5.toInt ≤ 9 ∧ 0 ≤ a6.toInt ∧ a6.toInt ≤ 9999) ∧ (0 ≤ a2.toInt ∧ a2.toInt < (eA g0 233 0).toInt ∧ 0 ≤ a3.toInt ∧ a3.toInt < (eA g0 233 0).toInt) ∧ (eA g0 233 1).toInt < 8 := (by omega); intro i i0 i1; exact (Decidable.em (i = 46 + 6 * (eA g0 233 1).toInt + 0)).elim (fun k271_ => by refine Eq.trans ?_ (if_pos ⟨kp, k271_⟩).symm; refine (eA_ti ((hF599.2.1 233 (by decide)))).trans ?_; (first | (refine ((hr586.2.2.1 (i) (by omega) (by omega))).trans ?_; refine (eA_ti ((gA_sI))).trans ?_; (first | rfl | exact eA_ix (by omega) | omega)) | (refine ((fq595 (i) (by omega) (by omega))).trans ?_; exact (Decidable.em ((i) = 46 + 6 * (eA g0 233 1).toInt + 0)).elim (fun k272_ => by refine (if_pos k272_).trans ?_; (first | rfl | exact eA_ix (by omega) | omega)) (fun k272_ => by refine (if_neg k272_).trans ?_; exact (Decidable.em ((i) = 46 + 6 * (eA g0 233 1).toInt + 1)).elim (fun k273_ => by refine (if_pos k273_).trans ?_; (first | rfl | exact eA_ix (by omega) | omega)) (fun k273_ => by refine (if_neg k273_).trans ?_; exact (Decidable.em ((i) = 46 + 6 * (eA g0 233 1).toInt + 2)).elim (fun k274_ => by refine (if_pos k274_).trans ?_; (first | rfl | exact eA_ix (by omega) | omega)) (fun k274_ => by refine (if_neg k274_).trans ?_; exact (Decidable.em ((i) = 46 + 6 * (eA g0 233 1).toInt + 3)).elim (fun k275_ => by refine (if_pos k275_).trans ?_; (first | rfl | exact eA_ix (by omega) | omega)) (fun k275_ => by refine (if_neg k275_).trans ?_; exact (Decidable.em ((i) = 46 + 6 * (eA g0 233 1).toInt + 4)).elim (fun k276_ => by refine (if_pos k276_).trans ?_; (first | rfl | exact eA_ix (by omega) | omega)) (fun k276_ => by refine (if_neg k276_).trans ?_; exact (Decidable.em ((i) = 46 + 6 * (eA g0 233 1).toInt + 5)).elim (fun k277_ => by refine (if_pos k277_).trans ?_; (first | rfl | exact eA_ix (by omega) | omega)) (fun k277_ => by refine (if_neg k277_).trans ?_; refine (eA_ti ((gA_sI))).trans ?_; (first | rfl | exact eA_ix (by omega) | omega)))))))) | (refine ((lw_v592 (i) (by omega) (by omega))).trans ?_; refine (eA_ti ((gA_sI))).trans ?_; (first | rfl | exact eA_ix (by omega) | omega)))) (fun k271_ => by refine Eq.trans ?_ (if_neg (fun z => k271_ z.2)).symm; exact (Decidable.em (i = 46 + 6 * (eA g0 233 1).toInt + 1)).elim (fun k278_ => by refine Eq.trans ?_ (if_pos ⟨kp, k278_⟩).symm; refine (eA_ti ((hF599.2.1 233 (by decide)))).trans ?_; (first | (refine ((hr586.2.2.1 (i) (by omega) (by omega))).trans ?_; refine (eA_ti ((gA_sI))).trans ?_; (first | rfl | exact eA_ix (by omega) | omega)) | (refine ((fq595 (i) (by omega) (by omega))).trans ?_; exact (Decidable.em ((i) = 46 + 6 * (eA g0 233 1).toInt + 0)).elim (fun k279_ => by refine (if_pos k279_).trans ?_; (first | rfl | exact eA_ix (by omega) | omega)) (fun k279_ => by refine (if_neg k279_).trans ?_; exact (Decidable.em ((i) = 46 + 6 * (eA g0 233 1).toInt + 1)).elim (fun k280_ => by refine (if_pos k280_).trans ?_; (first | rfl | exact eA_ix (by omega) | omega)) (fun k280_ => by refine (if_neg k280_).trans ?_; exact (Decidable.em ((i) = 46 + 6 * (eA g0 233 1).toInt + 2)).elim (fun k281_ => by refine (if_pos k281_).trans ?_; (first | rfl | exact eA_ix (by omega) | omega)) (fun k281_ => by refine (if_neg k281_).trans ?_; exact (Decidable.em ((i) = 46 + 6 * (eA g0 233 1).toInt + 3)).elim (fun k282_ => by refine (if_pos k282_).trans ?_; (first | rfl | exact eA_ix (by omega) | omega)) (fun k282_ => by refine (if_neg k282_).trans ?_; exact (Decidable.em ((i) = 46 + 6 * (eA g0 233 1).toInt + 4)).elim (fun k283_ => by refine (if_pos k283_).trans ?_; (first | rfl | exact eA_ix (by omega) | omega)) (fun k283_ => by refine (if_neg k283_).trans ?_; exact (Decidable.em ((i) = 46 + 6 * (eA g0 233 1).toInt + 5)).elim (fun k284_ => by refine (if_pos k284_).trans ?_; (first | rfl | exact eA_ix (by omega) | omega)) (fun k284_ => by refine (if_neg k284_).trans ?_; refine (eA_ti ((gA_sI))).trans ?_; (first | rfl | exact eA_ix (by omega) | omega)))))))) | (refine ((lw_v592 (i) (by omega) (by omega))).trans ?_; refine (eA_ti ((gA_sI))).trans ?_; (first | rfl | exact eA_ix (by omega) | omega)))) (fun k278_ => by refine Eq.trans ?_ (if_neg (fun z => k278_ z.2)).symm; exact (Decidable.em (i = 46 + 6 * (eA g0 233 1).toInt + 2)).elim (fun k285_ => by refine Eq.trans ?_ (if_pos ⟨kp, k285_⟩).symm; refine (eA_ti ((hF599.2.1 233 (by decide)))).trans ?_; (first | (refine ((hr586.2.2.1 (i) (by omega) (by omega))).trans ?_; refine (eA_ti ((gA_sI))).trans ?_; (first | rfl | exact eA_ix (by omega) | omega)) | (refine ((fq595 (i) (by omega) (by omega))).trans ?_; exact (Decidable.em ((i) = 46 + 6 * (eA g0 233 1).toInt + 0)).elim (fun k286_ => by refine (if_pos k286_).trans ?_; (first | rfl | exact eA_ix (by omega) | omega)) (fun k286_ => by refine (if_neg k286_).trans ?_; exact (Decidable.em ((i) = 46 + 6 * (eA g0 233 1).toInt + 1)).elim (fun k287_ => by refine (if_pos k287_).trans ?_; (first | rfl | exact eA_ix (by omega) | omega)) (fun k287_ => by refine (if_neg k287_).trans ?_; exact (Decidable.em ((i) = 46 + 6 * (eA g0 233 1).toInt + 2)).elim (fun k288_ => by refine (if_pos k288_).trans ?_; (first | rfl | exact eA_ix (by omega) | omega)) (fun k288_ => by refine (if_neg k288_).trans ?_; exact (Decidable.em ((i) = 46 + 6 * (eA g0 233 1).toInt + 3)).elim (fun k289_ => by refine (if_pos k289_).trans ?_; (first | rfl | exact eA_ix (by omega) | omega)) (fun k289_ => by refine (if_neg k289_).trans ?_; exact (Decidable.em ((i) = 46 + 6 * (eA g0 233 1).toInt + 4)).elim (fun k290_ => by refine (if_pos k290_).trans ?_; (first | rfl | exact eA_ix (by omega) | omega)) (fun k290_ => by refine (if_neg k290_).trans ?_; exact (Decidable.em ((i) = 46 + 6 * (eA g0 233 1).toInt + 5)).elim (fun k291_ => by refine (if_pos k291_).trans ?_; (first | rfl | exact eA_ix (by omega) | omega)) (fun k291_ => by refine (if_neg k291_).trans ?_; refine (eA_ti ((gA_sI))).trans ?_; (first | rfl | exact eA_ix (by omega) | omega)))))))) | (refine ((lw_v592 (i) (by omega) (by omega))).trans ?_; refine (eA_ti ((gA_sI))).trans ?_; (first | rfl | exact eA_ix (by omega) | omega)))) (fun k285_ => by refine Eq.trans ?_ (if_neg (fun z => k285_ z.2)).symm; exact (Decidable.em (i = 46 + 6 * (eA g0 233 1).toInt + 3)).elim (fun k292_ => by refine Eq.trans ?_ (if_pos ⟨kp, k292_⟩).symm; refine (eA_ti ((hF599.2.1 233 (by decide)))).trans ?_; (first | (refine ((hr586.2.2.1 (i) (by omega) (by omega))).trans ?_; refine (eA_ti ((gA_sI))).trans ?_; (first | rfl | exact eA_ix (by omega) | omega)) | (refine ((fq595 (i) (by omega) (by omega))).trans ?_; exact (Decidable.em ((i) = 46 + 6 * (eA g0 233 1).toInt + 0)).elim (fun k293_ => by refine (if_pos k293_).trans ?_; (first | rfl | exact eA_ix (by omega) | omega)) (fun k293_ => by refine (if_neg k293_).trans ?_; exact (Decidable.em ((i) = 46 + 6 * (eA g0 233 1).toInt + 1)).elim (fun k294_ => by refine (if_pos k294_).trans ?_; (first | rfl | exact eA_ix (by omega) | omega)) (fun k294_ => by refine (if_neg k294_).trans ?_; exact (Decidable.em ((i) = 46 + 6 * (eA g0 233 1).toInt + 2)).elim (fun k295_ => by refine (if_pos k295_).trans ?_; (first | rfl | exact eA_ix (by omega) | omega)) (fun k295_ => by refine (if_neg k295_).trans ?_; exact (Decidable.em ((i) = 46 + 6 * (eA g0 233 1).toInt + 3)).elim (fun k296_ => by refine (if_pos k296_).trans ?_; (first | rfl | exact eA_ix (by omega) | omega)) (fun k296_ => by refine (if_neg k296_).trans ?_; exact (Decidable.em ((i) = 46 + 6 * (eA g0 233 1).toInt + 4)).elim (fun k297_ => by refine (if_pos k297_).trans ?_; (first | rfl | exact eA_ix (by omega) | omega)) (fun k297_ => by refine (if_neg k297_).trans ?_; exact (Decidable.em ((i) = 46 + 6 * (eA g0 233 1).toInt + 5)).elim (fun k298_ => by refine (if_pos k298_).trans ?_; (first | rfl | exact eA_ix (by omega) | omega)) (fun k298_ => by refine (if_neg k298_).trans ?_; refine (eA_ti ((gA_sI))).trans ?_; (first | rfl | exact eA_ix (by omega) | omega)))))))) | (refine ((lw_v592 (i) (by omega) (by omega))).trans ?_; refine (eA_ti ((gA_sI))).trans ?_; (first | rfl | exact eA_ix (by omega) | omega)))) (fun k292_ => by refine Eq.trans ?_ (if_neg (fun z => k292_ z.2)).symm; exact (Decidable.em (i = 46 + 6 * (eA g0 233 1).toInt + 4)).elim (fun k299_ => by refine Eq.trans ?_ (if_pos ⟨kp, k299_⟩).symm; refine (eA_ti ((hF599.2.1 233 (by decide)))).trans ?_; (first | (refine ((hr586.2.2.1 (i) (by omega) (by omega))).trans ?_; refine (eA_ti ((gA_sI))).trans ?_; (first | rfl | exact eA_ix (by omega) | omega)) | (refine ((fq595 (i) (by omega) (by omega))).trans ?_; exact (Decidable.em ((i) = 46 + 6 * (eA g0 233 1).toInt + 0)).elim (fun k300_ => by refine (if_pos k300_).trans ?_; (first | rfl | exact eA_ix (by omega) | omega)) (fun k300_ => by refine (if_neg k300_).trans ?_; exact (Decidable.em ((i) = 46 + 6 * (eA g0 233 1).toInt + 1)).elim (fun k301_ => by refine (if_pos k301_).trans ?_; (first | rfl | exact eA_ix (by omega) | omega)) (fun k301_ => by refine (if_neg k301_).trans ?_; exact (Decidable.em ((i) = 46 + 6 * (eA g0 233 1).toInt + 2)).elim (fun k302_ => by refine (if_pos k302_).trans ?_; (first | rfl | exact eA_ix (by omega) | omega)) (fun k302_ => by refine (if_neg k302_).trans ?_; exact (Decidable.em ((i) = 46 + 6 * (eA g0 233 1).toInt + 3)).elim (fun k303_ => by refine (if_pos k303_).trans ?_; (first | rfl | exact eA_ix (by omega) | omega)) (fun k303_ => by refine (if_neg k303_).trans ?_; exact (Decidable.em ((i) = 46 + 6 * (eA g0 233 1).toInt + 4)).elim (fun k304_ => by refine (if_pos k304_).trans ?_; (first | rfl | exact eA_ix (by omega) | omega)) (fun k304_ => by refine (if_neg k304_).trans ?_; exact (Decidable.em ((i) = 46 + 6 * (eA g0 233 1).toInt + 5)).elim (fun k305_ => by refine (if_pos k305_).trans ?_; (first | rfl | exact eA_ix (by omega) | omega)) (fun k305_ => by refine (if_neg k305_).trans ?_; refine (eA_ti ((gA_sI))).trans ?_; (first | rfl | exact eA_ix (by omega) | omega)))))))) | (refine ((lw_v592 (i) (by omega) (by omega))).trans ?_; refine (eA_ti ((gA_sI))).trans ?_; (first | rfl | exact eA_ix (by omega) | omega)))) (fun k299_ => by refine Eq.trans ?_ (if_neg (fun z => k299_ z.2)).symm; exact (Decidable.em (i = 46 + 6 * (eA g0 233 1).toInt + 5)).elim (fun k306_ => by refine Eq.trans ?_ (if_pos ⟨kp, k306_⟩).symm; refine (eA_ti ((hF599.2.1 233 (by decide)))).trans ?_; (first | (refine ((hr586.2.2.1 (i) (by omega) (by omega))).trans ?_; refine (eA_ti ((gA_sI))).trans ?_; (first | rfl | exact eA_ix (by omega) | omega)) | (refine ((fq595 (i) (by omega) (by omega))).trans ?_; exact (Decidable.em ((i) = 46 + 6 * (eA g0 233 1).toInt + 0)).elim (fun k307_ => by refine (if_pos k307_).trans ?_; (first | rfl | exact eA_ix (by omega) | omega)) (fun k307_ => by refine (if_neg k307_).trans ?_; exact (Decidable.em ((i) = 46 + 6 * (eA g0 233 1).toInt + 1)).elim (fun k308_ => by refine (if_pos k308_).trans ?_; (first | rfl | exact eA_ix (by omega) | omega)) (fun k308_ => by refine (if_neg k308_).trans ?_; exact (Decidable.em ((i) = 46 + 6 * (eA g0 233 1).toInt + 2)).elim (fun k309_ => by refine (if_pos k309_).trans ?_; (first | rfl | exact eA_ix (by omega) | omega)) (fun k309_ => by refine (if_neg k309_).trans ?_; exact (Decidable.em ((i) = 46 + 6 * (eA g0 233 1).toInt + 3)).elim (fun k310_ => by refine (if_pos k310_).trans ?_; (first | rfl | exact eA_ix (by omega) | omega)) (fun k310_ => by refine (if_neg k310_).trans ?_; exact (Decidable.em ((i) = 46 + 6 * (eA g0 233 1).toInt + 4)).elim (fun k311_ => by refine (if_pos k311_).trans ?_; (first | rfl | exact eA_ix (by omega) | omega)) (fun k311_ => by refine (if_neg k311_).trans ?_; exact (Decidable.em ((i) = 46 + 6 * (eA g0 233 1).toInt + 5)).elim (fun k312_ => by refine (if_pos k312_).trans ?_; (first | rfl | exact eA_ix (by omega) | omega)) (fun k312_ => by refine (if_neg k312_).trans ?_; refine (eA_ti ((gA_sI))).trans ?_; (first | rfl | exact eA_ix (by omega) | omega)))))))) | (refine ((lw_v592 (i) (by omega) (by omega))).trans ?_; refine (eA_ti ((gA_sI))).trans ?_; (first | rfl | exact eA_ix (by omega) | omega)))) (fun k306_ => by refine Eq.trans ?_ (if_neg (fun z => k306_ z.2)).symm; refine (eA_ti ((hF599.2.1 233 (by decide)))).trans ?_; (first | (refine ((hr586.2.2.1 (i) (by omega) (by omega))).trans ?_; refine (eA_ti ((gA_sI))).trans ?_; (first | rfl | exact eA_ix (by omega) | omega)) | (refine ((fq595 (i) (by omega) (by omega))).trans ?_; exact (Decidable.em ((i) = 46 + 6 * (eA g0 233 1).toInt + 0)).elim (fun k313_ => by refine (if_pos k313_).trans ?_; (first | rfl | exact eA_ix (by omega) | omega)) (fun k313_ => by refine (if_neg k313_).trans ?_; exact (Decidable.em ((i) = 46 + 6 * (eA g0 233 1).toInt + 1)).elim (fun k314_ => by refine (if_pos k314_).trans ?_; (first | rfl | exact eA_ix (by omega) | omega)) (fun k314_ => by refine (if_neg k314_).trans ?_; exact (Decidable.em ((i) = 46 + 6 * (eA g0 233 1).toInt + 2)).elim (fun k315_ => by refine (if_pos k315_).trans ?_; (first | rfl | exact eA_ix (by omega) | omega)) (fun k315_ => by refine (if_neg k315_).trans ?_; exact (Decidable.em ((i) = 46 + 6 * (eA g0 233 1).toInt + 3)).elim (fun k316_ => by refine (if_pos k316_).trans ?_; (first | rfl | exact eA_ix (by omega) | omega)) (fun k316_ => by refine (if_neg k316_).trans ?_; exact (Decidable.em ((i) = 46 + 6 * (eA g0 233 1).toInt + 4)).elim (fun k317_ => by refine (if_pos k317_).trans ?_; (first | rfl | exact eA_ix (by omega) | omega)) (fun k317_ => by refine (if_neg k317_).trans ?_; exact (Decidable.em ((i) = 46 + 6 * (eA g0 233 1).toInt + 5)).elim (fun k318_ => by refine (if_pos k318_).trans ?_; (first | rfl | exact eA_ix (by omega) | omega)) (fun k318_ => by refine (if_neg k318_).trans ?_; refine (eA_ti ((gA_sI))).trans ?_; (first | rfl | exact eA_ix (by omega) | omega)))))))) | (refine ((lw_v592 (i) (by omega) (by omega))).trans ?_; refine (eA_ti ((gA_sI))).trans ?_; (first | rfl | exact eA_ix (by omega) | omega))))))))))⟩⟩
                          · have c579_ : v578.toInt = 8 := en_i_ne_f c579
                            refine At.enter rfl ?_
                            refine r_aload_n rfl ?_
                            refine r_bipush (-5) rfl ?_
                            refine r_callV 64 rfl [.ref 231, .int (-5)] [] (Nat.le_of_ble_eq_true rfl) rfl (T_X11_tell_231 _ hI281 (-5) (by decide)) ?_
                            rintro _ _ ⟨g614, rfl, hI615, hF616, v617, rfl, hr618⟩
                            refine At.sti ?_
                            have hF619 := Fr.tr hF282 hF616 rfl rfl
                            have zv620 : ((-5) : Int32).toInt = (-5) := rfl
                            refine At.enter rfl ?_
                            refine r_ireti ?_
                            have x621 := HI.eqA hI615 (p := 233) (j := 1) ((((eA_c (hF616.2.1 233 (by decide))).trans (eA_c gA_sI)).trans hv578))
                            have x622 := HI.eqA hI615 (p := 233) (j := 0) ((((eA_c (hF616.2.1 233 (by decide))).trans (eA_c gA_sI)).trans hv480))
                            obtain ⟨v623, hv623⟩ : ∃ v, eA g0 233 4 = v := ⟨_, rfl⟩
                            have wv623 := HI.t4 hI0
                            rw [hv623] at wv623
                            have tv623 := congrArg Int32.toInt hv623
                            have x624 := HI.eqA hI615 (p := 233) (j := 4) ((((eA_c (hF616.2.1 233 (by decide))).trans (eA_c gA_sI)).trans hv623))
                            obtain ⟨v625, hv625⟩ : ∃ v, eA g0 233 5 = v := ⟨_, rfl⟩
                            have wv625 := HI.t5 hI0
                            rw [hv625] at wv625
                            have tv625 := congrArg Int32.toInt hv625
                            have x626 := HI.eqA hI615 (p := 233) (j := 5) ((((eA_c (hF616.2.1 233 (by decide))).trans (eA_c gA_sI)).trans hv625))
                            obtain ⟨v627, hv627⟩ : ∃ v, eA g0 233 6 = v := ⟨_, rfl⟩
                            have wv627 := HI.t6 hI0
                            rw [hv627] at wv627
                            have tv627 := congrArg Int32.toInt hv627
                            have x628 := HI.eqA hI615 (p := 233) (j := 6) ((((eA_c (hF616.2.1 233 (by decide))).trans (eA_c gA_sI)).trans hv627))
                            have x629 := HI.eqA hI0 (p := 233) (j := 1) (hv578)
                            have x630 := HI.eqA hI0 (p := 233) (j := 0) (hv480)
                            have x631 := HI.eqA hI0 (p := 233) (j := 0) (hv480)
                            have x632 := HI.eqA hI0 (p := 233) (j := 4) (hv623)
                            have x633 := HI.eqA hI0 (p := 233) (j := 5) (hv625)
                            have x634 := HI.eqA hI0 (p := 233) (j := 6) (hv627)
                            exact ⟨_, rfl, hI615, hF619, _, rfl, by omega, ⟨⟨by omega, by omega, by omega, by omega, by omega, by omega, by omega, by omega⟩, (by intro i i0 i1; refine (eA_ti (((hF616.2.1 233 (by decide)).trans (gA_sI)))).trans ?_; (first | rfl | exact eA_ix (by omega) | omega)), (by intro i i0 i1; refine (eA_ti (((hF616.2.1 233 (by decide)).trans (gA_sI)))).trans ?_; (first | rfl | exact eA_ix (by omega) | omega)), (by have kn : ¬ ((1 ≤ a1.toInt ∧ a1.toInt ≤ 9 ∧ 0 ≤ a4.toInt ∧ a4.toInt ≤ 99 ∧ 0 ≤ a5.toInt ∧ a5.toInt ≤ 9 ∧ 0 ≤ a6.toInt ∧ a6.toInt ≤ 9999) ∧ (0 ≤ a2.toInt ∧ a2.toInt < (eA g0 233 0).toInt ∧ 0 ≤ a3.toInt ∧ a3.toInt < (eA g0 233 0).toInt) ∧ (eA g0 233 1).toInt < 8) := (by omega); intro i i0 i1; refine Eq.trans ?_ (if_neg (show ¬ (((1 ≤ a1.toInt ∧ a1.toInt ≤ 9 ∧ 0 ≤ a4.toInt ∧ a4.toInt ≤ 99 ∧ 0 ≤ a5.toInt ∧ a5.toInt ≤ 9 ∧ 0 ≤ a6.toInt ∧ a6.toInt ≤ 9999) ∧ (0 ≤ a2.toInt ∧ a2.toInt < (eA g0 233 0).toInt ∧ 0 ≤ a3.toInt ∧ a3.toInt < (eA g0 233 0).toInt) ∧ (eA g0 233 1).toInt < 8) ∧ i = 46 + 6 * (eA g0 233 1).toInt + 0) from fun z => kn z.1)).symm; refine Eq.trans ?_ (if_neg (show ¬ (((1 ≤ a1.toInt ∧ a1.toInt ≤ 9 ∧ 0 ≤ a4.toInt ∧ a4.toInt ≤ 99 ∧ 0 ≤ a5.toInt ∧ a5.toInt ≤ 9 ∧ 0 ≤ a6.toInt ∧ a6.toInt ≤ 9999) ∧ (0 ≤ a2.toInt ∧ a2.toInt < (eA g0 233 0).toInt ∧ 0 ≤ a3.toInt ∧ a3.toInt < (eA g0 233 0).toInt) ∧ (eA g0 233 1).toInt < 8) ∧ i = 46 + 6 * (eA g0 233 1).toInt + 1) from fun z => kn z.1)).symm; refine Eq.trans ?_ (if_neg (show ¬ (((1 ≤ a1.toInt ∧ a1.toInt ≤ 9 ∧ 0 ≤ a4.toInt ∧ a4.toInt ≤ 99 ∧ 0 ≤ a5.toInt ∧ a5.toInt ≤ 9 ∧ 0 ≤ a6.toInt ∧ a6.toInt ≤ 9999) ∧ (0 ≤ a2.toInt ∧ a2.toInt < (eA g0 233 0).toInt ∧ 0 ≤ a3.toInt ∧ a3.toInt < (eA g0 233 0).toInt) ∧ (eA g0 233 1).toInt < 8) ∧ i = 46 + 6 * (eA g0 233 1).toInt + 2) from fun z => kn z.1)).symm; refine Eq.trans ?_ (if_neg (show ¬ (((1 ≤ a1.toInt ∧ a1.toInt ≤ 9 ∧ 0 ≤ a4.toInt ∧ a4.toInt ≤ 99 ∧ 0 ≤ a5.toInt ∧ a5.toInt ≤ 9 ∧ 0 ≤ a6.toInt ∧ a6.toInt ≤ 9999) ∧ (0 ≤ a2.toInt ∧ a2.toInt < (eA g0 233 0).toInt ∧ 0 ≤ a3.toInt ∧ a3.toInt < (eA g0 233 0).toInt) ∧ (eA g0 233 1).toInt < 8) ∧ i = 46 + 6 * (eA g0 233 1).toInt + 3) from fun z => kn z.1)).symm; refine Eq.trans ?_ (if_neg (show ¬ (((1 ≤ a1.toInt ∧ a1.toInt ≤ 9 ∧ 0 ≤ a4.toInt ∧ a4.toInt ≤ 99 ∧ 0 ≤ a5.toInt ∧ a5.toInt ≤ 9 ∧ 0 ≤ a6.toInt ∧ a6.toInt ≤ 9999) ∧ (0 ≤ a2.toInt ∧ a2.toInt < (eA g0 233 0).toInt ∧ 0 ≤ a3.toInt ∧ a3.toInt < (eA g0 233 0).toInt) ∧ (eA g0 233 1).toInt < 8) ∧ i = 46 + 6 * (eA g0 233 1).toInt + 4) from fun z => kn z.1)).symm; refine Eq.trans ?_ (if_neg (show ¬ (((1 ≤ a1.toInt ∧ a1.toInt ≤ 9 ∧ 0 ≤ a4.toInt ∧ a4.toInt ≤ 99 ∧ 0 ≤ a5.toInt ∧ a5.toInt ≤ 9 ∧ 0 ≤ a6.toInt ∧ a6.toInt ≤ 9999) ∧ (0 ≤ a2.toInt ∧ a2.toInt < (eA g0 233 0).toInt ∧ 0 ≤ a3.toInt ∧ a3.toInt < (eA g0 233 0).toInt) ∧ (eA g0 233 1).toInt < 8) ∧ i = 46 + 6 * (eA g0 233 1).toInt + 5) from fun z => kn z.1)).symm; refine (eA_ti (((hF616.2.1 233 (by decide)).trans (gA_sI)))).trans ?_; (first | rfl | exact eA_ix (by omega) | omega))⟩⟩
