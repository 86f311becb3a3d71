def F_X11_status_231 : List (Nat × Nat) := [(231, 0)]
def A_X11_status_231 : List Nat := []
set_option maxRecDepth 100000 in
set_option maxHeartbeats 4000000 in
theorem T_X11_status_231 (d : Nat) {N : Nat} {g0 : List en_E} (hI0 : HI g0) : Ev (d + 1) 264 [.ref 231] (g0, N) (fun w h' => ∃ g', h' = (g', N) ∧ HI g' ∧ Fr F_X11_status_231 A_X11_status_231 g0 g' ∧ ∃ r : Int32, w = some (.int r) ∧ True) := by
  have hF0 : Fr F_X11_status_231 A_X11_status_231 g0 g0 := Fr.rf
  refine Ev.mk rfl rfl ⟨Nat.le_of_ble_eq_true rfl, Or.inr (q_rc hI0.1 kx_231 rfl)⟩ ?_
  show At _ none _ _ (0, [(0, .ref 231)], [], (_, _)) _
  refine At.enter rfl ?_
  refine r_aload_n rfl ?_
  refine r_iconst 0 rfl ?_
  refine q_putI (Sh.int hI0.1 kx_231 rfl) rfl ?_
  have hI7 := HI.wI0 hI0 kx_231 rfl (p := 231) (b := 0) (v := 0) rfl
  have hF8 := Fr.wI (p := 231) (b := 0) (v := 0) hF0 rfl
  refine r_aload_n rfl ?_
  obtain ⟨v9, hv9⟩ : ∃ v, gI g0 231 1 = v := ⟨_, rfl⟩
  refine q_getI (Sh.int hI7.1 kx_231 rfl) v9 ((gI_sI_ne (by decide)).trans hv9) ?_
  refine r_ireti ?_
  exact ⟨_, rfl, hI7, hF8, _, rfl, trivial⟩

def F_X11_stand_231 : List (Nat × Nat) := [(231, 0), (231, 1)]
def A_X11_stand_231 : List Nat := [232, 233]
set_option maxRecDepth 100000 in
set_option maxHeartbeats 4000000 in
theorem T_X11_stand_231 (d : Nat) {N : Nat} {g0 : List en_E} (hI0 : HI g0) (a1 : Int32) (a2 : Int32) (a3 : Int32) : Ev (d + 3) 172 [.ref 231, .int a1, .int a2, .int a3] (g0, N) (fun w h' => ∃ g', h' = (g', N) ∧ HI g' ∧ Fr F_X11_stand_231 A_X11_stand_231 g0 g' ∧ ∃ r : Int32, w = some (.int r) ∧ ((-5) ≤ r.toInt ∧ r.toInt ≤ 11) ∧ ((((¬ (-1 ≤ a1.toInt ∧ a1.toInt ≤ 11 ∧ 1 ≤ a2.toInt ∧ a2.toInt ≤ 9 ∧ 0 ≤ a3.toInt ∧ a3.toInt ≤ 99) → r.toInt = -1 ∧ (eA g' 233 0).toInt = (eA g0 233 0).toInt) ∧ ((-1 ≤ a1.toInt ∧ a1.toInt ≤ 11 ∧ 1 ≤ a2.toInt ∧ a2.toInt ≤ 9 ∧ 0 ≤ a3.toInt ∧ a3.toInt ≤ 99) ∧ 12 ≤ (eA g0 233 0).toInt → r.toInt = -5 ∧ (eA g' 233 0).toInt = (eA g0 233 0).toInt) ∧ ((-1 ≤ a1.toInt ∧ a1.toInt ≤ 11 ∧ 1 ≤ a2.toInt ∧ a2.toInt ≤ 9 ∧ 0 ≤ a3.toInt ∧ a3.toInt ≤ 99) ∧ (eA g0 233 0).toInt < 12 → r.toInt = (eA g0 233 0).toInt ∧ (eA g' 233 0).toInt = (eA g0 233 0).toInt + 1)) ∧ (eA g' 233 4).toInt = (eA g0 233 4).toInt ∧ (eA g' 233 5).toInt = (eA g0 233 5).toInt ∧ (eA g' 233 6).toInt = (eA g0 233 6).toInt ∧ (eA g' 233 1).toInt = (eA g0 233 1).toInt) ∧ (∀ i : Int, 10 ≤ i → i < 110 → (eA g' 233 (i)).toInt = if ((-1 ≤ a1.toInt ∧ a1.toInt ≤ 11 ∧ 1 ≤ a2.toInt ∧ a2.toInt ≤ 9 ∧ 0 ≤ a3.toInt ∧ a3.toInt ≤ 99) ∧ (eA g0 233 0).toInt < 12) ∧ i = 10 + 3 * (eA g0 233 0).toInt + 0 then a1.toInt else if ((-1 ≤ a1.toInt ∧ a1.toInt ≤ 11 ∧ 1 ≤ a2.toInt ∧ a2.toInt ≤ 9 ∧ 0 ≤ a3.toInt ∧ a3.toInt ≤ 99) ∧ (eA g0 233 0).toInt < 12) ∧ i = 10 + 3 * (eA g0 233 0).toInt + 1 then a2.toInt else if ((-1 ≤ a1.toInt ∧ a1.toInt ≤ 11 ∧ 1 ≤ a2.toInt ∧ a2.toInt ≤ 9 ∧ 0 ≤ a3.toInt ∧ a3.toInt ≤ 99) ∧ (eA g0 233 0).toInt < 12) ∧ i = 10 + 3 * (eA g0 233 0).toInt + 2 then a3.toInt else (eA g0 233 (i)).toInt))) := by
  have hF0 : Fr F_X11_stand_231 A_X11_stand_231 g0 g0 := Fr.rf
  refine Ev.mk rfl rfl ⟨Nat.le_of_ble_eq_true rfl, Or.inr (q_rc hI0.1 kx_231 rfl)⟩ ?_
  show At _ none _ _ (0, [(0, .ref 231), (1, .int a1), (2, .int a2), (3, .int a3)], [], (_, _)) _
  refine At.enter rfl ?_
  refine r_aload_n rfl ?_
  refine r_iconst 0 rfl ?_
  refine q_putI (Sh.int hI0.1 kx_231 rfl) rfl ?_
  have hI173 := HI.wI0 hI0 kx_231 rfl (p := 231) (b := 0) (v := 0) rfl
  have hF174 := Fr.wI (p := 231) (b := 0) (v := 0) hF0 rfl
  refine r_iconst 0 rfl ?_
  refine r_iload_n rfl ?_
  refine q_inlS 10 rfl [.int 0, .int a1] [] (Nat.le_of_ble_eq_true rfl) rfl ?_
  refine Ev.mk rfl rfl ⟨Nat.le_of_ble_eq_true rfl, Or.inl rfl⟩ ?_
  show At _ none _ _ (0, [(0, .int 0), (1, .int a1)], [], (_, _)) _
  refine At.enter rfl ?_
  refine r_iload_n rfl ?_
  refine r_tsw 28 rfl ?_
  refine At.enter rfl ?_
  refine r_iload_n rfl ?_
  refine q_i2l (fun v175 hv175 => ?_)
  refine r_ldc2 (-1) rfl ?_
  refine r_ldc2 11 rfl ?_
  refine q_inlS 39 rfl [.long v175, .long (-1), .long 11] [] (Nat.le_of_ble_eq_true rfl) rfl ?_
  refine Ev.mk rfl rfl ⟨Nat.le_of_ble_eq_true rfl, Or.inl rfl⟩ ?_
  show At _ none _ _ (0, [(0, .long v175), (2, .long (-1)), (4, .long 11)], [], (_, _)) _
  refine At.enter rfl ?_
  refine r_lload_n rfl ?_
  refine r_lload_n rfl ?_
  refine r_lcmp _ rfl ?_
  refine r_ifs 6 rfl (fun c176 => ?_) (fun c176 => ?_)
  · have c176_ : v175.toInt < (-1) := en_j_lt_t c176
    refine At.enter rfl ?_
    refine r_iconst 0 rfl ?_
    refine Ar.fall 18 rfl ?_
    refine At.enter rfl ?_
    refine q_iretz (by decide) ?_
    refine At.enter rfl ?_
    refine q_iretz (by decide) ?_
    refine At.enter rfl ?_
    refine r_ift (by decide) ?_
    refine At.enter rfl ?_
    refine r_aload_n rfl ?_
    refine r_iconst (-1) rfl ?_
    refine r_callV 34 rfl [.ref 231, .int (-1)] [] (Nat.le_of_ble_eq_true rfl) rfl (T_X11_tell_231 _ hI173 (-1) (by decide)) ?_
    rintro _ _ ⟨g177, rfl, hI178, hF179, v180, rfl, hr181⟩
    refine At.sti ?_
    have hF182 := Fr.tr hF174 hF179 rfl rfl
    have zv183 : ((-1) : Int32).toInt = (-1) := rfl
    refine At.enter rfl ?_
    refine r_ireti ?_
    obtain ⟨v184, hv184⟩ : ∃ v, eA g0 233 0 = v := ⟨_, rfl⟩
    have tv184 := congrArg Int32.toInt hv184
    have wv184 := HI.t0 hI0
    rw [hv184] at wv184
    have tv184 := congrArg Int32.toInt hv184
    have x185 := HI.eqA hI178 (p := 233) (j := 0) ((((eA_c (hF179.2.1 233 (by decide))).trans (eA_c gA_sI)).trans hv184))
    obtain ⟨v186, hv186⟩ : ∃ v, eA g0 233 4 = v := ⟨_, rfl⟩
    have wv186 := HI.t4 hI0
    rw [hv186] at wv186
    have tv186 := congrArg Int32.toInt hv186
    have x187 := HI.eqA hI178 (p := 233) (j := 4) ((((eA_c (hF179.2.1 233 (by decide))).trans (eA_c gA_sI)).trans hv186))
    obtain ⟨v188, hv188⟩ : ∃ v, eA g0 233 5 = v := ⟨_, rfl⟩
    have wv188 := HI.t5 hI0
    rw [hv188] at wv188
    have tv188 := congrArg Int32.toInt hv188
    have x189 := HI.eqA hI178 (p := 233) (j := 5) ((((eA_c (hF179.2.1 233 (by decide))).trans (eA_c gA_sI)).trans hv188))
    obtain ⟨v190, hv190⟩ : ∃ v, eA g0 233 6 = v := ⟨_, rfl⟩
    have wv190 := HI.t6 hI0
    rw [hv190] at wv190
    have tv190 := congrArg Int32.toInt hv190
    have x191 := HI.eqA hI178 (p := 233) (j := 6) ((((eA_c (hF179.2.1 233 (by decide))).trans (eA_c gA_sI)).trans hv190))
    obtain ⟨v192, hv192⟩ : ∃ v, eA g0 233 1 = v := ⟨_, rfl⟩
    have tv192 := congrArg Int32.toInt hv192
    have wv192 := HI.t1 hI0
    rw [hv192] at wv192
    have tv192 := congrArg Int32.toInt hv192
    have x193 := HI.eqA hI178 (p := 233) (j := 1) ((((eA_c (hF179.2.1 233 (by decide))).trans (eA_c gA_sI)).trans hv192))
    have x194 := HI.eqA hI0 (p := 233) (j := 0) (hv184)
    have x195 := HI.eqA hI0 (p := 233) (j := 4) (hv186)
    have x196 := HI.eqA hI0 (p := 233) (j := 5) (hv188)
    have x197 := HI.eqA hI0 (p := 233) (j := 6) (hv190)
    have x198 := HI.eqA hI0 (p := 233) (j := 1) (hv192)
    have x199 := HI.eqA hI0 (p := 233) (j := 0) (hv184)
    exact ⟨_, rfl, hI178, hF182, _, rfl, by omega, ⟨⟨by omega, by omega, by omega, by omega, by omega⟩, (by intro i i0 i1; refine Eq.trans ?_ (if_neg (show ¬ (((-1 ≤ a1.toInt ∧ a1.toInt ≤ 11 ∧ 1 ≤ a2.toInt ∧ a2.toInt ≤ 9 ∧ 0 ≤ a3.toInt ∧ a3.toInt ≤ 99) ∧ (eA g0 233 0).toInt < 12) ∧ i = 10 + 3 * (eA g0 233 0).toInt + 0) from by omega)).symm; refine Eq.trans ?_ (if_neg (show ¬ (((-1 ≤ a1.toInt ∧ a1.toInt ≤ 11 ∧ 1 ≤ a2.toInt ∧ a2.toInt ≤ 9 ∧ 0 ≤ a3.toInt ∧ a3.toInt ≤ 99) ∧ (eA g0 233 0).toInt < 12) ∧ i = 10 + 3 * (eA g0 233 0).toInt + 1) from by omega)).symm; refine Eq.trans ?_ (if_neg (show ¬ (((-1 ≤ a1.toInt ∧ a1.toInt ≤ 11 ∧ 1 ≤ a2.toInt ∧ a2.toInt ≤ 9 ∧ 0 ≤ a3.toInt ∧ a3.toInt ≤ 99) ∧ (eA g0 233 0).toInt < 12) ∧ i = 10 + 3 * (eA g0 233 0).toInt + 2) from by omega)).symm; refine (eA_ti (((hF179.2.1 233 (by decide)).trans (gA_sI)))).trans ?_; (first | rfl | exact eA_ix (by omega) | omega))⟩⟩
  · have c176_ : v175.toInt ≥ (-1) := en_j_lt_f c176
    refine At.enter rfl ?_
    refine r_lload_n rfl ?_
    refine r_lload rfl ?_
    refine r_lcmp _ rfl ?_
    refine r_ifs 13 rfl (fun c200 => ?_) (fun c200 => ?_)
    · have c200_ : v175.toInt > 11 := en_j_gt_t c200
      refine At.enter rfl ?_
      refine r_iconst 0 rfl ?_
      refine Ar.fall 18 rfl ?_
      refine At.enter rfl ?_
      refine q_iretz (by decide) ?_
      refine At.enter rfl ?_
      refine q_iretz (by decide) ?_
      refine At.enter rfl ?_
      refine r_ift (by decide) ?_
      refine At.enter rfl ?_
      refine r_aload_n rfl ?_
      refine r_iconst (-1) rfl ?_
      refine r_callV 34 rfl [.ref 231, .int (-1)] [] (Nat.le_of_ble_eq_true rfl) rfl (T_X11_tell_231 _ hI173 (-1) (by decide)) ?_
      rintro _ _ ⟨g201, rfl, hI202, hF203, v204, rfl, hr205⟩
      refine At.sti ?_
      have hF206 := Fr.tr hF174 hF203 rfl rfl
      have zv207 : ((-1) : Int32).toInt = (-1) := rfl
      refine At.enter rfl ?_
      refine r_ireti ?_
      obtain ⟨v208, hv208⟩ : ∃ v, eA g0 233 0 = v := ⟨_, rfl⟩
      have tv208 := congrArg Int32.toInt hv208
      have wv208 := HI.t0 hI0
      rw [hv208] at wv208
      have tv208 := congrArg Int32.toInt hv208
      have x209 := HI.eqA hI202 (p := 233) (j := 0) ((((eA_c (hF203.2.1 233 (by decide))).trans (eA_c gA_sI)).trans hv208))
      obtain ⟨v210, hv210⟩ : ∃ v, eA g0 233 4 = v := ⟨_, rfl⟩
      have wv210 := HI.t4 hI0
      rw [hv210] at wv210
      have tv210 := congrArg Int32.toInt hv210
      have x211 := HI.eqA hI202 (p := 233) (j := 4) ((((eA_c (hF203.2.1 233 (by decide))).trans (eA_c gA_sI)).trans hv210))
      obtain ⟨v212, hv212⟩ : ∃ v, eA g0 233 5 = v := ⟨_, rfl⟩
      have wv212 := HI.t5 hI0
      rw [hv212] at wv212
      have tv212 := congrArg Int32.toInt hv212
      have x213 := HI.eqA hI202 (p := 233) (j := 5) ((((eA_c (hF203.2.1 233 (by decide))).trans (eA_c gA_sI)).trans hv212))
      obtain ⟨v214, hv214⟩ : ∃ v, eA g0 233 6 = v := ⟨_, rfl⟩
      have wv214 := HI.t6 hI0
      rw [hv214] at wv214
      have tv214 := congrArg Int32.toInt hv214
      have x215 := HI.eqA hI202 (p := 233) (j := 6) ((((eA_c (hF203.2.1 233 (by decide))).trans (eA_c gA_sI)).trans hv214))
      obtain ⟨v216, hv216⟩ : ∃ v, eA g0 233 1 = v := ⟨_, rfl⟩
      have tv216 := congrArg Int32.toInt hv216
      have wv216 := HI.t1 hI0
      rw [hv216] at wv216
      have tv216 := congrArg Int32.toInt hv216
      have x217 := HI.eqA hI202 (p := 233) (j := 1) ((((eA_c (hF203.2.1 233 (by decide))).trans (eA_c gA_sI)).trans hv216))
      have x218 := HI.eqA hI0 (p := 233) (j := 0) (hv208)
      have x219 := HI.eqA hI0 (p := 233) (j := 4) (hv210)
      have x220 := HI.eqA hI0 (p := 233) (j := 5) (hv212)
      have x221 := HI.eqA hI0 (p := 233) (j := 6) (hv214)
      have x222 := HI.eqA hI0 (p := 233) (j := 1) (hv216)
      have x223 := HI.eqA hI0 (p := 233) (j := 0) (hv208)
      exact ⟨_, rfl, hI202, hF206, _, rfl, by omega, ⟨⟨by omega, by omega, by omega, by omega, by omega⟩, (by intro i i0 i1; refine Eq.trans ?_ (if_neg (show ¬ (((-1 ≤ a1.toInt ∧ a1.toInt ≤ 11 ∧ 1 ≤ a2.toInt ∧ a2.toInt ≤ 9 ∧ 0 ≤ a3.toInt ∧ a3.toInt ≤ 99) ∧ (eA g0 233 0).toInt < 12) ∧ i = 10 + 3 * (eA g0 233 0).toInt + 0) from by omega)).symm; refine Eq.trans ?_ (if_neg (show ¬ (((-1 ≤ a1.toInt ∧ a1.toInt ≤ 11 ∧ 1 ≤ a2.toInt ∧ a2.toInt ≤ 9 ∧ 0 ≤ a3.toInt ∧ a3.toInt ≤ 99) ∧ (eA g0 233 0).toInt < 12) ∧ i = 10 + 3 * (eA g0 233 0).toInt + 1) from by omega)).symm; refine Eq.trans ?_ (if_neg (show ¬ (((-1 ≤ a1.toInt ∧ a1.toInt ≤ 11 ∧ 1 ≤ a2.toInt ∧ a2.toInt ≤ 9 ∧ 0 ≤ a3.toInt ∧ a3.toInt ≤ 99) ∧ (eA g0 233 0).toInt < 12) ∧ i = 10 + 3 * (eA g0 233 0).toInt + 2) from by omega)).symm; refine (eA_ti (((hF203.2.1 233 (by decide)).trans (gA_sI)))).trans ?_; (first | rfl | exact eA_ix (by omega) | omega))⟩⟩
    · have c200_ : v175.toInt ≤ 11 := en_j_gt_f c200
      refine At.enter rfl ?_
      refine r_iconst 1 rfl ?_
      refine r_goto ?_
      refine At.enter rfl ?_
      refine q_iretz (by decide) ?_
      refine At.enter rfl ?_
      refine q_iretz (by decide) ?_
      refine At.enter rfl ?_
      refine r_iff 13 rfl (by decide) ?_
      refine At.enter rfl ?_
      refine r_iconst 1 rfl ?_
      refine r_iload_n rfl ?_
      refine q_inlS 18 rfl [.int 1, .int a2] [] (Nat.le_of_ble_eq_true rfl) rfl ?_
      refine Ev.mk rfl rfl ⟨Nat.le_of_ble_eq_true rfl, Or.inl rfl⟩ ?_
      show At _ none _ _ (0, [(0, .int 1), (1, .int a2)], [], (_, _)) _
      refine At.enter rfl ?_
      refine r_iload_n rfl ?_
      refine r_tsw 40 rfl ?_
      refine At.enter rfl ?_
      refine r_iload_n rfl ?_
      refine q_i2l (fun v224 hv224 => ?_)
      refine r_lconst 1 rfl ?_
      refine r_ldc2 9 rfl ?_
      refine q_inlS 49 rfl [.long v224, .long 1, .long 9] [] (Nat.le_of_ble_eq_true rfl) rfl ?_
      refine Ev.mk rfl rfl ⟨Nat.le_of_ble_eq_true rfl, Or.inl rfl⟩ ?_
      show At _ none _ _ (0, [(0, .long v224), (2, .long 1), (4, .long 9)], [], (_, _)) _
      refine At.enter rfl ?_
      refine r_lload_n rfl ?_
      refine r_lload_n rfl ?_
      refine r_lcmp _ rfl ?_
      refine r_ifs 6 rfl (fun c225 => ?_) (fun c225 => ?_)
      · have c225_ : v224.toInt < 1 := en_j_lt_t c225
        refine At.enter rfl ?_
        refine r_iconst 0 rfl ?_
        refine Ar.fall 18 rfl ?_
        refine At.enter rfl ?_
        refine q_iretz (by decide) ?_
        refine At.enter rfl ?_
        refine q_iretz (by decide) ?_
        refine At.enter rfl ?_
        refine r_ift (by decide) ?_
        refine At.enter rfl ?_
        refine r_aload_n rfl ?_
        refine r_iconst (-1) rfl ?_
        refine r_callV 34 rfl [.ref 231, .int (-1)] [] (Nat.le_of_ble_eq_true rfl) rfl (T_X11_tell_231 _ hI173 (-1) (by decide)) ?_
        rintro _ _ ⟨g226, rfl, hI227, hF228, v229, rfl, hr230⟩
        refine At.sti ?_
        have hF231 := Fr.tr hF174 hF228 rfl rfl
        have zv232 : ((-1) : Int32).toInt = (-1) := rfl
        refine At.enter rfl ?_
        refine r_ireti ?_
        obtain ⟨v233, hv233⟩ : ∃ v, eA g0 233 0 = v := ⟨_, rfl⟩
        have tv233 := congrArg Int32.toInt hv233
        have wv233 := HI.t0 hI0
        rw [hv233] at wv233
        have tv233 := congrArg Int32.toInt hv233
        have x234 := HI.eqA hI227 (p := 233) (j := 0) ((((eA_c (hF228.2.1 233 (by decide))).trans (eA_c gA_sI)).trans hv233))
        obtain ⟨v235, hv235⟩ : ∃ v, eA g0 233 4 = v := ⟨_, rfl⟩
        have wv235 := HI.t4 hI0
        rw [hv235] at wv235
        have tv235 := congrArg Int32.toInt hv235
        have x236 := HI.eqA hI227 (p := 233) (j := 4) ((((eA_c (hF228.2.1 233 (by decide))).trans (eA_c gA_sI)).trans hv235))
        obtain ⟨v237, hv237⟩ : ∃ v, eA g0 233 5 = v := ⟨_, rfl⟩
        have wv237 := HI.t5 hI0
        rw [hv237] at wv237
        have tv237 := congrArg Int32.toInt hv237
        have x238 := HI.eqA hI227 (p := 233) (j := 5) ((((eA_c (hF228.2.1 233 (by decide))).trans (eA_c gA_sI)).trans hv237))
        obtain ⟨v239, hv239⟩ : ∃ v, eA g0 233 6 = v := ⟨_, rfl⟩
        have wv239 := HI.t6 hI0
        rw [hv239] at wv239
        have tv239 := congrArg Int32.toInt hv239
        have x240 := HI.eqA hI227 (p := 233) (j := 6) ((((eA_c (hF228.2.1 233 (by decide))).trans (eA_c gA_sI)).trans hv239))
        obtain ⟨v241, hv241⟩ : ∃ v, eA g0 233 1 = v := ⟨_, rfl⟩
        have tv241 := congrArg Int32.toInt hv241
        have wv241 := HI.t1 hI0
        rw [hv241] at wv241
        have tv241 := congrArg Int32.toInt hv241
        have x242 := HI.eqA hI227 (p := 233) (j := 1) ((((eA_c (hF228.2.1 233 (by decide))).trans (eA_c gA_sI)).trans hv241))
        have x243 := HI.eqA hI0 (p := 233) (j := 0) (hv233)
        have x244 := HI.eqA hI0 (p := 233) (j := 4) (hv235)
        have x245 := HI.eqA hI0 (p := 233) (j := 5) (hv237)
        have x246 := HI.eqA hI0 (p := 233) (j := 6) (hv239)
        have x247 := HI.eqA hI0 (p := 233) (j := 1) (hv241)
        have x248 := HI.eqA hI0 (p := 233) (j := 0) (hv233)
        exact ⟨_, rfl, hI227, hF231, _, rfl, by omega, ⟨⟨by omega, by omega, by omega, by omega, by omega⟩, (by intro i i0 i1; refine Eq.trans ?_ (if_neg (show ¬ (((-1 ≤ a1.toInt ∧ a1.toInt ≤ 11 ∧ 1 ≤ a2.toInt ∧ a2.toInt ≤ 9 ∧ 0 ≤ a3.toInt ∧ a3.toInt ≤ 99) ∧ (eA g0 233 0).toInt < 12) ∧ i = 10 + 3 * (eA g0 233 0).toInt + 0) from by omega)).symm; refine Eq.trans ?_ (if_neg (show ¬ (((-1 ≤ a1.toInt ∧ a1.toInt ≤ 11 ∧ 1 ≤ a2.toInt ∧ a2.toInt ≤ 9 ∧ 0 ≤ a3.toInt ∧ a3.toInt ≤ 99) ∧ (eA g0 233 0).toInt < 12) ∧ i = 10 + 3 * (eA g0 233 0).toInt + 1) from by omega)).symm; refine Eq.trans ?_ (if_neg (show ¬ (((-1 ≤ a1.toInt ∧ a1.toInt ≤ 11 ∧ 1 ≤ a2.toInt ∧ a2.toInt ≤ 9 ∧ 0 ≤ a3.toInt ∧ a3.toInt ≤ 99) ∧ (eA g0 233 0).toInt < 12) ∧ i = 10 + 3 * (eA g0 233 0).toInt + 2) from by omega)).symm; refine (eA_ti (((hF228.2.1 233 (by decide)).trans (gA_sI)))).trans ?_; (first | rfl | exact eA_ix (by omega) | omega))⟩⟩
      · have c225_ : v224.toInt ≥ 1 := en_j_lt_f c225
        refine At.enter rfl ?_
        refine r_lload_n rfl ?_
        refine r_lload rfl ?_
        refine r_lcmp _ rfl ?_
        refine r_ifs 13 rfl (fun c249 => ?_) (fun c249 => ?_)
        · have c249_ : v224.toInt > 9 := en_j_gt_t c249
          refine At.enter rfl ?_
          refine r_iconst 0 rfl ?_
          refine Ar.fall 18 rfl ?_
          refine At.enter rfl ?_
          refine q_iretz (by decide) ?_
          refine At.enter rfl ?_
          refine q_iretz (by decide) ?_
          refine At.enter rfl ?_
          refine r_ift (by decide) ?_
          refine At.enter rfl ?_
          refine r_aload_n rfl ?_
          refine r_iconst (-1) rfl ?_
          refine r_callV 34 rfl [.ref 231, .int (-1)] [] (Nat.le_of_ble_eq_true rfl) rfl (T_X11_tell_231 _ hI173 (-1) (by decide)) ?_
          rintro _ _ ⟨g250, rfl, hI251, hF252, v253, rfl, hr254⟩
          refine At.sti ?_
          have hF255 := Fr.tr hF174 hF252 rfl rfl
          have zv256 : ((-1) : Int32).toInt = (-1) := rfl
          refine At.enter rfl ?_
          refine r_ireti ?_
          obtain ⟨v257, hv257⟩ : ∃ v, eA g0 233 0 = v := ⟨_, rfl⟩
          have tv257 := congrArg Int32.toInt hv257
          have wv257 := HI.t0 hI0
          rw [hv257] at wv257
          have tv257 := congrArg Int32.toInt hv257
          have x258 := HI.eqA hI251 (p := 233) (j := 0) ((((eA_c (hF252.2.1 233 (by decide))).trans (eA_c gA_sI)).trans hv257))
          obtain ⟨v259, hv259⟩ : ∃ v, eA g0 233 4 = v := ⟨_, rfl⟩
          have wv259 := HI.t4 hI0
          rw [hv259] at wv259
          have tv259 := congrArg Int32.toInt hv259
          have x260 := HI.eqA hI251 (p := 233) (j := 4) ((((eA_c (hF252.2.1 233 (by decide))).trans (eA_c gA_sI)).trans hv259))
          obtain ⟨v261, hv261⟩ : ∃ v, eA g0 233 5 = v := ⟨_, rfl⟩
          have wv261 := HI.t5 hI0
          rw [hv261] at wv261
          have tv261 := congrArg Int32.toInt hv261
          have x262 := HI.eqA hI251 (p := 233) (j := 5) ((((eA_c (hF252.2.1 233 (by decide))).trans (eA_c gA_sI)).trans hv261))
          obtain ⟨v263, hv263⟩ : ∃ v, eA g0 233 6 = v := ⟨_, rfl⟩
          have wv263 := HI.t6 hI0
          rw [hv263] at wv263
          have tv263 := congrArg Int32.toInt hv263
          have x264 := HI.eqA hI251 (p := 233) (j := 6) ((((eA_c (hF252.2.1 233 (by decide))).trans (eA_c gA_sI)).trans hv263))
          obtain ⟨v265, hv265⟩ : ∃ v, eA g0 233 1 = v := ⟨_, rfl⟩
          have tv265 := congrArg Int32.toInt hv265
          have wv265 := HI.t1 hI0
          rw [hv265] at wv265
          have tv265 := congrArg Int32.toInt hv265
          have x266 := HI.eqA hI251 (p := 233) (j := 1) ((((eA_c (hF252.2.1 233 (by decide))).trans (eA_c gA_sI)).trans hv265))
          have x267 := HI.eqA hI0 (p := 233) (j := 0) (hv257)
          have x268 := HI.eqA hI0 (p := 233) (j := 4) (hv259)
          have x269 := HI.eqA hI0 (p := 233) (j := 5) (hv261)
          have x270 := HI.eqA hI0 (p := 233) (j := 6) (hv263)
          have x271 := HI.eqA hI0 (p := 233) (j := 1) (hv265)
          have x272 := HI.eqA hI0 (p := 233) (j := 0) (hv257)
          exact ⟨_, rfl, hI251, hF255, _, rfl, by omega, ⟨⟨by omega, by omega, by omega, by omega, by omega⟩, (by intro i i0 i1; refine Eq.trans ?_ (if_neg (show ¬ (((-1 ≤ a1.toInt ∧ a1.toInt ≤ 11 ∧ 1 ≤ a2.toInt ∧ a2.toInt ≤ 9 ∧ 0 ≤ a3.toInt ∧ a3.toInt ≤ 99) ∧ (eA g0 233 0).toInt < 12) ∧ i = 10 + 3 * (eA g0 233 0).toInt + 0) from by omega)).symm; refine Eq.trans ?_ (if_neg (show ¬ (((-1 ≤ a1.toInt ∧ a1.toInt ≤ 11 ∧ 1 ≤ a2.toInt ∧ a2.toInt ≤ 9 ∧ 0 ≤ a3.toInt ∧ a3.toInt ≤ 99) ∧ (eA g0 233 0).toInt < 12) ∧ i = 10 + 3 * (eA g0 233 0).toInt + 1) from by omega)).symm; refine Eq.trans ?_ (if_neg (show ¬ (((-1 ≤ a1.toInt ∧ a1.toInt ≤ 11 ∧ 1 ≤ a2.toInt ∧ a2.toInt ≤ 9 ∧ 0 ≤ a3.toInt ∧ a3.toInt ≤ 99) ∧ (eA g0 233 0).toInt < 12) ∧ i = 10 + 3 * (eA g0 233 0).toInt + 2) from by omega)).symm; refine (eA_ti (((hF252.2.1 233 (by decide)).trans (gA_sI)))).trans ?_; (first | rfl | exact eA_ix (by omega) | omega))⟩⟩
        · have c249_ : v224.toInt ≤ 9 := en_j_gt_f c249
          refine At.enter rfl ?_
          refine r_iconst 1 rfl ?_
          refine r_goto ?_
          refine At.enter rfl ?_
          refine q_iretz (by decide) ?_
          refine At.enter rfl ?_
          refine q_iretz (by decide) ?_
          refine At.enter rfl ?_
          refine r_iff 21 rfl (by decide) ?_
          refine At.enter rfl ?_
          refine r_iconst 2 rfl ?_
          refine r_iload_n rfl ?_
          refine q_inlS 26 rfl [.int 2, .int a3] [] (Nat.le_of_ble_eq_true rfl) rfl ?_
          refine Ev.mk rfl rfl ⟨Nat.le_of_ble_eq_true rfl, Or.inl rfl⟩ ?_
          show At _ none _ _ (0, [(0, .int 2), (1, .int a3)], [], (_, _)) _
          refine At.enter rfl ?_
          refine r_iload_n rfl ?_
          refine r_tsw 50 rfl ?_
          refine At.enter rfl ?_
          refine r_iload_n rfl ?_
          refine q_i2l (fun v273 hv273 => ?_)
          refine r_lconst 0 rfl ?_
          refine r_ldc2 99 rfl ?_
          refine q_inlS 59 rfl [.long v273, .long 0, .long 99] [] (Nat.le_of_ble_eq_true rfl) rfl ?_
          refine Ev.mk rfl rfl ⟨Nat.le_of_ble_eq_true rfl, Or.inl rfl⟩ ?_
          show At _ none _ _ (0, [(0, .long v273), (2, .long 0), (4, .long 99)], [], (_, _)) _
          refine At.enter rfl ?_
          refine r_lload_n rfl ?_
          refine r_lload_n rfl ?_
          refine r_lcmp _ rfl ?_
          refine r_ifs 6 rfl (fun c274 => ?_) (fun c274 => ?_)
          · have c274_ : v273.toInt < 0 := en_j_lt_t c274
            refine At.enter rfl ?_
            refine r_iconst 0 rfl ?_
            refine Ar.fall 18 rfl ?_
            refine At.enter rfl ?_
            refine q_iretz (by decide) ?_
            refine At.enter rfl ?_
            refine q_iretz (by decide) ?_
            refine At.enter rfl ?_
            refine r_iff 29 rfl (by decide) ?_
            refine At.enter rfl ?_
            refine r_aload_n rfl ?_
            refine r_iconst (-1) rfl ?_
            refine r_callV 34 rfl [.ref 231, .int (-1)] [] (Nat.le_of_ble_eq_true rfl) rfl (T_X11_tell_231 _ hI173 (-1) (by decide)) ?_
            rintro _ _ ⟨g275, rfl, hI276, hF277, v278, rfl, hr279⟩
            refine At.sti ?_
            have hF280 := Fr.tr hF174 hF277 rfl rfl
            have zv281 : ((-1) : Int32).toInt = (-1) := rfl
            refine At.enter rfl ?_
            refine r_ireti ?_
            obtain ⟨v282, hv282⟩ : ∃ v, eA g0 233 0 = v := ⟨_, rfl⟩
            have tv282 := congrArg Int32.toInt hv282
            have wv282 := HI.t0 hI0
            rw [hv282] at wv282
            have tv282 := congrArg Int32.toInt hv282
            have x283 := HI.eqA hI276 (p := 233) (j := 0) ((((eA_c (hF277.2.1 233 (by decide))).trans (eA_c gA_sI)).trans hv282))
            obtain ⟨v284, hv284⟩ : ∃ v, eA g0 233 4 = v := ⟨_, rfl⟩
            have wv284 := HI.t4 hI0
            rw [hv284] at wv284
            have tv284 := congrArg Int32.toInt hv284
            have x285 := HI.eqA hI276 (p := 233) (j := 4) ((((eA_c (hF277.2.1 233 (by decide))).trans (eA_c gA_sI)).trans hv284))
            obtain ⟨v286, hv286⟩ : ∃ v, eA g0 233 5 = v := ⟨_, rfl⟩
            have wv286 := HI.t5 hI0
            rw [hv286] at wv286
            have tv286 := congrArg Int32.toInt hv286
            have x287 := HI.eqA hI276 (p := 233) (j := 5) ((((eA_c (hF277.2.1 233 (by decide))).trans (eA_c gA_sI)).trans hv286))
            obtain ⟨v288, hv288⟩ : ∃ v, eA g0 233 6 = v := ⟨_, rfl⟩
            have wv288 := HI.t6 hI0
            rw [hv288] at wv288
            have tv288 := congrArg Int32.toInt hv288
            have x289 := HI.eqA hI276 (p := 233) (j := 6) ((((eA_c (hF277.2.1 233 (by decide))).trans (eA_c gA_sI)).trans hv288))
            obtain ⟨v290, hv290⟩ : ∃ v, eA g0 233 1 = v := ⟨_, rfl⟩
            have tv290 := congrArg Int32.toInt hv290
            have wv290 := HI.t1 hI0
            rw [hv290] at wv290
            have tv290 := congrArg Int32.toInt hv290
            have x291 := HI.eqA hI276 (p := 233) (j := 1) ((((eA_c (hF277.2.1 233 (by decide))).trans (eA_c gA_sI)).trans hv290))
            have x292 := HI.eqA hI0 (p := 233) (j := 0) (hv282)
            have x293 := HI.eqA hI0 (p := 233) (j := 4) (hv284)
            have x294 := HI.eqA hI0 (p := 233) (j := 5) (hv286)
            have x295 := HI.eqA hI0 (p := 233) (j := 6) (hv288)
            have x296 := HI.eqA hI0 (p := 233) (j := 1) (hv290)
            have x297 := HI.eqA hI0 (p := 233) (j := 0) (hv282)
            exact ⟨_, rfl, hI276, hF280, _, rfl, by omega, ⟨⟨by omega, by omega, by omega, by omega, by omega⟩, (by intro i i0 i1; refine Eq.trans ?_ (if_neg (show ¬ (((-1 ≤ a1.toInt ∧ a1.toInt ≤ 11 ∧ 1 ≤ a2.toInt ∧ a2.toInt ≤ 9 ∧ 0 ≤ a3.toInt ∧ a3.toInt ≤ 99) ∧ (eA g0 233 0).toInt < 12) ∧ i = 10 + 3 * (eA g0 233 0).toInt + 0) from by omega)).symm; refine Eq.trans ?_ (if_neg (show ¬ (((-1 ≤ a1.toInt ∧ a1.toInt ≤ 11 ∧ 1 ≤ a2.toInt ∧ a2.toInt ≤ 9 ∧ 0 ≤ a3.toInt ∧ a3.toInt ≤ 99) ∧ (eA g0 233 0).toInt < 12) ∧ i = 10 + 3 * (eA g0 233 0).toInt + 1) from by omega)).symm; refine Eq.trans ?_ (if_neg (show ¬ (((-1 ≤ a1.toInt ∧ a1.toInt ≤ 11 ∧ 1 ≤ a2.toInt ∧ a2.toInt ≤ 9 ∧ 0 ≤ a3.toInt ∧ a3.toInt ≤ 99) ∧ (eA g0 233 0).toInt < 12) ∧ i = 10 + 3 * (eA g0 233 0).toInt + 2) from by omega)).symm; refine (eA_ti (((hF277.2.1 233 (by decide)).trans (gA_sI)))).trans ?_; (first | rfl | exact eA_ix (by omega) | omega))⟩⟩
          · have c274_ : v273.toInt ≥ 0 := en_j_lt_f c274
            refine At.enter rfl ?_
            refine r_lload_n rfl ?_
            refine r_lload rfl ?_
            refine r_lcmp _ rfl ?_
            refine r_ifs 13 rfl (fun c298 => ?_) (fun c298 => ?_)
            · have c298_ : v273.toInt > 99 := en_j_gt_t c298
              refine At.enter rfl ?_
              refine r_iconst 0 rfl ?_
              refine Ar.fall 18 rfl ?_
              refine At.enter rfl ?_
              refine q_iretz (by decide) ?_
              refine At.enter rfl ?_
              refine q_iretz (by decide) ?_
              refine At.enter rfl ?_
              refine r_iff 29 rfl (by decide) ?_
              refine At.enter rfl ?_
              refine r_aload_n rfl ?_
              refine r_iconst (-1) rfl ?_
              refine r_callV 34 rfl [.ref 231, .int (-1)] [] (Nat.le_of_ble_eq_true rfl) rfl (T_X11_tell_231 _ hI173 (-1) (by decide)) ?_
              rintro _ _ ⟨g299, rfl, hI300, hF301, v302, rfl, hr303⟩
              refine At.sti ?_
              have hF304 := Fr.tr hF174 hF301 rfl rfl
              have zv305 : ((-1) : Int32).toInt = (-1) := rfl
              refine At.enter rfl ?_
              refine r_ireti ?_
              obtain ⟨v306, hv306⟩ : ∃ v, eA g0 233 0 = v := ⟨_, rfl⟩
              have tv306 := congrArg Int32.toInt hv306
              have wv306 := HI.t0 hI0
              rw [hv306] at wv306
              have tv306 := congrArg Int32.toInt hv306
              have x307 := HI.eqA hI300 (p := 233) (j := 0) ((((eA_c (hF301.2.1 233 (by decide))).trans (eA_c gA_sI)).trans hv306))
              obtain ⟨v308, hv308⟩ : ∃ v, eA g0 233 4 = v := ⟨_, rfl⟩
              have wv308 := HI.t4 hI0
              rw [hv308] at wv308
              have tv308 := congrArg Int32.toInt hv308
              have x309 := HI.eqA hI300 (p := 233) (j := 4) ((((eA_c (hF301.2.1 233 (by decide))).trans (eA_c gA_sI)).trans hv308))
              obtain ⟨v310, hv310⟩ : ∃ v, eA g0 233 5 = v := ⟨_, rfl⟩
              have wv310 := HI.t5 hI0
              rw [hv310] at wv310
              have tv310 := congrArg Int32.toInt hv310
              have x311 := HI.eqA hI300 (p := 233) (j := 5) ((((eA_c (hF301.2.1 233 (by decide))).trans (eA_c gA_sI)).trans hv310))
              obtain ⟨v312, hv312⟩ : ∃ v, eA g0 233 6 = v := ⟨_, rfl⟩
              have wv312 := HI.t6 hI0
              rw [hv312] at wv312
              have tv312 := congrArg Int32.toInt hv312
              have x313 := HI.eqA hI300 (p := 233) (j := 6) ((((eA_c (hF301.2.1 233 (by decide))).trans (eA_c gA_sI)).trans hv312))
              obtain ⟨v314, hv314⟩ : ∃ v, eA g0 233 1 = v := ⟨_, rfl⟩
              have tv314 := congrArg Int32.toInt hv314
              have wv314 := HI.t1 hI0
              rw [hv314] at wv314
              have tv314 := congrArg Int32.toInt hv314
              have x315 := HI.eqA hI300 (p := 233) (j := 1) ((((eA_c (hF301.2.1 233 (by decide))).trans (eA_c gA_sI)).trans hv314))
              have x316 := HI.eqA hI0 (p := 233) (j := 0) (hv306)
              have x317 := HI.eqA hI0 (p := 233) (j := 4) (hv308)
              have x318 := HI.eqA hI0 (p := 233) (j := 5) (hv310)
              have x319 := HI.eqA hI0 (p := 233) (j := 6) (hv312)
              have x320 := HI.eqA hI0 (p := 233) (j := 1) (hv314)
              have x321 := HI.eqA hI0 (p := 233) (j := 0) (hv306)
              exact ⟨_, rfl, hI300, hF304, _, rfl, by omega, ⟨⟨by omega, by omega, by omega, by omega, by omega⟩, (by intro i i0 i1; refine Eq.trans ?_ (if_neg (show ¬ (((-1 ≤ a1.toInt ∧ a1.toInt ≤ 11 ∧ 1 ≤ a2.toInt ∧ a2.toInt ≤ 9 ∧ 0 ≤ a3.toInt ∧ a3.toInt ≤ 99) ∧ (eA g0 233 0).toInt < 12) ∧ i = 10 + 3 * (eA g0 233 0).toInt + 0) from by omega)).symm; refine Eq.trans ?_ (if_neg (show ¬ (((-1 ≤ a1.toInt ∧ a1.toInt ≤ 11 ∧ 1 ≤ a2.toInt ∧ a2.toInt ≤ 9 ∧ 0 ≤ a3.toInt ∧ a3.toInt ≤ 99) ∧ (eA g0 233 0).toInt < 12) ∧ i = 10 + 3 * (eA g0 233 0).toInt + 1) from by omega)).symm; refine Eq.trans ?_ (if_neg (show ¬ (((-1 ≤ a1.toInt ∧ a1.toInt ≤ 11 ∧ 1 ≤ a2.toInt ∧ a2.toInt ≤ 9 ∧ 0 ≤ a3.toInt ∧ a3.toInt ≤ 99) ∧ (eA g0 233 0).toInt < 12) ∧ i = 10 + 3 * (eA g0 233 0).toInt + 2) from by omega)).symm; refine (eA_ti (((hF301.2.1 233 (by decide)).trans (gA_sI)))).trans ?_; (first | rfl | exact eA_ix (by omega) | omega))⟩⟩
            · have c298_ : v273.toInt ≤ 99 := en_j_gt_f c298
              refine At.enter rfl ?_
              refine r_iconst 1 rfl ?_
              refine r_goto ?_
              refine At.enter rfl ?_
              refine q_iretz (by decide) ?_
              refine At.enter rfl ?_
              refine q_iretz (by decide) ?_
              refine At.enter rfl ?_
              refine r_ift (by decide) ?_
              refine At.enter rfl ?_
              refine r_aload_n rfl ?_
              refine q_getR (Sh.ref hI173.1 kx_231 rfl) ?_
              refine r_iconst 0 rfl ?_
              obtain ⟨v322, hv322⟩ : ∃ v, eA g0 233 0 = v := ⟨_, rfl⟩
              have tv322 := congrArg Int32.toInt hv322
              have wv322 := HI.t0 hI0
              rw [hv322] at wv322
              refine q_iald (Sh.arr hI173.1 ka_233) 0 rfl (by decide) v322 ((eA_c (gA_sI)).trans hv322) ?_
              refine r_istore ([(4, .int v322), (0, .ref 231), (1, .int a1), (2, .int a2), (3, .int a3)]) rfl ?_
              refine r_iload rfl ?_
              refine r_bipush 12 rfl ?_
              refine r_ics 50 rfl (fun c323 => ?_) (fun c323 => ?_)
              · have c323_ : v322.toInt ≠ 12 := en_i_ne_t c323
                refine At.enter rfl ?_
                refine r_aload_n rfl ?_
                refine q_getR (Sh.ref hI173.1 kx_231 rfl) ?_
                refine r_bipush 10 rfl ?_
                refine r_iconst 3 rfl ?_
                refine r_iload rfl ?_
                refine q_imul (3 * v322.toInt) rfl (by omega) (fun v324 hv324 => ?_)
                refine q_iadd (10 + v324.toInt) rfl (by omega) (fun v325 hv325 => ?_)
                refine r_iload_n rfl ?_
                refine q_iast (Sh.arr hI173.1 ka_233) ((3 * v322.toInt + 10)) (by omega) (by omega) ?_
                have hI326 := HI.ws hI173 (j := (3 * v322.toInt + 10)) (v := a1) (v322.toInt) 0 (by omega) (by decide) (by omega) (by omega)
                have hF327 := Fr.wA (p := 233) (j := (3 * v322.toInt + 10)) (v := a1) hF174 rfl
                refine r_aload_n rfl ?_
                refine q_getR (Sh.ref hI326.1 kx_231 rfl) ?_
                refine r_bipush 10 rfl ?_
                refine r_iconst 3 rfl ?_
                refine r_iload rfl ?_
                refine q_imul (3 * v322.toInt) rfl (by omega) (fun v328 hv328 => ?_)
                refine q_iadd (10 + v328.toInt) rfl (by omega) (fun v329 hv329 => ?_)
                refine r_iconst 1 rfl ?_
                refine q_iadd (v329.toInt + 1) rfl (by omega) (fun v330 hv330 => ?_)
                refine r_iload_n rfl ?_
                refine q_iast (Sh.arr hI326.1 ka_233) ((3 * v322.toInt + 11)) (by omega) (by omega) ?_
                have hI331 := HI.ws hI326 (j := (3 * v322.toInt + 11)) (v := a2) (v322.toInt) 1 (by omega) (by decide) (by omega) (by omega)
                have hF332 := Fr.wA (p := 233) (j := (3 * v322.toInt + 11)) (v := a2) hF327 rfl
                refine r_aload_n rfl ?_
                refine q_getR (Sh.ref hI331.1 kx_231 rfl) ?_
                refine r_bipush 10 rfl ?_
                refine r_iconst 3 rfl ?_
                refine r_iload rfl ?_
                refine q_imul (3 * v322.toInt) rfl (by omega) (fun v333 hv333 => ?_)
                refine q_iadd (10 + v333.toInt) rfl (by omega) (fun v334 hv334 => ?_)
                refine r_iconst 2 rfl ?_
                refine q_iadd (v334.toInt + 2) rfl (by omega) (fun v335 hv335 => ?_)
                refine r_iload_n rfl ?_
                refine q_iast (Sh.arr hI331.1 ka_233) ((3 * v322.toInt + 12)) (by omega) (by omega) ?_
                have hI336 := HI.ws hI331 (j := (3 * v322.toInt + 12)) (v := a3) (v322.toInt) 2 (by omega) (by decide) (by omega) (by omega)
                have hF337 := Fr.wA (p := 233) (j := (3 * v322.toInt + 12)) (v := a3) hF332 rfl
                refine r_aload_n rfl ?_
                refine q_getR (Sh.ref hI336.1 kx_231 rfl) ?_
                refine r_iconst 0 rfl ?_
                refine r_dup2 ⟨rfl, rfl⟩ ?_
                refine q_iald (Sh.arr hI336.1 ka_233) 0 rfl (by decide) v322 (((eA_sA_ne hI331.1 ka_233 (by first | decide | omega) (by first | decide | omega) (by first | decide | omega)).trans ((eA_sA_ne hI326.1 ka_233 (by first | decide | omega) (by first | decide | omega) (by first | decide | omega)).trans ((eA_sA_ne hI173.1 ka_233 (by first | decide | omega) (by first | decide | omega) (by first | decide | omega)).trans (eA_c gA_sI)))).trans hv322) ?_
                refine r_iconst 1 rfl ?_
                refine q_iadd (v322.toInt + 1) rfl (by omega) (fun v338 hv338 => ?_)
                refine q_iast (Sh.arr hI336.1 ka_233) (0) rfl (by decide) ?_
                have x341 := HI.eqA hI336 (p := 233) (j := 0) ((((eA_sA_ne hI331.1 ka_233 (by first | decide | omega) (by first | decide | omega) (by first | decide | omega)).trans ((eA_sA_ne hI326.1 ka_233 (by first | decide | omega) (by first | decide | omega) (by first | decide | omega)).trans ((eA_sA_ne hI173.1 ka_233 (by first | decide | omega) (by first | decide | omega) (by first | decide | omega)).trans (eA_c gA_sI)))).trans hv322))
                have hI339 := HI.wt0 hI336 (v := v338) (by rw [(((eA_sA_ne hI331.1 ka_233 (by first | decide | omega) (by first | decide | omega) (by first | decide | omega)).trans ((eA_sA_ne hI326.1 ka_233 (by first | decide | omega) (by first | decide | omega) (by first | decide | omega)).trans ((eA_sA_ne hI173.1 ka_233 (by first | decide | omega) (by first | decide | omega) (by first | decide | omega)).trans (eA_c gA_sI)))).trans hv322)]; omega) (by omega) (i := (3 * v322.toInt + 11)) (by rw [(((eA_sA_ne hI331.1 ka_233 (by first | decide | omega) (by first | decide | omega) (by first | decide | omega)).trans ((eA_sA_ne hI326.1 ka_233 (by first | decide | omega) (by first | decide | omega) (by first | decide | omega)).trans ((eA_sA_ne hI173.1 ka_233 (by first | decide | omega) (by first | decide | omega) (by first | decide | omega)).trans (eA_c gA_sI)))).trans hv322)]; omega) (by rw [((eA_sA_ne hI331.1 ka_233 (by first | decide | omega) (by first | decide | omega) (by first | decide | omega)).trans (eA_sA_eq hI326.1 ka_233 (by first | rfl | omega) (by first | decide | omega) (by first | decide | omega)))]; omega)
                have hF340 := Fr.wA (p := 233) (j := 0) (v := v338) hF337 rfl
                refine r_aload_n rfl ?_
                refine r_iload rfl ?_
                refine r_callV 116 rfl [.ref 231, .int v322] [] (Nat.le_of_ble_eq_true rfl) rfl (T_X11_tell_231 _ hI339 v322 (by omega)) ?_
                rintro _ _ ⟨g342, rfl, hI343, hF344, v345, rfl, hr346⟩
                refine At.sti ?_
                have hF347 := Fr.tr hF340 hF344 rfl rfl
                refine At.enter rfl ?_
                refine r_ireti ?_
                have x348 := HI.eqA hI343 (p := 233) (j := 0) (((eA_c (hF344.2.1 233 (by decide))).trans (eA_sA_eq hI336.1 ka_233 (by first | rfl | omega) (by first | decide | omega) (by first | decide | omega))))
                obtain ⟨v349, hv349⟩ : ∃ v, eA g0 233 4 = v := ⟨_, rfl⟩
                have wv349 := HI.t4 hI0
                rw [hv349] at wv349
                have tv349 := congrArg Int32.toInt hv349
                have x350 := HI.eqA hI343 (p := 233) (j := 4) ((((eA_c (hF344.2.1 233 (by decide))).trans ((eA_sA_ne hI336.1 ka_233 (by first | decide | omega) (by first | decide | omega) (by first | decide | omega)).trans ((eA_sA_ne hI331.1 ka_233 (by first | decide | omega) (by first | decide | omega) (by first | decide | omega)).trans ((eA_sA_ne hI326.1 ka_233 (by first | decide | omega) (by first | decide | omega) (by first | decide | omega)).trans ((eA_sA_ne hI173.1 ka_233 (by first | decide | omega) (by first | decide | omega) (by first | decide | omega)).trans (eA_c gA_sI)))))).trans hv349))
                obtain ⟨v351, hv351⟩ : ∃ v, eA g0 233 5 = v := ⟨_, rfl⟩
                have wv351 := HI.t5 hI0
                rw [hv351] at wv351
                have tv351 := congrArg Int32.toInt hv351
                have x352 := HI.eqA hI343 (p := 233) (j := 5) ((((eA_c (hF344.2.1 233 (by decide))).trans ((eA_sA_ne hI336.1 ka_233 (by first | decide | omega) (by first | decide | omega) (by first | decide | omega)).trans ((eA_sA_ne hI331.1 ka_233 (by first | decide | omega) (by first | decide | omega) (by first | decide | omega)).trans ((eA_sA_ne hI326.1 ka_233 (by first | decide | omega) (by first | decide | omega) (by first | decide | omega)).trans ((eA_sA_ne hI173.1 ka_233 (by first | decide | omega) (by first | decide | omega) (by first | decide | omega)).trans (eA_c gA_sI)))))).trans hv351))
                obtain ⟨v353, hv353⟩ : ∃ v, eA g0 233 6 = v := ⟨_, rfl⟩
                have wv353 := HI.t6 hI0
                rw [hv353] at wv353
                have tv353 := congrArg Int32.toInt hv353
                have x354 := HI.eqA hI343 (p := 233) (j := 6) ((((eA_c (hF344.2.1 233 (by decide))).trans ((eA_sA_ne hI336.1 ka_233 (by first | decide | omega) (by first | decide | omega) (by first | decide | omega)).trans ((eA_sA_ne hI331.1 ka_233 (by first | decide | omega) (by first | decide | omega) (by first | decide | omega)).trans ((eA_sA_ne hI326.1 ka_233 (by first | decide | omega) (by first | decide | omega) (by first | decide | omega)).trans ((eA_sA_ne hI173.1 ka_233 (by first | decide | omega) (by first | decide | omega) (by first | decide | omega)).trans (eA_c gA_sI)))))).trans hv353))
                obtain ⟨v355, hv355⟩ : ∃ v, eA g0 233 1 = v := ⟨_, rfl⟩
                have tv355 := congrArg Int32.toInt hv355
                have wv355 := HI.t1 hI0
                rw [hv355] at wv355
                have tv355 := congrArg Int32.toInt hv355
                have x356 := HI.eqA hI343 (p := 233) (j := 1) ((((eA_c (hF344.2.1 233 (by decide))).trans ((eA_sA_ne hI336.1 ka_233 (by first | decide | omega) (by first | decide | omega) (by first | decide | omega)).trans ((eA_sA_ne hI331.1 ka_233 (by first | decide | omega) (by first | decide | omega) (by first | decide | omega)).trans ((eA_sA_ne hI326.1 ka_233 (by first | decide | omega) (by first | decide | omega) (by first | decide | omega)).trans ((eA_sA_ne hI173.1 ka_233 (by first | decide | omega) (by first | decide | omega) (by first | decide | omega)).trans (eA_c gA_sI)))))).trans hv355))
                have x357 := HI.eqA hI0 (p := 233) (j := 0) (hv322)
                have x358 := HI.eqA hI0 (p := 233) (j := 4) (hv349)
                have x359 := HI.eqA hI0 (p := 233) (j := 5) (hv351)
                have x360 := HI.eqA hI0 (p := 233) (j := 6) (hv353)
                have x361 := HI.eqA hI0 (p := 233) (j := 1) (hv355)
                have x362 := HI.eqA hI0 (p := 233) (j := 0) (hv322)
                exact ⟨_, rfl, hI343, hF347, _, rfl, by omega, ⟨⟨by omega, by omega, by omega, by omega, by omega⟩, (by intro i i0 i1; exact (Decidable.em (((-1 ≤ a1.toInt ∧ a1.toInt ≤ 11 ∧ 1 ≤ a2.toInt ∧ a2.toInt ≤ 9 ∧ 0 ≤ a3.toInt ∧ a3.toInt ≤ 99) ∧ (eA g0 233 0).toInt < 12) ∧ i = 10 + 3 * (eA g0 233 0).toInt + 0)).elim (fun k169_ => by refine Eq.trans ?_ (if_pos k169_).symm; refine (eA_ti ((hF344.2.1 233 (by decide)))).trans ?_; exact (Decidable.em (i = 0)).elim (fun k170_ => by refine (eA_eqT hI336.1 ka_233 k170_ (by first | decide | omega) (by first | decide | omega)).trans ?_; (first | (rfl) | (omega))) (fun k170_ => by refine (eA_neT hI336.1 ka_233 k170_ (by first | decide | omega) (by omega)).trans ?_; exact (Decidable.em (i = (3 * v322.toInt + 12))).elim (fun k171_ => by refine (eA_eqT hI331.1 ka_233 k171_ (by first | decide | omega) (by first | decide | omega)).trans ?_; (first | (rfl) | (omega))) (fun k171_ => by refine (eA_neT hI331.1 ka_233 k171_ (by first | decide | omega) (by omega)).trans ?_; exact (Decidable.em (i = (3 * v322.toInt + 11))).elim (fun k172_ => by refine (eA_eqT hI326.1 ka_233 k172_ (by first | decide | omega) (by first | decide | omega)).trans ?_; (first | (rfl) | (omega))) (fun k172_ => by refine (eA_neT hI326.1 ka_233 k172_ (by first | decide | omega) (by omega)).trans ?_; exact (Decidable.em (i = (3 * v322.toInt + 10))).elim (fun k173_ => by refine (eA_eqT hI173.1 ka_233 k173_ (by first | decide | omega) (by first | decide | omega)).trans ?_; (first | (rfl) | (omega))) (fun k173_ => by refine (eA_neT hI173.1 ka_233 k173_ (by first | decide | omega) (by omega)).trans ?_; refine (eA_ti ((gA_sI))).trans ?_; (first | rfl | exact eA_ix (by omega) | omega)))))) (fun k169_ => by refine Eq.trans ?_ (if_neg k169_).symm; exact (Decidable.em (((-1 ≤ a1.toInt ∧ a1.toInt ≤ 11 ∧ 1 ≤ a2.toInt ∧ a2.toInt ≤ 9 ∧ 0 ≤ a3.toInt ∧ a3.toInt ≤ 99) ∧ (eA g0 233 0).toInt < 12) ∧ i = 10 + 3 * (eA g0 233 0).toInt + 1)).elim (fun k174_ => by refine Eq.trans ?_ (if_pos k174_).symm; refine (eA_ti ((hF344.2.1 233 (by decide)))).trans ?_; exact (Decidable.em (i = 0)).elim (fun k175_ => by refine (eA_eqT hI336.1 ka_233 k175_ (by first | decide | omega) (by first | decide | omega)).trans ?_; (first | (rfl) | (omega))) (fun k175_ => by refine (eA_neT hI336.1 ka_233 k175_ (by first | decide | omega) (by omega)).trans ?_; exact (Decidable.em (i = (3 * v322.toInt + 12))).elim (fun k176_ => by refine (eA_eqT hI331.1 ka_233 k176_ (by first | decide | omega) (by first | decide | omega)).trans ?_; (first | (rfl) | (omega))) (fun k176_ => by refine (eA_neT hI331.1 ka_233 k176_ (by first | decide | omega) (by omega)).trans ?_; exact (Decidable.em (i = (3 * v322.toInt + 11))).elim (fun k177_ => by refine (eA_eqT hI326.1 ka_233 k177_ (by first | decide | omega) (by first | decide | omega)).trans ?_; (first | (rfl) | (omega))) (fun k177_ => by refine (eA_neT hI326.1 ka_233 k177_ (by first | decide | omega) (by omega)).trans ?_; exact (Decidable.em (i = (3 * v322.toInt + 10))).elim (fun k178_ => by refine (eA_eqT hI173.1 ka_233 k178_ (by first | decide | omega) (by first | decide | omega)).trans ?_; (first | (rfl) | (omega))) (fun k178_ => by refine (eA_neT hI173.1 ka_233 k178_ (by first | decide | omega) (by omega)).trans ?_; refine (eA_ti ((gA_sI))).trans ?_; (first | rfl | exact eA_ix (by omega) | omega)))))) (fun k174_ => by refine Eq.trans ?_ (if_neg k174_).symm; exact (Decidable.em (((-1 ≤ a1.toInt ∧ a1.toInt ≤ 11 ∧ 1 ≤ a2.toInt ∧ a2.toInt ≤ 9 ∧ 0 ≤ a3.toInt ∧ a3.toInt ≤ 99) ∧ (eA g0 233 0).toInt < 12) ∧ i = 10 + 3 * (eA g0 233 0).toInt + 2)).elim (fun k179_ => by refine Eq.trans ?_ (if_pos k179_).symm; refine (eA_ti ((hF344.2.1 233 (by decide)))).trans ?_; exact (Decidable.em (i = 0)).elim (fun k180_ => by refine (eA_eqT hI336.1 ka_233 k180_ (by first | decide | omega) (by first | decide | omega)).trans ?_; (first | (rfl) | (omega))) (fun k180_ => by refine (eA_neT hI336.1 ka_233 k180_ (by first | decide | omega) (by omega)).trans ?_; exact (Decidable.em (i = (3 * v322.toInt + 12))).elim (fun k181_ => by refine (eA_eqT hI331.1 ka_233 k181_ (by first | decide | omega) (by first | decide | omega)).trans ?_; (first | (rfl) | (omega))) (fun k181_ => by refine (eA_neT hI331.1 ka_233 k181_ (by first | decide | omega) (by omega)).trans ?_; exact (Decidable.em (i = (3 * v322.toInt + 11))).elim (fun k182_ => by refine (eA_eqT hI326.1 ka_233 k182_ (by first | decide | omega) (by first | decide | omega)).trans ?_; (first | (rfl) | (omega))) (fun k182_ => by refine (eA_neT hI326.1 ka_233 k182_ (by first | decide | omega) (by omega)).trans ?_; exact (Decidable.em (i = (3 * v322.toInt + 10))).elim (fun k183_ => by refine (eA_eqT hI173.1 ka_233 k183_ (by first | decide | omega) (by first | decide | omega)).trans ?_; (first | (rfl) | (omega))) (fun k183_ => by refine (eA_neT hI173.1 ka_233 k183_ (by first | decide | omega) (by omega)).trans ?_; refine (eA_ti ((gA_sI))).trans ?_; (first | rfl | exact eA_ix (by omega) | omega)))))) (fun k179_ => by refine Eq.trans ?_ (if_neg k179_).symm; refine (eA_ti ((hF344.2.1 233 (by decide)))).trans ?_; exact (Decidable.em (i = 0)).elim (fun k184_ => by refine (eA_eqT hI336.1 ka_233 k184_ (by first | decide | omega) (by first | decide | omega)).trans ?_; (first | (rfl) | (omega))) (fun k184_ => by refine (eA_neT hI336.1 ka_233 k184_ (by first | decide | omega) (by omega)).trans ?_; exact (Decidable.em (i = (3 * v322.toInt + 12))).elim (fun k185_ => by refine (eA_eqT hI331.1 ka_233 k185_ (by first | decide | omega) (by first | decide | omega)).trans ?_; (first | (rfl) | (omega))) (fun k185_ => by refine (eA_neT hI331.1 ka_233 k185_ (by first | decide | omega) (by omega)).trans ?_; exact (Decidable.em (i = (3 * v322.toInt + 11))).elim (fun k186_ => by refine (eA_eqT hI326.1 ka_233 k186_ (by first | decide | omega) (by first | decide | omega)).trans ?_; (first | (rfl) | (omega))) (fun k186_ => by refine (eA_neT hI326.1 ka_233 k186_ (by first | decide | omega) (by omega)).trans ?_; exact (Decidable.em (i = (3 * v322.toInt + 10))).elim (fun k187_ => by refine (eA_eqT hI173.1 ka_233 k187_ (by first | decide | omega) (by first | decide | omega)).trans ?_; (first | (rfl) | (omega))) (fun k187_ => by refine (eA_neT hI173.1 ka_233 k187_ (by first | decide | omega) (by omega)).trans ?_; refine (eA_ti ((gA_sI))).trans ?_; (first | rfl | exact eA_ix (by omega) | omega)))))))))⟩⟩
              · have c323_ : v322.toInt = 12 := en_i_ne_f c323
                refine At.enter rfl ?_
                refine r_aload_n rfl ?_
                refine r_bipush (-5) rfl ?_
                refine r_callV 56 rfl [.ref 231, .int (-5)] [] (Nat.le_of_ble_eq_true rfl) rfl (T_X11_tell_231 _ hI173 (-5) (by decide)) ?_
                rintro _ _ ⟨g363, rfl, hI364, hF365, v366, rfl, hr367⟩
                refine At.sti ?_
                have hF368 := Fr.tr hF174 hF365 rfl rfl
                have zv369 : ((-5) : Int32).toInt = (-5) := rfl
                refine At.enter rfl ?_
                refine r_ireti ?_
                have x370 := HI.eqA hI364 (p := 233) (j := 0) ((((eA_c (hF365.2.1 233 (by decide))).trans (eA_c gA_sI)).trans hv322))
                obtain ⟨v371, hv371⟩ : ∃ v, eA g0 233 4 = v := ⟨_, rfl⟩
                have wv371 := HI.t4 hI0
                rw [hv371] at wv371
                have tv371 := congrArg Int32.toInt hv371
                have x372 := HI.eqA hI364 (p := 233) (j := 4) ((((eA_c (hF365.2.1 233 (by decide))).trans (eA_c gA_sI)).trans hv371))
                obtain ⟨v373, hv373⟩ : ∃ v, eA g0 233 5 = v := ⟨_, rfl⟩
                have wv373 := HI.t5 hI0
                rw [hv373] at wv373
                have tv373 := congrArg Int32.toInt hv373
                have x374 := HI.eqA hI364 (p := 233) (j := 5) ((((eA_c (hF365.2.1 233 (by decide))).trans (eA_c gA_sI)).trans hv373))
                obtain ⟨v375, hv375⟩ : ∃ v, eA g0 233 6 = v := ⟨_, rfl⟩
                have wv375 := HI.t6 hI0
                rw [hv375] at wv375
                have tv375 := congrArg Int32.toInt hv375
                have x376 := HI.eqA hI364 (p := 233) (j := 6) ((((eA_c (hF365.2.1 233 (by decide))).trans (eA_c gA_sI)).trans hv375))
                obtain ⟨v377, hv377⟩ : ∃ v, eA g0 233 1 = v := ⟨_, rfl⟩
                have tv377 := congrArg Int32.toInt hv377
                have wv377 := HI.t1 hI0
                rw [hv377] at wv377
                have tv377 := congrArg Int32.toInt hv377
                have x378 := HI.eqA hI364 (p := 233) (j := 1) ((((eA_c (hF365.2.1 233 (by decide))).trans (eA_c gA_sI)).trans hv377))
                have x379 := HI.eqA hI0 (p := 233) (j := 0) (hv322)
                have x380 := HI.eqA hI0 (p := 233) (j := 4) (hv371)
                have x381 := HI.eqA hI0 (p := 233) (j := 5) (hv373)
                have x382 := HI.eqA hI0 (p := 233) (j := 6) (hv375)
                have x383 := HI.eqA hI0 (p := 233) (j := 1) (hv377)
                have x384 := HI.eqA hI0 (p := 233) (j := 0) (hv322)
                exact ⟨_, rfl, hI364, hF368, _, rfl, by omega, ⟨⟨by omega, by omega, by omega, by omega, by omega⟩, (by intro i i0 i1; refine Eq.trans ?_ (if_neg (show ¬ (((-1 ≤ a1.toInt ∧ a1.toInt ≤ 11 ∧ 1 ≤ a2.toInt ∧ a2.toInt ≤ 9 ∧ 0 ≤ a3.toInt ∧ a3.toInt ≤ 99) ∧ (eA g0 233 0).toInt < 12) ∧ i = 10 + 3 * (eA g0 233 0).toInt + 0) from by omega)).symm; refine Eq.trans ?_ (if_neg (show ¬ (((-1 ≤ a1.toInt ∧ a1.toInt ≤ 11 ∧ 1 ≤ a2.toInt ∧ a2.toInt ≤ 9 ∧ 0 ≤ a3.toInt ∧ a3.toInt ≤ 99) ∧ (eA g0 233 0).toInt < 12) ∧ i = 10 + 3 * (eA g0 233 0).toInt + 1) from by omega)).symm; refine Eq.trans ?_ (if_neg (show ¬ (((-1 ≤ a1.toInt ∧ a1.toInt ≤ 11 ∧ 1 ≤ a2.toInt ∧ a2.toInt ≤ 9 ∧ 0 ≤ a3.toInt ∧ a3.toInt ≤ 99) ∧ (eA g0 233 0).toInt < 12) ∧ i = 10 + 3 * (eA g0 233 0).toInt + 2) from by omega)).symm; refine (eA_ti (((hF365.2.1 233 (by decide)).trans (gA_sI)))).trans ?_; (first | rfl | exact eA_ix (by omega) | omega))⟩⟩
