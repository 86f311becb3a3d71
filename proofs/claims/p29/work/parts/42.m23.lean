def F_X11_status_231 : List (Nat × Nat) := [(231, 0)]
def A_X11_status_231 : List Nat := []
set_option maxRecDepth 100000 in
set_option maxHeartbeats 4000000 in
theorem T_X11_status_231 (d : Nat) {N : Nat} {g0 : List en_E} (hI0 : HI g0) : Ev (d + 1) 264 [.ref 231] (g0, N) (fun w h' => ∃ g', h' = (g', N) ∧ HI g' ∧ Fr F_X11_status_231 A_X11_status_231 g0 g' ∧ ∃ r : Int32, w = some (.int r) ∧ True) := by
  have hF0 : Fr F_X11_status_231 A_X11_status_231 g0 g0 := Fr.rf
  refine Ev.mk rfl rfl ⟨Nat.le_of_ble_eq_true rfl, Or.inr (q_rc hI0.1 kx_231 rfl)⟩ ?_
  show At _ none _ _ (0, [(0, .ref 231)], [], (_, _)) _
  refine At.enter rfl ?_
  refine r_aload_n rfl ?_
  refine r_iconst 0 rfl ?_
  refine q_putI (Sh.int hI0.1 kx_231 rfl) rfl ?_
  have hI7 := HI.wI0 hI0 kx_231 rfl (p := 231) (b := 0) (v := 0) rfl
  have hF8 := Fr.wI (p := 231) (b := 0) (v := 0) hF0 rfl
  refine r_aload_n rfl ?_
  obtain ⟨v9, hv9⟩ : ∃ v, gI g0 231 1 = v := ⟨_, rfl⟩
  refine q_getI (Sh.int hI7.1 kx_231 rfl) v9 ((gI_sI_ne (by decide)).trans hv9) ?_
  refine r_ireti ?_
  exact ⟨_, rfl, hI7, hF8, _, rfl, trivial⟩

def F_X11_stand_231 : List (Nat × Nat) := [(231, 0), (231, 1)]
def A_X11_stand_231 : List Nat := [232, 233]
theorem ma_X11_tell_231_233 : memA A_X11_tell_231 233 = false := by decide
set_option maxRecDepth 100000 in
set_option maxHeartbeats 4000000 in
theorem T_X11_stand_231 (d : Nat) {N : Nat} {g0 : List en_E} (hI0 : HI g0) (a1 : Int32) (a2 : Int32) (a3 : Int32) : Ev (d + 3) 172 [.ref 231, .int a1, .int a2, .int a3] (g0, N) (fun w h' => ∃ g', h' = (g', N) ∧ HI g' ∧ Fr F_X11_stand_231 A_X11_stand_231 g0 g' ∧ ∃ r : Int32, w = some (.int r) ∧ ((-5) ≤ r.toInt ∧ r.toInt ≤ 11) ∧ ((((¬ (-1 ≤ a1.toInt ∧ a1.toInt ≤ 11 ∧ 1 ≤ a2.toInt ∧ a2.toInt ≤ 9 ∧ 0 ≤ a3.toInt ∧ a3.toInt ≤ 99) → r.toInt = -1 ∧ (eA g' 233 0).toInt = (eA g0 233 0).toInt) ∧ ((-1 ≤ a1.toInt ∧ a1.toInt ≤ 11 ∧ 1 ≤ a2.toInt ∧ a2.toInt ≤ 9 ∧ 0 ≤ a3.toInt ∧ a3.toInt ≤ 99) ∧ 12 ≤ (eA g0 233 0).toInt → r.toInt = -5 ∧ (eA g' 233 0).toInt = (eA g0 233 0).toInt) ∧ ((-1 ≤ a1.toInt ∧ a1.toInt ≤ 11 ∧ 1 ≤ a2.toInt ∧ a2.toInt ≤ 9 ∧ 0 ≤ a3.toInt ∧ a3.toInt ≤ 99) ∧ (eA g0 233 0).toInt < 12 → r.toInt = (eA g0 233 0).toInt ∧ (eA g' 233 0).toInt = (eA g0 233 0).toInt + 1)) ∧ (eA g' 233 4).toInt = (eA g0 233 4).toInt ∧ (eA g' 233 5).toInt = (eA g0 233 5).toInt ∧ (eA g' 233 6).toInt = (eA g0 233 6).toInt ∧ (eA g' 233 1).toInt = (eA g0 233 1).toInt ∧ (eA g' 233 2).toInt = (eA g0 233 2).toInt ∧ (eA g' 233 3).toInt = (eA g0 233 3).toInt) ∧ (∀ i : Int, 10 ≤ i → i < 5510 → (eA g' 233 (i)).toInt = if ((-1 ≤ a1.toInt ∧ a1.toInt ≤ 11 ∧ 1 ≤ a2.toInt ∧ a2.toInt ≤ 9 ∧ 0 ≤ a3.toInt ∧ a3.toInt ≤ 99) ∧ (eA g0 233 0).toInt < 12) ∧ i = 10 + 3 * (eA g0 233 0).toInt + 0 then a1.toInt else if ((-1 ≤ a1.toInt ∧ a1.toInt ≤ 11 ∧ 1 ≤ a2.toInt ∧ a2.toInt ≤ 9 ∧ 0 ≤ a3.toInt ∧ a3.toInt ≤ 99) ∧ (eA g0 233 0).toInt < 12) ∧ i = 10 + 3 * (eA g0 233 0).toInt + 1 then a2.toInt else if ((-1 ≤ a1.toInt ∧ a1.toInt ≤ 11 ∧ 1 ≤ a2.toInt ∧ a2.toInt ≤ 9 ∧ 0 ≤ a3.toInt ∧ a3.toInt ≤ 99) ∧ (eA g0 233 0).toInt < 12) ∧ i = 10 + 3 * (eA g0 233 0).toInt + 2 then a3.toInt else (eA g0 233 (i)).toInt))) := by
  have hF0 : Fr F_X11_stand_231 A_X11_stand_231 g0 g0 := Fr.rf
  refine Ev.mk rfl rfl ⟨Nat.le_of_ble_eq_true rfl, Or.inr (q_rc hI0.1 kx_231 rfl)⟩ ?_
  show At _ none _ _ (0, [(0, .ref 231), (1, .int a1), (2, .int a2), (3, .int a3)], [], (_, _)) _
  refine At.enter rfl ?_
  refine r_aload_n rfl ?_
  refine r_iconst 0 rfl ?_
  refine q_putI (Sh.int hI0.1 kx_231 rfl) rfl ?_
  have hI173 := HI.wI0 hI0 kx_231 rfl (p := 231) (b := 0) (v := 0) rfl
  have hF174 := Fr.wI (p := 231) (b := 0) (v := 0) hF0 rfl
  refine r_iconst 0 rfl ?_
  refine r_iload_n rfl ?_
  refine q_inlS 10 rfl [.int 0, .int a1] [] (Nat.le_of_ble_eq_true rfl) rfl ?_
  refine Ev.mk rfl rfl ⟨Nat.le_of_ble_eq_true rfl, Or.inl rfl⟩ ?_
  show At _ none _ _ (0, [(0, .int 0), (1, .int a1)], [], (_, _)) _
  refine At.enter rfl ?_
  refine r_iload_n rfl ?_
  refine r_tsw 28 rfl ?_
  refine At.enter rfl ?_
  refine r_iload_n rfl ?_
  refine q_i2l (fun v175 hv175 => ?_)
  refine r_ldc2 (-1) rfl ?_
  refine r_ldc2 11 rfl ?_
  refine q_inlS 39 rfl [.long v175, .long (-1), .long 11] [] (Nat.le_of_ble_eq_true rfl) rfl ?_
  refine Ev.mk rfl rfl ⟨Nat.le_of_ble_eq_true rfl, Or.inl rfl⟩ ?_
  show At _ none _ _ (0, [(0, .long v175), (2, .long (-1)), (4, .long 11)], [], (_, _)) _
  refine At.enter rfl ?_
  refine r_lload_n rfl ?_
  refine r_lload_n rfl ?_
  refine r_lcmp _ rfl ?_
  refine r_ifs 6 rfl (fun c176 => ?_) (fun c176 => ?_)
  · have c176_ : v175.toInt < (-1) := en_j_lt_t c176
    refine At.enter rfl ?_
    refine r_iconst 0 rfl ?_
    refine Ar.fall 18 rfl ?_
    refine At.enter rfl ?_
    refine q_iretz (by decide) ?_
    refine At.enter rfl ?_
    refine q_iretz (by decide) ?_
    refine At.enter rfl ?_
    refine r_ift (by decide) ?_
    refine At.enter rfl ?_
    refine r_aload_n rfl ?_
    refine r_iconst (-1) rfl ?_
    refine r_callV 34 rfl [.ref 231, .int (-1)] [] (Nat.le_of_ble_eq_true rfl) rfl (T_X11_tell_231 _ hI173 (-1) (by decide)) ?_
    rintro _ _ ⟨g177, rfl, hI178, hF179, v180, rfl, hr181⟩
    refine At.sti ?_
    have hF182 := Fr.tr hF174 hF179 rfl rfl
    have zv183 : ((-1) : Int32).toInt = (-1) := rfl
    refine At.enter rfl ?_
    refine r_ireti ?_
    obtain ⟨v184, hv184⟩ : ∃ v, eA g0 233 0 = v := ⟨_, rfl⟩
    have tv184 := congrArg Int32.toInt hv184
    have wv184 := HI.t0 hI0
    rw [hv184] at wv184
    have tv184 := congrArg Int32.toInt hv184
    have x185 := HI.eqA hI178 (p := 233) (j := 0) ((((eA_c (hF179.2.1 233 ma_X11_tell_231_233)).trans (eA_c gA_sI)).trans hv184))
    obtain ⟨v186, hv186⟩ : ∃ v, eA g0 233 4 = v := ⟨_, rfl⟩
    have wv186 := HI.t4 hI0
    rw [hv186] at wv186
    have tv186 := congrArg Int32.toInt hv186
    have x187 := HI.eqA hI178 (p := 233) (j := 4) ((((eA_c (hF179.2.1 233 ma_X11_tell_231_233)).trans (eA_c gA_sI)).trans hv186))
    obtain ⟨v188, hv188⟩ : ∃ v, eA g0 233 5 = v := ⟨_, rfl⟩
    have wv188 := HI.t5 hI0
    rw [hv188] at wv188
    have tv188 := congrArg Int32.toInt hv188
    have x189 := HI.eqA hI178 (p := 233) (j := 5) ((((eA_c (hF179.2.1 233 ma_X11_tell_231_233)).trans (eA_c gA_sI)).trans hv188))
    obtain ⟨v190, hv190⟩ : ∃ v, eA g0 233 6 = v := ⟨_, rfl⟩
    have wv190 := HI.t6 hI0
    rw [hv190] at wv190
    have tv190 := congrArg Int32.toInt hv190
    have x191 := HI.eqA hI178 (p := 233) (j := 6) ((((eA_c (hF179.2.1 233 ma_X11_tell_231_233)).trans (eA_c gA_sI)).trans hv190))
    obtain ⟨v192, hv192⟩ : ∃ v, eA g0 233 1 = v := ⟨_, rfl⟩
    have tv192 := congrArg Int32.toInt hv192
    have wv192 := HI.t1 hI0
    rw [hv192] at wv192
    have tv192 := congrArg Int32.toInt hv192
    have x193 := HI.eqA hI178 (p := 233) (j := 1) ((((eA_c (hF179.2.1 233 ma_X11_tell_231_233)).trans (eA_c gA_sI)).trans hv192))
    obtain ⟨v194, hv194⟩ : ∃ v, eA g0 233 2 = v := ⟨_, rfl⟩
    have tv194 := congrArg Int32.toInt hv194
    have wv194 := HI.t2 hI0
    rw [hv194] at wv194
    have tv194 := congrArg Int32.toInt hv194
    have x195 := HI.eqA hI178 (p := 233) (j := 2) ((((eA_c (hF179.2.1 233 ma_X11_tell_231_233)).trans (eA_c gA_sI)).trans hv194))
    obtain ⟨v196, hv196⟩ : ∃ v, eA g0 233 3 = v := ⟨_, rfl⟩
    have wv196 := HI.t3 hI0
    rw [hv196] at wv196
    have tv196 := congrArg Int32.toInt hv196
    have x197 := HI.eqA hI178 (p := 233) (j := 3) ((((eA_c (hF179.2.1 233 ma_X11_tell_231_233)).trans (eA_c gA_sI)).trans hv196))
    have x198 := HI.eqA hI0 (p := 233) (j := 0) (hv184)
    have x199 := HI.eqA hI0 (p := 233) (j := 4) (hv186)
    have x200 := HI.eqA hI0 (p := 233) (j := 5) (hv188)
    have x201 := HI.eqA hI0 (p := 233) (j := 6) (hv190)
    have x202 := HI.eqA hI0 (p := 233) (j := 1) (hv192)
    have x203 := HI.eqA hI0 (p := 233) (j := 2) (hv194)
    have x204 := HI.eqA hI0 (p := 233) (j := 3) (hv196)
    have x205 := HI.eqA hI0 (p := 233) (j := 0) (hv184)
    exact ⟨_, rfl, hI178, hF182, _, rfl, by omega, ⟨⟨by omega, by omega, by omega, by omega, by omega, by omega, by omega⟩, (by intro i i0 i1; refine Eq.trans ?_ (if_neg (show ¬ (((-1 ≤ a1.toInt ∧ a1.toInt ≤ 11 ∧ 1 ≤ a2.toInt ∧ a2.toInt ≤ 9 ∧ 0 ≤ a3.toInt ∧ a3.toInt ≤ 99) ∧ (eA g0 233 0).toInt < 12) ∧ i = 10 + 3 * (eA g0 233 0).toInt + 0) from by omega)).symm; refine Eq.trans ?_ (if_neg (show ¬ (((-1 ≤ a1.toInt ∧ a1.toInt ≤ 11 ∧ 1 ≤ a2.toInt ∧ a2.toInt ≤ 9 ∧ 0 ≤ a3.toInt ∧ a3.toInt ≤ 99) ∧ (eA g0 233 0).toInt < 12) ∧ i = 10 + 3 * (eA g0 233 0).toInt + 1) from by omega)).symm; refine Eq.trans ?_ (if_neg (show ¬ (((-1 ≤ a1.toInt ∧ a1.toInt ≤ 11 ∧ 1 ≤ a2.toInt ∧ a2.toInt ≤ 9 ∧ 0 ≤ a3.toInt ∧ a3.toInt ≤ 99) ∧ (eA g0 233 0).toInt < 12) ∧ i = 10 + 3 * (eA g0 233 0).toInt + 2) from by omega)).symm; refine (eA_ti (((hF179.2.1 233 ma_X11_tell_231_233).trans (gA_sI)))).trans ?_; (first | with_reducible rfl | omega | exact eA_ix (by omega) | rfl))⟩⟩
  · have c176_ : v175.toInt ≥ (-1) := en_j_lt_f c176
    refine At.enter rfl ?_
    refine r_lload_n rfl ?_
    refine r_lload rfl ?_
    refine r_lcmp _ rfl ?_
    refine r_ifs 13 rfl (fun c206 => ?_) (fun c206 => ?_)
    · have c206_ : v175.toInt > 11 := en_j_gt_t c206
      refine At.enter rfl ?_
      refine r_iconst 0 rfl ?_
      refine Ar.fall 18 rfl ?_
      refine At.enter rfl ?_
      refine q_iretz (by decide) ?_
      refine At.enter rfl ?_
      refine q_iretz (by decide) ?_
      refine At.enter rfl ?_
      refine r_ift (by decide) ?_
      refine At.enter rfl ?_
      refine r_aload_n rfl ?_
      refine r_iconst (-1) rfl ?_
      refine r_callV 34 rfl [.ref 231, .int (-1)] [] (Nat.le_of_ble_eq_true rfl) rfl (T_X11_tell_231 _ hI173 (-1) (by decide)) ?_
      rintro _ _ ⟨g207, rfl, hI208, hF209, v210, rfl, hr211⟩
      refine At.sti ?_
      have hF212 := Fr.tr hF174 hF209 rfl rfl
      have zv213 : ((-1) : Int32).toInt = (-1) := rfl
      refine At.enter rfl ?_
      refine r_ireti ?_
      obtain ⟨v214, hv214⟩ : ∃ v, eA g0 233 0 = v := ⟨_, rfl⟩
      have tv214 := congrArg Int32.toInt hv214
      have wv214 := HI.t0 hI0
      rw [hv214] at wv214
      have tv214 := congrArg Int32.toInt hv214
      have x215 := HI.eqA hI208 (p := 233) (j := 0) ((((eA_c (hF209.2.1 233 ma_X11_tell_231_233)).trans (eA_c gA_sI)).trans hv214))
      obtain ⟨v216, hv216⟩ : ∃ v, eA g0 233 4 = v := ⟨_, rfl⟩
      have wv216 := HI.t4 hI0
      rw [hv216] at wv216
      have tv216 := congrArg Int32.toInt hv216
      have x217 := HI.eqA hI208 (p := 233) (j := 4) ((((eA_c (hF209.2.1 233 ma_X11_tell_231_233)).trans (eA_c gA_sI)).trans hv216))
      obtain ⟨v218, hv218⟩ : ∃ v, eA g0 233 5 = v := ⟨_, rfl⟩
      have wv218 := HI.t5 hI0
      rw [hv218] at wv218
      have tv218 := congrArg Int32.toInt hv218
      have x219 := HI.eqA hI208 (p := 233) (j := 5) ((((eA_c (hF209.2.1 233 ma_X11_tell_231_233)).trans (eA_c gA_sI)).trans hv218))
      obtain ⟨v220, hv220⟩ : ∃ v, eA g0 233 6 = v := ⟨_, rfl⟩
      have wv220 := HI.t6 hI0
      rw [hv220] at wv220
      have tv220 := congrArg Int32.toInt hv220
      have x221 := HI.eqA hI208 (p := 233) (j := 6) ((((eA_c (hF209.2.1 233 ma_X11_tell_231_233)).trans (eA_c gA_sI)).trans hv220))
      obtain ⟨v222, hv222⟩ : ∃ v, eA g0 233 1 = v := ⟨_, rfl⟩
      have tv222 := congrArg Int32.toInt hv222
      have wv222 := HI.t1 hI0
      rw [hv222] at wv222
      have tv222 := congrArg Int32.toInt hv222
      have x223 := HI.eqA hI208 (p := 233) (j := 1) ((((eA_c (hF209.2.1 233 ma_X11_tell_231_233)).trans (eA_c gA_sI)).trans hv222))
      obtain ⟨v224, hv224⟩ : ∃ v, eA g0 233 2 = v := ⟨_, rfl⟩
      have tv224 := congrArg Int32.toInt hv224
      have wv224 := HI.t2 hI0
      rw [hv224] at wv224
      have tv224 := congrArg Int32.toInt hv224
      have x225 := HI.eqA hI208 (p := 233) (j := 2) ((((eA_c (hF209.2.1 233 ma_X11_tell_231_233)).trans (eA_c gA_sI)).trans hv224))
      obtain ⟨v226, hv226⟩ : ∃ v, eA g0 233 3 = v := ⟨_, rfl⟩
      have wv226 := HI.t3 hI0
      rw [hv226] at wv226
      have tv226 := congrArg Int32.toInt hv226
      have x227 := HI.eqA hI208 (p := 233) (j := 3) ((((eA_c (hF209.2.1 233 ma_X11_tell_231_233)).trans (eA_c gA_sI)).trans hv226))
      have x228 := HI.eqA hI0 (p := 233) (j := 0) (hv214)
      have x229 := HI.eqA hI0 (p := 233) (j := 4) (hv216)
      have x230 := HI.eqA hI0 (p := 233) (j := 5) (hv218)
      have x231 := HI.eqA hI0 (p := 233) (j := 6) (hv220)
      have x232 := HI.eqA hI0 (p := 233) (j := 1) (hv222)
      have x233 := HI.eqA hI0 (p := 233) (j := 2) (hv224)
      have x234 := HI.eqA hI0 (p := 233) (j := 3) (hv226)
      have x235 := HI.eqA hI0 (p := 233) (j := 0) (hv214)
      exact ⟨_, rfl, hI208, hF212, _, rfl, by omega, ⟨⟨by omega, by omega, by omega, by omega, by omega, by omega, by omega⟩, (by intro i i0 i1; refine Eq.trans ?_ (if_neg (show ¬ (((-1 ≤ a1.toInt ∧ a1.toInt ≤ 11 ∧ 1 ≤ a2.toInt ∧ a2.toInt ≤ 9 ∧ 0 ≤ a3.toInt ∧ a3.toInt ≤ 99) ∧ (eA g0 233 0).toInt < 12) ∧ i = 10 + 3 * (eA g0 233 0).toInt + 0) from by omega)).symm; refine Eq.trans ?_ (if_neg (show ¬ (((-1 ≤ a1.toInt ∧ a1.toInt ≤ 11 ∧ 1 ≤ a2.toInt ∧ a2.toInt ≤ 9 ∧ 0 ≤ a3.toInt ∧ a3.toInt ≤ 99) ∧ (eA g0 233 0).toInt < 12) ∧ i = 10 + 3 * (eA g0 233 0).toInt + 1) from by omega)).symm; refine Eq.trans ?_ (if_neg (show ¬ (((-1 ≤ a1.toInt ∧ a1.toInt ≤ 11 ∧ 1 ≤ a2.toInt ∧ a2.toInt ≤ 9 ∧ 0 ≤ a3.toInt ∧ a3.toInt ≤ 99) ∧ (eA g0 233 0).toInt < 12) ∧ i = 10 + 3 * (eA g0 233 0).toInt + 2) from by omega)).symm; refine (eA_ti (((hF209.2.1 233 ma_X11_tell_231_233).trans (gA_sI)))).trans ?_; (first | with_reducible rfl | omega | exact eA_ix (by omega) | rfl))⟩⟩
    · have c206_ : v175.toInt ≤ 11 := en_j_gt_f c206
      refine At.enter rfl ?_
      refine r_iconst 1 rfl ?_
      refine r_goto ?_
      refine At.enter rfl ?_
      refine q_iretz (by decide) ?_
      refine At.enter rfl ?_
      refine q_iretz (by decide) ?_
      refine At.enter rfl ?_
      refine r_iff 13 rfl (by decide) ?_
      refine At.enter rfl ?_
      refine r_iconst 1 rfl ?_
      refine r_iload_n rfl ?_
      refine q_inlS 18 rfl [.int 1, .int a2] [] (Nat.le_of_ble_eq_true rfl) rfl ?_
      refine Ev.mk rfl rfl ⟨Nat.le_of_ble_eq_true rfl, Or.inl rfl⟩ ?_
      show At _ none _ _ (0, [(0, .int 1), (1, .int a2)], [], (_, _)) _
      refine At.enter rfl ?_
      refine r_iload_n rfl ?_
      refine r_tsw 40 rfl ?_
      refine At.enter rfl ?_
      refine r_iload_n rfl ?_
      refine q_i2l (fun v236 hv236 => ?_)
      refine r_lconst 1 rfl ?_
      refine r_ldc2 9 rfl ?_
      refine q_inlS 49 rfl [.long v236, .long 1, .long 9] [] (Nat.le_of_ble_eq_true rfl) rfl ?_
      refine Ev.mk rfl rfl ⟨Nat.le_of_ble_eq_true rfl, Or.inl rfl⟩ ?_
      show At _ none _ _ (0, [(0, .long v236), (2, .long 1), (4, .long 9)], [], (_, _)) _
      refine At.enter rfl ?_
      refine r_lload_n rfl ?_
      refine r_lload_n rfl ?_
      refine r_lcmp _ rfl ?_
      refine r_ifs 6 rfl (fun c237 => ?_) (fun c237 => ?_)
      · have c237_ : v236.toInt < 1 := en_j_lt_t c237
        refine At.enter rfl ?_
        refine r_iconst 0 rfl ?_
        refine Ar.fall 18 rfl ?_
        refine At.enter rfl ?_
        refine q_iretz (by decide) ?_
        refine At.enter rfl ?_
        refine q_iretz (by decide) ?_
        refine At.enter rfl ?_
        refine r_ift (by decide) ?_
        refine At.enter rfl ?_
        refine r_aload_n rfl ?_
        refine r_iconst (-1) rfl ?_
        refine r_callV 34 rfl [.ref 231, .int (-1)] [] (Nat.le_of_ble_eq_true rfl) rfl (T_X11_tell_231 _ hI173 (-1) (by decide)) ?_
        rintro _ _ ⟨g238, rfl, hI239, hF240, v241, rfl, hr242⟩
        refine At.sti ?_
        have hF243 := Fr.tr hF174 hF240 rfl rfl
        have zv244 : ((-1) : Int32).toInt = (-1) := rfl
        refine At.enter rfl ?_
        refine r_ireti ?_
        obtain ⟨v245, hv245⟩ : ∃ v, eA g0 233 0 = v := ⟨_, rfl⟩
        have tv245 := congrArg Int32.toInt hv245
        have wv245 := HI.t0 hI0
        rw [hv245] at wv245
        have tv245 := congrArg Int32.toInt hv245
        have x246 := HI.eqA hI239 (p := 233) (j := 0) ((((eA_c (hF240.2.1 233 ma_X11_tell_231_233)).trans (eA_c gA_sI)).trans hv245))
        obtain ⟨v247, hv247⟩ : ∃ v, eA g0 233 4 = v := ⟨_, rfl⟩
        have wv247 := HI.t4 hI0
        rw [hv247] at wv247
        have tv247 := congrArg Int32.toInt hv247
        have x248 := HI.eqA hI239 (p := 233) (j := 4) ((((eA_c (hF240.2.1 233 ma_X11_tell_231_233)).trans (eA_c gA_sI)).trans hv247))
        obtain ⟨v249, hv249⟩ : ∃ v, eA g0 233 5 = v := ⟨_, rfl⟩
        have wv249 := HI.t5 hI0
        rw [hv249] at wv249
        have tv249 := congrArg Int32.toInt hv249
        have x250 := HI.eqA hI239 (p := 233) (j := 5) ((((eA_c (hF240.2.1 233 ma_X11_tell_231_233)).trans (eA_c gA_sI)).trans hv249))
        obtain ⟨v251, hv251⟩ : ∃ v, eA g0 233 6 = v := ⟨_, rfl⟩
        have wv251 := HI.t6 hI0
        rw [hv251] at wv251
        have tv251 := congrArg Int32.toInt hv251
        have x252 := HI.eqA hI239 (p := 233) (j := 6) ((((eA_c (hF240.2.1 233 ma_X11_tell_231_233)).trans (eA_c gA_sI)).trans hv251))
        obtain ⟨v253, hv253⟩ : ∃ v, eA g0 233 1 = v := ⟨_, rfl⟩
        have tv253 := congrArg Int32.toInt hv253
        have wv253 := HI.t1 hI0
        rw [hv253] at wv253
        have tv253 := congrArg Int32.toInt hv253
        have x254 := HI.eqA hI239 (p := 233) (j := 1) ((((eA_c (hF240.2.1 233 ma_X11_tell_231_233)).trans (eA_c gA_sI)).trans hv253))
        obtain ⟨v255, hv255⟩ : ∃ v, eA g0 233 2 = v := ⟨_, rfl⟩
        have tv255 := congrArg Int32.toInt hv255
        have wv255 := HI.t2 hI0
        rw [hv255] at wv255
        have tv255 := congrArg Int32.toInt hv255
        have x256 := HI.eqA hI239 (p := 233) (j := 2) ((((eA_c (hF240.2.1 233 ma_X11_tell_231_233)).trans (eA_c gA_sI)).trans hv255))
        obtain ⟨v257, hv257⟩ : ∃ v, eA g0 233 3 = v := ⟨_, rfl⟩
        have wv257 := HI.t3 hI0
        rw [hv257] at wv257
        have tv257 := congrArg Int32.toInt hv257
        have x258 := HI.eqA hI239 (p := 233) (j := 3) ((((eA_c (hF240.2.1 233 ma_X11_tell_231_233)).trans (eA_c gA_sI)).trans hv257))
        have x259 := HI.eqA hI0 (p := 233) (j := 0) (hv245)
        have x260 := HI.eqA hI0 (p := 233) (j := 4) (hv247)
        have x261 := HI.eqA hI0 (p := 233) (j := 5) (hv249)
        have x262 := HI.eqA hI0 (p := 233) (j := 6) (hv251)
        have x263 := HI.eqA hI0 (p := 233) (j := 1) (hv253)
        have x264 := HI.eqA hI0 (p := 233) (j := 2) (hv255)
        have x265 := HI.eqA hI0 (p := 233) (j := 3) (hv257)
        have x266 := HI.eqA hI0 (p := 233) (j := 0) (hv245)
        exact ⟨_, rfl, hI239, hF243, _, rfl, by omega, ⟨⟨by omega, by omega, by omega, by omega, by omega, by omega, by omega⟩, (by intro i i0 i1; refine Eq.trans ?_ (if_neg (show ¬ (((-1 ≤ a1.toInt ∧ a1.toInt ≤ 11 ∧ 1 ≤ a2.toInt ∧ a2.toInt ≤ 9 ∧ 0 ≤ a3.toInt ∧ a3.toInt ≤ 99) ∧ (eA g0 233 0).toInt < 12) ∧ i = 10 + 3 * (eA g0 233 0).toInt + 0) from by omega)).symm; refine Eq.trans ?_ (if_neg (show ¬ (((-1 ≤ a1.toInt ∧ a1.toInt ≤ 11 ∧ 1 ≤ a2.toInt ∧ a2.toInt ≤ 9 ∧ 0 ≤ a3.toInt ∧ a3.toInt ≤ 99) ∧ (eA g0 233 0).toInt < 12) ∧ i = 10 + 3 * (eA g0 233 0).toInt + 1) from by omega)).symm; refine Eq.trans ?_ (if_neg (show ¬ (((-1 ≤ a1.toInt ∧ a1.toInt ≤ 11 ∧ 1 ≤ a2.toInt ∧ a2.toInt ≤ 9 ∧ 0 ≤ a3.toInt ∧ a3.toInt ≤ 99) ∧ (eA g0 233 0).toInt < 12) ∧ i = 10 + 3 * (eA g0 233 0).toInt + 2) from by omega)).symm; refine (eA_ti (((hF240.2.1 233 ma_X11_tell_231_233).trans (gA_sI)))).trans ?_; (first | with_reducible rfl | omega | exact eA_ix (by omega) | rfl))⟩⟩
      · have c237_ : v236.toInt ≥ 1 := en_j_lt_f c237
        refine At.enter rfl ?_
        refine r_lload_n rfl ?_
        refine r_lload rfl ?_
        refine r_lcmp _ rfl ?_
        refine r_ifs 13 rfl (fun c267 => ?_) (fun c267 => ?_)
        · have c267_ : v236.toInt > 9 := en_j_gt_t c267
          refine At.enter rfl ?_
          refine r_iconst 0 rfl ?_
          refine Ar.fall 18 rfl ?_
          refine At.enter rfl ?_
          refine q_iretz (by decide) ?_
          refine At.enter rfl ?_
          refine q_iretz (by decide) ?_
          refine At.enter rfl ?_
          refine r_ift (by decide) ?_
          refine At.enter rfl ?_
          refine r_aload_n rfl ?_
          refine r_iconst (-1) rfl ?_
          refine r_callV 34 rfl [.ref 231, .int (-1)] [] (Nat.le_of_ble_eq_true rfl) rfl (T_X11_tell_231 _ hI173 (-1) (by decide)) ?_
          rintro _ _ ⟨g268, rfl, hI269, hF270, v271, rfl, hr272⟩
          refine At.sti ?_
          have hF273 := Fr.tr hF174 hF270 rfl rfl
          have zv274 : ((-1) : Int32).toInt = (-1) := rfl
          refine At.enter rfl ?_
          refine r_ireti ?_
          obtain ⟨v275, hv275⟩ : ∃ v, eA g0 233 0 = v := ⟨_, rfl⟩
          have tv275 := congrArg Int32.toInt hv275
          have wv275 := HI.t0 hI0
          rw [hv275] at wv275
          have tv275 := congrArg Int32.toInt hv275
          have x276 := HI.eqA hI269 (p := 233) (j := 0) ((((eA_c (hF270.2.1 233 ma_X11_tell_231_233)).trans (eA_c gA_sI)).trans hv275))
          obtain ⟨v277, hv277⟩ : ∃ v, eA g0 233 4 = v := ⟨_, rfl⟩
          have wv277 := HI.t4 hI0
          rw [hv277] at wv277
          have tv277 := congrArg Int32.toInt hv277
          have x278 := HI.eqA hI269 (p := 233) (j := 4) ((((eA_c (hF270.2.1 233 ma_X11_tell_231_233)).trans (eA_c gA_sI)).trans hv277))
          obtain ⟨v279, hv279⟩ : ∃ v, eA g0 233 5 = v := ⟨_, rfl⟩
          have wv279 := HI.t5 hI0
          rw [hv279] at wv279
          have tv279 := congrArg Int32.toInt hv279
          have x280 := HI.eqA hI269 (p := 233) (j := 5) ((((eA_c (hF270.2.1 233 ma_X11_tell_231_233)).trans (eA_c gA_sI)).trans hv279))
          obtain ⟨v281, hv281⟩ : ∃ v, eA g0 233 6 = v := ⟨_, rfl⟩
          have wv281 := HI.t6 hI0
          rw [hv281] at wv281
          have tv281 := congrArg Int32.toInt hv281
          have x282 := HI.eqA hI269 (p := 233) (j := 6) ((((eA_c (hF270.2.1 233 ma_X11_tell_231_233)).trans (eA_c gA_sI)).trans hv281))
          obtain ⟨v283, hv283⟩ : ∃ v, eA g0 233 1 = v := ⟨_, rfl⟩
          have tv283 := congrArg Int32.toInt hv283
          have wv283 := HI.t1 hI0
          rw [hv283] at wv283
          have tv283 := congrArg Int32.toInt hv283
          have x284 := HI.eqA hI269 (p := 233) (j := 1) ((((eA_c (hF270.2.1 233 ma_X11_tell_231_233)).trans (eA_c gA_sI)).trans hv283))
          obtain ⟨v285, hv285⟩ : ∃ v, eA g0 233 2 = v := ⟨_, rfl⟩
          have tv285 := congrArg Int32.toInt hv285
          have wv285 := HI.t2 hI0
          rw [hv285] at wv285
          have tv285 := congrArg Int32.toInt hv285
          have x286 := HI.eqA hI269 (p := 233) (j := 2) ((((eA_c (hF270.2.1 233 ma_X11_tell_231_233)).trans (eA_c gA_sI)).trans hv285))
          obtain ⟨v287, hv287⟩ : ∃ v, eA g0 233 3 = v := ⟨_, rfl⟩
          have wv287 := HI.t3 hI0
          rw [hv287] at wv287
          have tv287 := congrArg Int32.toInt hv287
          have x288 := HI.eqA hI269 (p := 233) (j := 3) ((((eA_c (hF270.2.1 233 ma_X11_tell_231_233)).trans (eA_c gA_sI)).trans hv287))
          have x289 := HI.eqA hI0 (p := 233) (j := 0) (hv275)
          have x290 := HI.eqA hI0 (p := 233) (j := 4) (hv277)
          have x291 := HI.eqA hI0 (p := 233) (j := 5) (hv279)
          have x292 := HI.eqA hI0 (p := 233) (j := 6) (hv281)
          have x293 := HI.eqA hI0 (p := 233) (j := 1) (hv283)
          have x294 := HI.eqA hI0 (p := 233) (j := 2) (hv285)
          have x295 := HI.eqA hI0 (p := 233) (j := 3) (hv287)
          have x296 := HI.eqA hI0 (p := 233) (j := 0) (hv275)
          exact ⟨_, rfl, hI269, hF273, _, rfl, by omega, ⟨⟨by omega, by omega, by omega, by omega, by omega, by omega, by omega⟩, (by intro i i0 i1; refine Eq.trans ?_ (if_neg (show ¬ (((-1 ≤ a1.toInt ∧ a1.toInt ≤ 11 ∧ 1 ≤ a2.toInt ∧ a2.toInt ≤ 9 ∧ 0 ≤ a3.toInt ∧ a3.toInt ≤ 99) ∧ (eA g0 233 0).toInt < 12) ∧ i = 10 + 3 * (eA g0 233 0).toInt + 0) from by omega)).symm; refine Eq.trans ?_ (if_neg (show ¬ (((-1 ≤ a1.toInt ∧ a1.toInt ≤ 11 ∧ 1 ≤ a2.toInt ∧ a2.toInt ≤ 9 ∧ 0 ≤ a3.toInt ∧ a3.toInt ≤ 99) ∧ (eA g0 233 0).toInt < 12) ∧ i = 10 + 3 * (eA g0 233 0).toInt + 1) from by omega)).symm; refine Eq.trans ?_ (if_neg (show ¬ (((-1 ≤ a1.toInt ∧ a1.toInt ≤ 11 ∧ 1 ≤ a2.toInt ∧ a2.toInt ≤ 9 ∧ 0 ≤ a3.toInt ∧ a3.toInt ≤ 99) ∧ (eA g0 233 0).toInt < 12) ∧ i = 10 + 3 * (eA g0 233 0).toInt + 2) from by omega)).symm; refine (eA_ti (((hF270.2.1 233 ma_X11_tell_231_233).trans (gA_sI)))).trans ?_; (first | with_reducible rfl | omega | exact eA_ix (by omega) | rfl))⟩⟩
        · have c267_ : v236.toInt ≤ 9 := en_j_gt_f c267
          refine At.enter rfl ?_
          refine r_iconst 1 rfl ?_
          refine r_goto ?_
          refine At.enter rfl ?_
          refine q_iretz (by decide) ?_
          refine At.enter rfl ?_
          refine q_iretz (by decide) ?_
          refine At.enter rfl ?_
          refine r_iff 21 rfl (by decide) ?_
          refine At.enter rfl ?_
          refine r_iconst 2 rfl ?_
          refine r_iload_n rfl ?_
          refine q_inlS 26 rfl [.int 2, .int a3] [] (Nat.le_of_ble_eq_true rfl) rfl ?_
          refine Ev.mk rfl rfl ⟨Nat.le_of_ble_eq_true rfl, Or.inl rfl⟩ ?_
          show At _ none _ _ (0, [(0, .int 2), (1, .int a3)], [], (_, _)) _
          refine At.enter rfl ?_
          refine r_iload_n rfl ?_
          refine r_tsw 50 rfl ?_
          refine At.enter rfl ?_
          refine r_iload_n rfl ?_
          refine q_i2l (fun v297 hv297 => ?_)
          refine r_lconst 0 rfl ?_
          refine r_ldc2 99 rfl ?_
          refine q_inlS 59 rfl [.long v297, .long 0, .long 99] [] (Nat.le_of_ble_eq_true rfl) rfl ?_
          refine Ev.mk rfl rfl ⟨Nat.le_of_ble_eq_true rfl, Or.inl rfl⟩ ?_
          show At _ none _ _ (0, [(0, .long v297), (2, .long 0), (4, .long 99)], [], (_, _)) _
          refine At.enter rfl ?_
          refine r_lload_n rfl ?_
          refine r_lload_n rfl ?_
          refine r_lcmp _ rfl ?_
          refine r_ifs 6 rfl (fun c298 => ?_) (fun c298 => ?_)
          · have c298_ : v297.toInt < 0 := en_j_lt_t c298
            refine At.enter rfl ?_
            refine r_iconst 0 rfl ?_
            refine Ar.fall 18 rfl ?_
            refine At.enter rfl ?_
            refine q_iretz (by decide) ?_
            refine At.enter rfl ?_
            refine q_iretz (by decide) ?_
            refine At.enter rfl ?_
            refine r_iff 29 rfl (by decide) ?_
            refine At.enter rfl ?_
            refine r_aload_n rfl ?_
            refine r_iconst (-1) rfl ?_
            refine r_callV 34 rfl [.ref 231, .int (-1)] [] (Nat.le_of_ble_eq_true rfl) rfl (T_X11_tell_231 _ hI173 (-1) (by decide)) ?_
            rintro _ _ ⟨g299, rfl, hI300, hF301, v302, rfl, hr303⟩
            refine At.sti ?_
            have hF304 := Fr.tr hF174 hF301 rfl rfl
            have zv305 : ((-1) : Int32).toInt = (-1) := rfl
            refine At.enter rfl ?_
            refine r_ireti ?_
            obtain ⟨v306, hv306⟩ : ∃ v, eA g0 233 0 = v := ⟨_, rfl⟩
            have tv306 := congrArg Int32.toInt hv306
            have wv306 := HI.t0 hI0
            rw [hv306] at wv306
            have tv306 := congrArg Int32.toInt hv306
            have x307 := HI.eqA hI300 (p := 233) (j := 0) ((((eA_c (hF301.2.1 233 ma_X11_tell_231_233)).trans (eA_c gA_sI)).trans hv306))
            obtain ⟨v308, hv308⟩ : ∃ v, eA g0 233 4 = v := ⟨_, rfl⟩
            have wv308 := HI.t4 hI0
            rw [hv308] at wv308
            have tv308 := congrArg Int32.toInt hv308
            have x309 := HI.eqA hI300 (p := 233) (j := 4) ((((eA_c (hF301.2.1 233 ma_X11_tell_231_233)).trans (eA_c gA_sI)).trans hv308))
            obtain ⟨v310, hv310⟩ : ∃ v, eA g0 233 5 = v := ⟨_, rfl⟩
            have wv310 := HI.t5 hI0
            rw [hv310] at wv310
            have tv310 := congrArg Int32.toInt hv310
            have x311 := HI.eqA hI300 (p := 233) (j := 5) ((((eA_c (hF301.2.1 233 ma_X11_tell_231_233)).trans (eA_c gA_sI)).trans hv310))
            obtain ⟨v312, hv312⟩ : ∃ v, eA g0 233 6 = v := ⟨_, rfl⟩
            have wv312 := HI.t6 hI0
            rw [hv312] at wv312
            have tv312 := congrArg Int32.toInt hv312
            have x313 := HI.eqA hI300 (p := 233) (j := 6) ((((eA_c (hF301.2.1 233 ma_X11_tell_231_233)).trans (eA_c gA_sI)).trans hv312))
            obtain ⟨v314, hv314⟩ : ∃ v, eA g0 233 1 = v := ⟨_, rfl⟩
            have tv314 := congrArg Int32.toInt hv314
            have wv314 := HI.t1 hI0
            rw [hv314] at wv314
            have tv314 := congrArg Int32.toInt hv314
            have x315 := HI.eqA hI300 (p := 233) (j := 1) ((((eA_c (hF301.2.1 233 ma_X11_tell_231_233)).trans (eA_c gA_sI)).trans hv314))
            obtain ⟨v316, hv316⟩ : ∃ v, eA g0 233 2 = v := ⟨_, rfl⟩
            have tv316 := congrArg Int32.toInt hv316
            have wv316 := HI.t2 hI0
            rw [hv316] at wv316
            have tv316 := congrArg Int32.toInt hv316
            have x317 := HI.eqA hI300 (p := 233) (j := 2) ((((eA_c (hF301.2.1 233 ma_X11_tell_231_233)).trans (eA_c gA_sI)).trans hv316))
            obtain ⟨v318, hv318⟩ : ∃ v, eA g0 233 3 = v := ⟨_, rfl⟩
            have wv318 := HI.t3 hI0
            rw [hv318] at wv318
            have tv318 := congrArg Int32.toInt hv318
            have x319 := HI.eqA hI300 (p := 233) (j := 3) ((((eA_c (hF301.2.1 233 ma_X11_tell_231_233)).trans (eA_c gA_sI)).trans hv318))
            have x320 := HI.eqA hI0 (p := 233) (j := 0) (hv306)
            have x321 := HI.eqA hI0 (p := 233) (j := 4) (hv308)
            have x322 := HI.eqA hI0 (p := 233) (j := 5) (hv310)
            have x323 := HI.eqA hI0 (p := 233) (j := 6) (hv312)
            have x324 := HI.eqA hI0 (p := 233) (j := 1) (hv314)
            have x325 := HI.eqA hI0 (p := 233) (j := 2) (hv316)
            have x326 := HI.eqA hI0 (p := 233) (j := 3) (hv318)
            have x327 := HI.eqA hI0 (p := 233) (j := 0) (hv306)
            exact ⟨_, rfl, hI300, hF304, _, rfl, by omega, ⟨⟨by omega, by omega, by omega, by omega, by omega, by omega, by omega⟩, (by intro i i0 i1; refine Eq.trans ?_ (if_neg (show ¬ (((-1 ≤ a1.toInt ∧ a1.toInt ≤ 11 ∧ 1 ≤ a2.toInt ∧ a2.toInt ≤ 9 ∧ 0 ≤ a3.toInt ∧ a3.toInt ≤ 99) ∧ (eA g0 233 0).toInt < 12) ∧ i = 10 + 3 * (eA g0 233 0).toInt + 0) from by omega)).symm; refine Eq.trans ?_ (if_neg (show ¬ (((-1 ≤ a1.toInt ∧ a1.toInt ≤ 11 ∧ 1 ≤ a2.toInt ∧ a2.toInt ≤ 9 ∧ 0 ≤ a3.toInt ∧ a3.toInt ≤ 99) ∧ (eA g0 233 0).toInt < 12) ∧ i = 10 + 3 * (eA g0 233 0).toInt + 1) from by omega)).symm; refine Eq.trans ?_ (if_neg (show ¬ (((-1 ≤ a1.toInt ∧ a1.toInt ≤ 11 ∧ 1 ≤ a2.toInt ∧ a2.toInt ≤ 9 ∧ 0 ≤ a3.toInt ∧ a3.toInt ≤ 99) ∧ (eA g0 233 0).toInt < 12) ∧ i = 10 + 3 * (eA g0 233 0).toInt + 2) from by omega)).symm; refine (eA_ti (((hF301.2.1 233 ma_X11_tell_231_233).trans (gA_sI)))).trans ?_; (first | with_reducible rfl | omega | exact eA_ix (by omega) | rfl))⟩⟩
          · have c298_ : v297.toInt ≥ 0 := en_j_lt_f c298
            refine At.enter rfl ?_
            refine r_lload_n rfl ?_
            refine r_lload rfl ?_
            refine r_lcmp _ rfl ?_
            refine r_ifs 13 rfl (fun c328 => ?_) (fun c328 => ?_)
            · have c328_ : v297.toInt > 99 := en_j_gt_t c328
              refine At.enter rfl ?_
              refine r_iconst 0 rfl ?_
              refine Ar.fall 18 rfl ?_
              refine At.enter rfl ?_
              refine q_iretz (by decide) ?_
              refine At.enter rfl ?_
              refine q_iretz (by decide) ?_
              refine At.enter rfl ?_
              refine r_iff 29 rfl (by decide) ?_
              refine At.enter rfl ?_
              refine r_aload_n rfl ?_
              refine r_iconst (-1) rfl ?_
              refine r_callV 34 rfl [.ref 231, .int (-1)] [] (Nat.le_of_ble_eq_true rfl) rfl (T_X11_tell_231 _ hI173 (-1) (by decide)) ?_
              rintro _ _ ⟨g329, rfl, hI330, hF331, v332, rfl, hr333⟩
              refine At.sti ?_
              have hF334 := Fr.tr hF174 hF331 rfl rfl
              have zv335 : ((-1) : Int32).toInt = (-1) := rfl
              refine At.enter rfl ?_
              refine r_ireti ?_
              obtain ⟨v336, hv336⟩ : ∃ v, eA g0 233 0 = v := ⟨_, rfl⟩
              have tv336 := congrArg Int32.toInt hv336
              have wv336 := HI.t0 hI0
              rw [hv336] at wv336
              have tv336 := congrArg Int32.toInt hv336
              have x337 := HI.eqA hI330 (p := 233) (j := 0) ((((eA_c (hF331.2.1 233 ma_X11_tell_231_233)).trans (eA_c gA_sI)).trans hv336))
              obtain ⟨v338, hv338⟩ : ∃ v, eA g0 233 4 = v := ⟨_, rfl⟩
              have wv338 := HI.t4 hI0
              rw [hv338] at wv338
              have tv338 := congrArg Int32.toInt hv338
              have x339 := HI.eqA hI330 (p := 233) (j := 4) ((((eA_c (hF331.2.1 233 ma_X11_tell_231_233)).trans (eA_c gA_sI)).trans hv338))
              obtain ⟨v340, hv340⟩ : ∃ v, eA g0 233 5 = v := ⟨_, rfl⟩
              have wv340 := HI.t5 hI0
              rw [hv340] at wv340
              have tv340 := congrArg Int32.toInt hv340
              have x341 := HI.eqA hI330 (p := 233) (j := 5) ((((eA_c (hF331.2.1 233 ma_X11_tell_231_233)).trans (eA_c gA_sI)).trans hv340))
              obtain ⟨v342, hv342⟩ : ∃ v, eA g0 233 6 = v := ⟨_, rfl⟩
              have wv342 := HI.t6 hI0
              rw [hv342] at wv342
              have tv342 := congrArg Int32.toInt hv342
              have x343 := HI.eqA hI330 (p := 233) (j := 6) ((((eA_c (hF331.2.1 233 ma_X11_tell_231_233)).trans (eA_c gA_sI)).trans hv342))
              obtain ⟨v344, hv344⟩ : ∃ v, eA g0 233 1 = v := ⟨_, rfl⟩
              have tv344 := congrArg Int32.toInt hv344
              have wv344 := HI.t1 hI0
              rw [hv344] at wv344
              have tv344 := congrArg Int32.toInt hv344
              have x345 := HI.eqA hI330 (p := 233) (j := 1) ((((eA_c (hF331.2.1 233 ma_X11_tell_231_233)).trans (eA_c gA_sI)).trans hv344))
              obtain ⟨v346, hv346⟩ : ∃ v, eA g0 233 2 = v := ⟨_, rfl⟩
              have tv346 := congrArg Int32.toInt hv346
              have wv346 := HI.t2 hI0
              rw [hv346] at wv346
              have tv346 := congrArg Int32.toInt hv346
              have x347 := HI.eqA hI330 (p := 233) (j := 2) ((((eA_c (hF331.2.1 233 ma_X11_tell_231_233)).trans (eA_c gA_sI)).trans hv346))
              obtain ⟨v348, hv348⟩ : ∃ v, eA g0 233 3 = v := ⟨_, rfl⟩
              have wv348 := HI.t3 hI0
              rw [hv348] at wv348
              have tv348 := congrArg Int32.toInt hv348
              have x349 := HI.eqA hI330 (p := 233) (j := 3) ((((eA_c (hF331.2.1 233 ma_X11_tell_231_233)).trans (eA_c gA_sI)).trans hv348))
              have x350 := HI.eqA hI0 (p := 233) (j := 0) (hv336)
              have x351 := HI.eqA hI0 (p := 233) (j := 4) (hv338)
              have x352 := HI.eqA hI0 (p := 233) (j := 5) (hv340)
              have x353 := HI.eqA hI0 (p := 233) (j := 6) (hv342)
              have x354 := HI.eqA hI0 (p := 233) (j := 1) (hv344)
              have x355 := HI.eqA hI0 (p := 233) (j := 2) (hv346)
              have x356 := HI.eqA hI0 (p := 233) (j := 3) (hv348)
              have x357 := HI.eqA hI0 (p := 233) (j := 0) (hv336)
              exact ⟨_, rfl, hI330, hF334, _, rfl, by omega, ⟨⟨by omega, by omega, by omega, by omega, by omega, by omega, by omega⟩, (by intro i i0 i1; refine Eq.trans ?_ (if_neg (show ¬ (((-1 ≤ a1.toInt ∧ a1.toInt ≤ 11 ∧ 1 ≤ a2.toInt ∧ a2.toInt ≤ 9 ∧ 0 ≤ a3.toInt ∧ a3.toInt ≤ 99) ∧ (eA g0 233 0).toInt < 12) ∧ i = 10 + 3 * (eA g0 233 0).toInt + 0) from by omega)).symm; refine Eq.trans ?_ (if_neg (show ¬ (((-1 ≤ a1.toInt ∧ a1.toInt ≤ 11 ∧ 1 ≤ a2.toInt ∧ a2.toInt ≤ 9 ∧ 0 ≤ a3.toInt ∧ a3.toInt ≤ 99) ∧ (eA g0 233 0).toInt < 12) ∧ i = 10 + 3 * (eA g0 233 0).toInt + 1) from by omega)).symm; refine Eq.trans ?_ (if_neg (show ¬ (((-1 ≤ a1.toInt ∧ a1.toInt ≤ 11 ∧ 1 ≤ a2.toInt ∧ a2.toInt ≤ 9 ∧ 0 ≤ a3.toInt ∧ a3.toInt ≤ 99) ∧ (eA g0 233 0).toInt < 12) ∧ i = 10 + 3 * (eA g0 233 0).toInt + 2) from by omega)).symm; refine (eA_ti (((hF331.2.1 233 ma_X11_tell_231_233).trans (gA_sI)))).trans ?_; (first | with_reducible rfl | omega | exact eA_ix (by omega) | rfl))⟩⟩
            · have c328_ : v297.toInt ≤ 99 := en_j_gt_f c328
              refine At.enter rfl ?_
              refine r_iconst 1 rfl ?_
              refine r_goto ?_
              refine At.enter rfl ?_
              refine q_iretz (by decide) ?_
              refine At.enter rfl ?_
              refine q_iretz (by decide) ?_
              refine At.enter rfl ?_
              refine r_ift (by decide) ?_
              refine At.enter rfl ?_
              refine r_aload_n rfl ?_
              refine q_getR (Sh.ref hI173.1 kx_231 rfl) ?_
              refine r_iconst 0 rfl ?_
              obtain ⟨v358, hv358⟩ : ∃ v, eA g0 233 0 = v := ⟨_, rfl⟩
              have tv358 := congrArg Int32.toInt hv358
              have wv358 := HI.t0 hI0
              rw [hv358] at wv358
              refine q_iald (Sh.arr hI173.1 ka_233) 0 rfl (by decide) v358 ((eA_c (gA_sI)).trans hv358) ?_
              refine r_istore ([(4, .int v358), (0, .ref 231), (1, .int a1), (2, .int a2), (3, .int a3)]) rfl ?_
              refine r_iload rfl ?_
              refine r_bipush 12 rfl ?_
              refine r_ics 50 rfl (fun c359 => ?_) (fun c359 => ?_)
              · have c359_ : v358.toInt ≠ 12 := en_i_ne_t c359
                refine At.enter rfl ?_
                refine r_aload_n rfl ?_
                refine q_getR (Sh.ref hI173.1 kx_231 rfl) ?_
                refine r_bipush 10 rfl ?_
                refine r_iconst 3 rfl ?_
                refine r_iload rfl ?_
                refine q_imul (3 * v358.toInt) rfl (by omega) (fun v360 hv360 => ?_)
                refine q_iadd (10 + v360.toInt) rfl (by omega) (fun v361 hv361 => ?_)
                refine r_iload_n rfl ?_
                refine q_iast (Sh.arr hI173.1 ka_233) ((3 * v358.toInt + 10)) (by omega) (by omega) ?_
                have hI362 := HI.ws hI173 (j := (3 * v358.toInt + 10)) (v := a1) (v358.toInt) 0 (by omega) (by decide) (by omega) (by omega)
                have hF363 := Fr.wA (p := 233) (j := (3 * v358.toInt + 10)) (v := a1) hF174 rfl
                refine r_aload_n rfl ?_
                refine q_getR (Sh.ref hI362.1 kx_231 rfl) ?_
                refine r_bipush 10 rfl ?_
                refine r_iconst 3 rfl ?_
                refine r_iload rfl ?_
                refine q_imul (3 * v358.toInt) rfl (by omega) (fun v364 hv364 => ?_)
                refine q_iadd (10 + v364.toInt) rfl (by omega) (fun v365 hv365 => ?_)
                refine r_iconst 1 rfl ?_
                refine q_iadd (v365.toInt + 1) rfl (by omega) (fun v366 hv366 => ?_)
                refine r_iload_n rfl ?_
                refine q_iast (Sh.arr hI362.1 ka_233) ((3 * v358.toInt + 11)) (by omega) (by omega) ?_
                have hI367 := HI.ws hI362 (j := (3 * v358.toInt + 11)) (v := a2) (v358.toInt) 1 (by omega) (by decide) (by omega) (by omega)
                have hF368 := Fr.wA (p := 233) (j := (3 * v358.toInt + 11)) (v := a2) hF363 rfl
                refine r_aload_n rfl ?_
                refine q_getR (Sh.ref hI367.1 kx_231 rfl) ?_
                refine r_bipush 10 rfl ?_
                refine r_iconst 3 rfl ?_
                refine r_iload rfl ?_
                refine q_imul (3 * v358.toInt) rfl (by omega) (fun v369 hv369 => ?_)
                refine q_iadd (10 + v369.toInt) rfl (by omega) (fun v370 hv370 => ?_)
                refine r_iconst 2 rfl ?_
                refine q_iadd (v370.toInt + 2) rfl (by omega) (fun v371 hv371 => ?_)
                refine r_iload_n rfl ?_
                refine q_iast (Sh.arr hI367.1 ka_233) ((3 * v358.toInt + 12)) (by omega) (by omega) ?_
                have hI372 := HI.ws hI367 (j := (3 * v358.toInt + 12)) (v := a3) (v358.toInt) 2 (by omega) (by decide) (by omega) (by omega)
                have hF373 := Fr.wA (p := 233) (j := (3 * v358.toInt + 12)) (v := a3) hF368 rfl
                refine r_aload_n rfl ?_
                refine q_getR (Sh.ref hI372.1 kx_231 rfl) ?_
                refine r_iconst 0 rfl ?_
                refine r_dup2 ⟨rfl, rfl⟩ ?_
                refine q_iald (Sh.arr hI372.1 ka_233) 0 rfl (by decide) v358 (((eA_sA_ne hI367.1 ka_233 (by first | decide | omega) (by first | decide | omega) (by first | decide | omega)).trans ((eA_sA_ne hI362.1 ka_233 (by first | decide | omega) (by first | decide | omega) (by first | decide | omega)).trans ((eA_sA_ne hI173.1 ka_233 (by first | decide | omega) (by first | decide | omega) (by first | decide | omega)).trans (eA_c gA_sI)))).trans hv358) ?_
                refine r_iconst 1 rfl ?_
                refine q_iadd (v358.toInt + 1) rfl (by omega) (fun v374 hv374 => ?_)
                refine q_iast (Sh.arr hI372.1 ka_233) (0) rfl (by decide) ?_
                have x377 := HI.eqA hI372 (p := 233) (j := 0) ((((eA_sA_ne hI367.1 ka_233 (by first | decide | omega) (by first | decide | omega) (by first | decide | omega)).trans ((eA_sA_ne hI362.1 ka_233 (by first | decide | omega) (by first | decide | omega) (by first | decide | omega)).trans ((eA_sA_ne hI173.1 ka_233 (by first | decide | omega) (by first | decide | omega) (by first | decide | omega)).trans (eA_c gA_sI)))).trans hv358))
                have hI375 := HI.wt0 hI372 (v := v374) (by rw [(((eA_sA_ne hI367.1 ka_233 (by first | decide | omega) (by first | decide | omega) (by first | decide | omega)).trans ((eA_sA_ne hI362.1 ka_233 (by first | decide | omega) (by first | decide | omega) (by first | decide | omega)).trans ((eA_sA_ne hI173.1 ka_233 (by first | decide | omega) (by first | decide | omega) (by first | decide | omega)).trans (eA_c gA_sI)))).trans hv358)]; omega) (by omega) (i := (3 * v358.toInt + 11)) (by rw [(((eA_sA_ne hI367.1 ka_233 (by first | decide | omega) (by first | decide | omega) (by first | decide | omega)).trans ((eA_sA_ne hI362.1 ka_233 (by first | decide | omega) (by first | decide | omega) (by first | decide | omega)).trans ((eA_sA_ne hI173.1 ka_233 (by first | decide | omega) (by first | decide | omega) (by first | decide | omega)).trans (eA_c gA_sI)))).trans hv358)]; omega) (by rw [((eA_sA_ne hI367.1 ka_233 (by first | decide | omega) (by first | decide | omega) (by first | decide | omega)).trans (eA_sA_eq hI362.1 ka_233 (by first | rfl | omega) (by first | decide | omega) (by first | decide | omega)))]; omega)
                have hF376 := Fr.wA (p := 233) (j := 0) (v := v374) hF373 rfl
                refine r_aload_n rfl ?_
                refine r_iload rfl ?_
                refine r_callV 116 rfl [.ref 231, .int v358] [] (Nat.le_of_ble_eq_true rfl) rfl (T_X11_tell_231 _ hI375 v358 (by omega)) ?_
                rintro _ _ ⟨g378, rfl, hI379, hF380, v381, rfl, hr382⟩
                refine At.sti ?_
                have hF383 := Fr.tr hF376 hF380 rfl rfl
                refine At.enter rfl ?_
                refine r_ireti ?_
                have x384 := HI.eqA hI379 (p := 233) (j := 0) (((eA_c (hF380.2.1 233 ma_X11_tell_231_233)).trans (eA_sA_eq hI372.1 ka_233 (by first | rfl | omega) (by first | decide | omega) (by first | decide | omega))))
                obtain ⟨v385, hv385⟩ : ∃ v, eA g0 233 4 = v := ⟨_, rfl⟩
                have wv385 := HI.t4 hI0
                rw [hv385] at wv385
                have tv385 := congrArg Int32.toInt hv385
                have x386 := HI.eqA hI379 (p := 233) (j := 4) ((((eA_c (hF380.2.1 233 ma_X11_tell_231_233)).trans ((eA_sA_ne hI372.1 ka_233 (by first | decide | omega) (by first | decide | omega) (by first | decide | omega)).trans ((eA_sA_ne hI367.1 ka_233 (by first | decide | omega) (by first | decide | omega) (by first | decide | omega)).trans ((eA_sA_ne hI362.1 ka_233 (by first | decide | omega) (by first | decide | omega) (by first | decide | omega)).trans ((eA_sA_ne hI173.1 ka_233 (by first | decide | omega) (by first | decide | omega) (by first | decide | omega)).trans (eA_c gA_sI)))))).trans hv385))
                obtain ⟨v387, hv387⟩ : ∃ v, eA g0 233 5 = v := ⟨_, rfl⟩
                have wv387 := HI.t5 hI0
                rw [hv387] at wv387
                have tv387 := congrArg Int32.toInt hv387
                have x388 := HI.eqA hI379 (p := 233) (j := 5) ((((eA_c (hF380.2.1 233 ma_X11_tell_231_233)).trans ((eA_sA_ne hI372.1 ka_233 (by first | decide | omega) (by first | decide | omega) (by first | decide | omega)).trans ((eA_sA_ne hI367.1 ka_233 (by first | decide | omega) (by first | decide | omega) (by first | decide | omega)).trans ((eA_sA_ne hI362.1 ka_233 (by first | decide | omega) (by first | decide | omega) (by first | decide | omega)).trans ((eA_sA_ne hI173.1 ka_233 (by first | decide | omega) (by first | decide | omega) (by first | decide | omega)).trans (eA_c gA_sI)))))).trans hv387))
                obtain ⟨v389, hv389⟩ : ∃ v, eA g0 233 6 = v := ⟨_, rfl⟩
                have wv389 := HI.t6 hI0
                rw [hv389] at wv389
                have tv389 := congrArg Int32.toInt hv389
                have x390 := HI.eqA hI379 (p := 233) (j := 6) ((((eA_c (hF380.2.1 233 ma_X11_tell_231_233)).trans ((eA_sA_ne hI372.1 ka_233 (by first | decide | omega) (by first | decide | omega) (by first | decide | omega)).trans ((eA_sA_ne hI367.1 ka_233 (by first | decide | omega) (by first | decide | omega) (by first | decide | omega)).trans ((eA_sA_ne hI362.1 ka_233 (by first | decide | omega) (by first | decide | omega) (by first | decide | omega)).trans ((eA_sA_ne hI173.1 ka_233 (by first | decide | omega) (by first | decide | omega) (by first | decide | omega)).trans (eA_c gA_sI)))))).trans hv389))
                obtain ⟨v391, hv391⟩ : ∃ v, eA g0 233 1 = v := ⟨_, rfl⟩
                have tv391 := congrArg Int32.toInt hv391
                have wv391 := HI.t1 hI0
                rw [hv391] at wv391
                have tv391 := congrArg Int32.toInt hv391
                have x392 := HI.eqA hI379 (p := 233) (j := 1) ((((eA_c (hF380.2.1 233 ma_X11_tell_231_233)).trans ((eA_sA_ne hI372.1 ka_233 (by first | decide | omega) (by first | decide | omega) (by first | decide | omega)).trans ((eA_sA_ne hI367.1 ka_233 (by first | decide | omega) (by first | decide | omega) (by first | decide | omega)).trans ((eA_sA_ne hI362.1 ka_233 (by first | decide | omega) (by first | decide | omega) (by first | decide | omega)).trans ((eA_sA_ne hI173.1 ka_233 (by first | decide | omega) (by first | decide | omega) (by first | decide | omega)).trans (eA_c gA_sI)))))).trans hv391))
                obtain ⟨v393, hv393⟩ : ∃ v, eA g0 233 2 = v := ⟨_, rfl⟩
                have tv393 := congrArg Int32.toInt hv393
                have wv393 := HI.t2 hI0
                rw [hv393] at wv393
                have tv393 := congrArg Int32.toInt hv393
                have x394 := HI.eqA hI379 (p := 233) (j := 2) ((((eA_c (hF380.2.1 233 ma_X11_tell_231_233)).trans ((eA_sA_ne hI372.1 ka_233 (by first | decide | omega) (by first | decide | omega) (by first | decide | omega)).trans ((eA_sA_ne hI367.1 ka_233 (by first | decide | omega) (by first | decide | omega) (by first | decide | omega)).trans ((eA_sA_ne hI362.1 ka_233 (by first | decide | omega) (by first | decide | omega) (by first | decide | omega)).trans ((eA_sA_ne hI173.1 ka_233 (by first | decide | omega) (by first | decide | omega) (by first | decide | omega)).trans (eA_c gA_sI)))))).trans hv393))
                obtain ⟨v395, hv395⟩ : ∃ v, eA g0 233 3 = v := ⟨_, rfl⟩
                have wv395 := HI.t3 hI0
                rw [hv395] at wv395
                have tv395 := congrArg Int32.toInt hv395
                have x396 := HI.eqA hI379 (p := 233) (j := 3) ((((eA_c (hF380.2.1 233 ma_X11_tell_231_233)).trans ((eA_sA_ne hI372.1 ka_233 (by first | decide | omega) (by first | decide | omega) (by first | decide | omega)).trans ((eA_sA_ne hI367.1 ka_233 (by first | decide | omega) (by first | decide | omega) (by first | decide | omega)).trans ((eA_sA_ne hI362.1 ka_233 (by first | decide | omega) (by first | decide | omega) (by first | decide | omega)).trans ((eA_sA_ne hI173.1 ka_233 (by first | decide | omega) (by first | decide | omega) (by first | decide | omega)).trans (eA_c gA_sI)))))).trans hv395))
                have x397 := HI.eqA hI0 (p := 233) (j := 0) (hv358)
                have x398 := HI.eqA hI0 (p := 233) (j := 4) (hv385)
                have x399 := HI.eqA hI0 (p := 233) (j := 5) (hv387)
                have x400 := HI.eqA hI0 (p := 233) (j := 6) (hv389)
                have x401 := HI.eqA hI0 (p := 233) (j := 1) (hv391)
                have x402 := HI.eqA hI0 (p := 233) (j := 2) (hv393)
                have x403 := HI.eqA hI0 (p := 233) (j := 3) (hv395)
                have x404 := HI.eqA hI0 (p := 233) (j := 0) (hv358)
                exact ⟨_, rfl, hI379, hF383, _, rfl, by omega, ⟨⟨by omega, by omega, by omega, by omega, by omega, by omega, by omega⟩, (by intro i i0 i1; exact (Decidable.em (((-1 ≤ a1.toInt ∧ a1.toInt ≤ 11 ∧ 1 ≤ a2.toInt ∧ a2.toInt ≤ 9 ∧ 0 ≤ a3.toInt ∧ a3.toInt ≤ 99) ∧ (eA g0 233 0).toInt < 12) ∧ i = 10 + 3 * (eA g0 233 0).toInt + 0)).elim (fun k143_ => by refine Eq.trans ?_ (if_pos k143_).symm; refine (eA_ti ((hF380.2.1 233 ma_X11_tell_231_233))).trans ?_; exact (Decidable.em (i = 0)).elim (fun k144_ => by refine (eA_eqT hI372.1 ka_233 k144_ (by first | decide | omega) (by first | decide | omega)).trans ?_; (first | (with_reducible rfl) | (omega) | (rfl))) (fun k144_ => by refine (eA_neT hI372.1 ka_233 k144_ (by first | decide | omega) (by omega)).trans ?_; exact (Decidable.em (i = (3 * v358.toInt + 12))).elim (fun k145_ => by refine (eA_eqT hI367.1 ka_233 k145_ (by first | decide | omega) (by first | decide | omega)).trans ?_; (first | (with_reducible rfl) | (omega) | (rfl))) (fun k145_ => by refine (eA_neT hI367.1 ka_233 k145_ (by first | decide | omega) (by omega)).trans ?_; exact (Decidable.em (i = (3 * v358.toInt + 11))).elim (fun k146_ => by refine (eA_eqT hI362.1 ka_233 k146_ (by first | decide | omega) (by first | decide | omega)).trans ?_; (first | (with_reducible rfl) | (omega) | (rfl))) (fun k146_ => by refine (eA_neT hI362.1 ka_233 k146_ (by first | decide | omega) (by omega)).trans ?_; exact (Decidable.em (i = (3 * v358.toInt + 10))).elim (fun k147_ => by refine (eA_eqT hI173.1 ka_233 k147_ (by first | decide | omega) (by first | decide | omega)).trans ?_; (first | (with_reducible rfl) | (omega) | (rfl))) (fun k147_ => by refine (eA_neT hI173.1 ka_233 k147_ (by first | decide | omega) (by omega)).trans ?_; refine (eA_ti ((gA_sI))).trans ?_; (first | with_reducible rfl | omega | exact eA_ix (by omega) | rfl)))))) (fun k143_ => by refine Eq.trans ?_ (if_neg k143_).symm; exact (Decidable.em (((-1 ≤ a1.toInt ∧ a1.toInt ≤ 11 ∧ 1 ≤ a2.toInt ∧ a2.toInt ≤ 9 ∧ 0 ≤ a3.toInt ∧ a3.toInt ≤ 99) ∧ (eA g0 233 0).toInt < 12) ∧ i = 10 + 3 * (eA g0 233 0).toInt + 1)).elim (fun k148_ => by refine Eq.trans ?_ (if_pos k148_).symm; refine (eA_ti ((hF380.2.1 233 ma_X11_tell_231_233))).trans ?_; exact (Decidable.em (i = 0)).elim (fun k149_ => by refine (eA_eqT hI372.1 ka_233 k149_ (by first | decide | omega) (by first | decide | omega)).trans ?_; (first | (with_reducible rfl) | (omega) | (rfl))) (fun k149_ => by refine (eA_neT hI372.1 ka_233 k149_ (by first | decide | omega) (by omega)).trans ?_; exact (Decidable.em (i = (3 * v358.toInt + 12))).elim (fun k150_ => by refine (eA_eqT hI367.1 ka_233 k150_ (by first | decide | omega) (by first | decide | omega)).trans ?_; (first | (with_reducible rfl) | (omega) | (rfl))) (fun k150_ => by refine (eA_neT hI367.1 ka_233 k150_ (by first | decide | omega) (by omega)).trans ?_; exact (Decidable.em (i = (3 * v358.toInt + 11))).elim (fun k151_ => by refine (eA_eqT hI362.1 ka_233 k151_ (by first | decide | omega) (by first | decide | omega)).trans ?_; (first | (with_reducible rfl) | (omega) | (rfl))) (fun k151_ => by refine (eA_neT hI362.1 ka_233 k151_ (by first | decide | omega) (by omega)).trans ?_; exact (Decidable.em (i = (3 * v358.toInt + 10))).elim (fun k152_ => by refine (eA_eqT hI173.1 ka_233 k152_ (by first | decide | omega) (by first | decide | omega)).trans ?_; (first | (with_reducible rfl) | (omega) | (rfl))) (fun k152_ => by refine (eA_neT hI173.1 ka_233 k152_ (by first | decide | omega) (by omega)).trans ?_; refine (eA_ti ((gA_sI))).trans ?_; (first | with_reducible rfl | omega | exact eA_ix (by omega) | rfl)))))) (fun k148_ => by refine Eq.trans ?_ (if_neg k148_).symm; exact (Decidable.em (((-1 ≤ a1.toInt ∧ a1.toInt ≤ 11 ∧ 1 ≤ a2.toInt ∧ a2.toInt ≤ 9 ∧ 0 ≤ a3.toInt ∧ a3.toInt ≤ 99) ∧ (eA g0 233 0).toInt < 12) ∧ i = 10 + 3 * (eA g0 233 0).toInt + 2)).elim (fun k153_ => by refine Eq.trans ?_ (if_pos k153_).symm; refine (eA_ti ((hF380.2.1 233 ma_X11_tell_231_233))).trans ?_; exact (Decidable.em (i = 0)).elim (fun k154_ => by refine (eA_eqT hI372.1 ka_233 k154_ (by first | decide | omega) (by first | decide | omega)).trans ?_; (first | (with_reducible rfl) | (omega) | (rfl))) (fun k154_ => by refine (eA_neT hI372.1 ka_233 k154_ (by first | decide | omega) (by omega)).trans ?_; exact (Decidable.em (i = (3 * v358.toInt + 12))).elim (fun k155_ => by refine (eA_eqT hI367.1 ka_233 k155_ (by first | decide | omega) (by first | decide | omega)).trans ?_; (first | (with_reducible rfl) | (omega) | (rfl))) (fun k155_ => by refine (eA_neT hI367.1 ka_233 k155_ (by first | decide | omega) (by omega)).trans ?_; exact (Decidable.em (i = (3 * v358.toInt + 11))).elim (fun k156_ => by refine (eA_eqT hI362.1 ka_233 k156_ (by first | decide | omega) (by first | decide | omega)).trans ?_; (first | (with_reducible rfl) | (omega) | (rfl))) (fun k156_ => by refine (eA_neT hI362.1 ka_233 k156_ (by first | decide | omega) (by omega)).trans ?_; exact (Decidable.em (i = (3 * v358.toInt + 10))).elim (fun k157_ => by refine (eA_eqT hI173.1 ka_233 k157_ (by first | decide | omega) (by first | decide | omega)).trans ?_; (first | (with_reducible rfl) | (omega) | (rfl))) (fun k157_ => by refine (eA_neT hI173.1 ka_233 k157_ (by first | decide | omega) (by omega)).trans ?_; refine (eA_ti ((gA_sI))).trans ?_; (first | with_reducible rfl | omega | exact eA_ix (by omega) | rfl)))))) (fun k153_ => by refine Eq.trans ?_ (if_neg k153_).symm; refine (eA_ti ((hF380.2.1 233 ma_X11_tell_231_233))).trans ?_; exact (Decidable.em (i = 0)).elim (fun k158_ => by refine (eA_eqT hI372.1 ka_233 k158_ (by first | decide | omega) (by first | decide | omega)).trans ?_; (first | (with_reducible rfl) | (omega) | (rfl))) (fun k158_ => by refine (eA_neT hI372.1 ka_233 k158_ (by first | decide | omega) (by omega)).trans ?_; exact (Decidable.em (i = (3 * v358.toInt + 12))).elim (fun k159_ => by refine (eA_eqT hI367.1 ka_233 k159_ (by first | decide | omega) (by first | decide | omega)).trans ?_; (first | (with_reducible rfl) | (omega) | (rfl))) (fun k159_ => by refine (eA_neT hI367.1 ka_233 k159_ (by first | decide | omega) (by omega)).trans ?_; exact (Decidable.em (i = (3 * v358.toInt + 11))).elim (fun k160_ => by refine (eA_eqT hI362.1 ka_233 k160_ (by first | decide | omega) (by first | decide | omega)).trans ?_; (first | (with_reducible rfl) | (omega) | (rfl))) (fun k160_ => by refine (eA_neT hI362.1 ka_233 k160_ (by first | decide | omega) (by omega)).trans ?_; exact (Decidable.em (i = (3 * v358.toInt + 10))).elim (fun k161_ => by refine (eA_eqT hI173.1 ka_233 k161_ (by first | decide | omega) (by first | decide | omega)).trans ?_; (first | (with_reducible rfl) | (omega) | (rfl))) (fun k161_ => by refine (eA_neT hI173.1 ka_233 k161_ (by first | decide | omega) (by omega)).trans ?_; refine (eA_ti ((gA_sI))).trans ?_; (first | with_reducible rfl | omega | exact eA_ix (by omega) | rfl)))))))))⟩⟩
              · have c359_ : v358.toInt = 12 := en_i_ne_f c359
                refine At.enter rfl ?_
                refine r_aload_n rfl ?_
                refine r_bipush (-5) rfl ?_
                refine r_callV 56 rfl [.ref 231, .int (-5)] [] (Nat.le_of_ble_eq_true rfl) rfl (T_X11_tell_231 _ hI173 (-5) (by decide)) ?_
                rintro _ _ ⟨g405, rfl, hI406, hF407, v408, rfl, hr409⟩
                refine At.sti ?_
                have hF410 := Fr.tr hF174 hF407 rfl rfl
                have zv411 : ((-5) : Int32).toInt = (-5) := rfl
                refine At.enter rfl ?_
                refine r_ireti ?_
                have x412 := HI.eqA hI406 (p := 233) (j := 0) ((((eA_c (hF407.2.1 233 ma_X11_tell_231_233)).trans (eA_c gA_sI)).trans hv358))
                obtain ⟨v413, hv413⟩ : ∃ v, eA g0 233 4 = v := ⟨_, rfl⟩
                have wv413 := HI.t4 hI0
                rw [hv413] at wv413
                have tv413 := congrArg Int32.toInt hv413
                have x414 := HI.eqA hI406 (p := 233) (j := 4) ((((eA_c (hF407.2.1 233 ma_X11_tell_231_233)).trans (eA_c gA_sI)).trans hv413))
                obtain ⟨v415, hv415⟩ : ∃ v, eA g0 233 5 = v := ⟨_, rfl⟩
                have wv415 := HI.t5 hI0
                rw [hv415] at wv415
                have tv415 := congrArg Int32.toInt hv415
                have x416 := HI.eqA hI406 (p := 233) (j := 5) ((((eA_c (hF407.2.1 233 ma_X11_tell_231_233)).trans (eA_c gA_sI)).trans hv415))
                obtain ⟨v417, hv417⟩ : ∃ v, eA g0 233 6 = v := ⟨_, rfl⟩
                have wv417 := HI.t6 hI0
                rw [hv417] at wv417
                have tv417 := congrArg Int32.toInt hv417
                have x418 := HI.eqA hI406 (p := 233) (j := 6) ((((eA_c (hF407.2.1 233 ma_X11_tell_231_233)).trans (eA_c gA_sI)).trans hv417))
                obtain ⟨v419, hv419⟩ : ∃ v, eA g0 233 1 = v := ⟨_, rfl⟩
                have tv419 := congrArg Int32.toInt hv419
                have wv419 := HI.t1 hI0
                rw [hv419] at wv419
                have tv419 := congrArg Int32.toInt hv419
                have x420 := HI.eqA hI406 (p := 233) (j := 1) ((((eA_c (hF407.2.1 233 ma_X11_tell_231_233)).trans (eA_c gA_sI)).trans hv419))
                obtain ⟨v421, hv421⟩ : ∃ v, eA g0 233 2 = v := ⟨_, rfl⟩
                have tv421 := congrArg Int32.toInt hv421
                have wv421 := HI.t2 hI0
                rw [hv421] at wv421
                have tv421 := congrArg Int32.toInt hv421
                have x422 := HI.eqA hI406 (p := 233) (j := 2) ((((eA_c (hF407.2.1 233 ma_X11_tell_231_233)).trans (eA_c gA_sI)).trans hv421))
                obtain ⟨v423, hv423⟩ : ∃ v, eA g0 233 3 = v := ⟨_, rfl⟩
                have wv423 := HI.t3 hI0
                rw [hv423] at wv423
                have tv423 := congrArg Int32.toInt hv423
                have x424 := HI.eqA hI406 (p := 233) (j := 3) ((((eA_c (hF407.2.1 233 ma_X11_tell_231_233)).trans (eA_c gA_sI)).trans hv423))
                have x425 := HI.eqA hI0 (p := 233) (j := 0) (hv358)
                have x426 := HI.eqA hI0 (p := 233) (j := 4) (hv413)
                have x427 := HI.eqA hI0 (p := 233) (j := 5) (hv415)
                have x428 := HI.eqA hI0 (p := 233) (j := 6) (hv417)
                have x429 := HI.eqA hI0 (p := 233) (j := 1) (hv419)
                have x430 := HI.eqA hI0 (p := 233) (j := 2) (hv421)
                have x431 := HI.eqA hI0 (p := 233) (j := 3) (hv423)
                have x432 := HI.eqA hI0 (p := 233) (j := 0) (hv358)
                exact ⟨_, rfl, hI406, hF410, _, rfl, by omega, ⟨⟨by omega, by omega, by omega, by omega, by omega, by omega, by omega⟩, (by intro i i0 i1; refine Eq.trans ?_ (if_neg (show ¬ (((-1 ≤ a1.toInt ∧ a1.toInt ≤ 11 ∧ 1 ≤ a2.toInt ∧ a2.toInt ≤ 9 ∧ 0 ≤ a3.toInt ∧ a3.toInt ≤ 99) ∧ (eA g0 233 0).toInt < 12) ∧ i = 10 + 3 * (eA g0 233 0).toInt + 0) from by omega)).symm; refine Eq.trans ?_ (if_neg (show ¬ (((-1 ≤ a1.toInt ∧ a1.toInt ≤ 11 ∧ 1 ≤ a2.toInt ∧ a2.toInt ≤ 9 ∧ 0 ≤ a3.toInt ∧ a3.toInt ≤ 99) ∧ (eA g0 233 0).toInt < 12) ∧ i = 10 + 3 * (eA g0 233 0).toInt + 1) from by omega)).symm; refine Eq.trans ?_ (if_neg (show ¬ (((-1 ≤ a1.toInt ∧ a1.toInt ≤ 11 ∧ 1 ≤ a2.toInt ∧ a2.toInt ≤ 9 ∧ 0 ≤ a3.toInt ∧ a3.toInt ≤ 99) ∧ (eA g0 233 0).toInt < 12) ∧ i = 10 + 3 * (eA g0 233 0).toInt + 2) from by omega)).symm; refine (eA_ti (((hF407.2.1 233 ma_X11_tell_231_233).trans (gA_sI)))).trans ?_; (first | with_reducible rfl | omega | exact eA_ix (by omega) | rfl))⟩⟩
