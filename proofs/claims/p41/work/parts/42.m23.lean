def F_X11_status_231 : List (Nat × Nat) := [(231, 0)]
def A_X11_status_231 : List Nat := []
set_option maxRecDepth 100000 in
set_option maxHeartbeats 4000000 in
theorem T_X11_status_231 (d : Nat) {N : Nat} {g0 : List en_E} (hI0 : HI g0) : Ev (d + 1) 264 [.ref 231] (g0, N) (fun w h' => ∃ g', h' = (g', N) ∧ HI g' ∧ Fr F_X11_status_231 A_X11_status_231 g0 g' ∧ ∃ r : Int32, w = some (.int r) ∧ True ∧ (r.toInt = (gI g0 231 1).toInt)) := by
  have hF0 : Fr F_X11_status_231 A_X11_status_231 g0 g0 := Fr.rf
  refine Ev.mk rfl rfl ⟨Nat.le_of_ble_eq_true rfl, Or.inr (q_rc hI0.1 kx_231 rfl)⟩ ?_
  show At _ none _ _ (0, [(0, .ref 231)], [], (_, _)) _
  refine At.enter rfl ?_
  refine r_aload_n rfl ?_
  refine r_iconst 0 rfl ?_
  refine q_putI (Sh.int hI0.1 kx_231 rfl) rfl ?_
  have hI7 := HI.wI0 hI0 kx_231 rfl (p := 231) (b := 0) (v := 0) rfl
  have hF8 := Fr.wI (p := 231) (b := 0) (v := 0) hF0 rfl
  refine r_aload_n rfl ?_
  obtain ⟨v9, hv9⟩ : ∃ v, gI g0 231 1 = v := ⟨_, rfl⟩
  refine q_getI (Sh.int hI7.1 kx_231 rfl) v9 ((gI_sI_ne (by decide)).trans hv9) ?_
  refine r_ireti ?_
  have x10 := HI.eqI hI0 (p := 231) (b := 1) (hv9)
  exact ⟨_, rfl, hI7, hF8, _, rfl, trivial, (by omega)⟩

def F_X11_stand_231 : List (Nat × Nat) := [(231, 0), (231, 1)]
def A_X11_stand_231 : List Nat := [232, 233]
theorem ma_X11_tell_231_233 : memA A_X11_tell_231 233 = false := by decide
set_option maxRecDepth 100000 in
set_option maxHeartbeats 4000000 in
theorem T_X11_stand_231 (d : Nat) {N : Nat} {g0 : List en_E} (hI0 : HI g0) (a1 : Int32) (a2 : Int32) (a3 : Int32) : Ev (d + 3) 172 [.ref 231, .int a1, .int a2, .int a3] (g0, N) (fun w h' => ∃ g', h' = (g', N) ∧ HI g' ∧ Fr F_X11_stand_231 A_X11_stand_231 g0 g' ∧ ∃ r : Int32, w = some (.int r) ∧ ((-5) ≤ r.toInt ∧ r.toInt ≤ 11) ∧ (((((¬ (-1 ≤ a1.toInt ∧ a1.toInt ≤ 11 ∧ 1 ≤ a2.toInt ∧ a2.toInt ≤ 9 ∧ 0 ≤ a3.toInt ∧ a3.toInt ≤ 99) → r.toInt = -1 ∧ (eA g' 233 0).toInt = (eA g0 233 0).toInt) ∧ ((-1 ≤ a1.toInt ∧ a1.toInt ≤ 11 ∧ 1 ≤ a2.toInt ∧ a2.toInt ≤ 9 ∧ 0 ≤ a3.toInt ∧ a3.toInt ≤ 99) ∧ 12 ≤ (eA g0 233 0).toInt → r.toInt = -5 ∧ (eA g' 233 0).toInt = (eA g0 233 0).toInt) ∧ ((-1 ≤ a1.toInt ∧ a1.toInt ≤ 11 ∧ 1 ≤ a2.toInt ∧ a2.toInt ≤ 9 ∧ 0 ≤ a3.toInt ∧ a3.toInt ≤ 99) ∧ (eA g0 233 0).toInt < 12 → r.toInt = (eA g0 233 0).toInt ∧ (eA g' 233 0).toInt = (eA g0 233 0).toInt + 1)) ∧ (eA g' 233 4).toInt = (eA g0 233 4).toInt ∧ (eA g' 233 5).toInt = (eA g0 233 5).toInt ∧ (eA g' 233 6).toInt = (eA g0 233 6).toInt ∧ (eA g' 233 1).toInt = (eA g0 233 1).toInt ∧ (eA g' 233 2).toInt = (eA g0 233 2).toInt ∧ (eA g' 233 3).toInt = (eA g0 233 3).toInt) ∧ (∀ i : Int, 10 ≤ i → i < 110 → (eA g' 233 (i)).toInt = if ((-1 ≤ a1.toInt ∧ a1.toInt ≤ 11 ∧ 1 ≤ a2.toInt ∧ a2.toInt ≤ 9 ∧ 0 ≤ a3.toInt ∧ a3.toInt ≤ 99) ∧ (eA g0 233 0).toInt < 12) ∧ i = 10 + 3 * (eA g0 233 0).toInt + 0 then a1.toInt else if ((-1 ≤ a1.toInt ∧ a1.toInt ≤ 11 ∧ 1 ≤ a2.toInt ∧ a2.toInt ≤ 9 ∧ 0 ≤ a3.toInt ∧ a3.toInt ≤ 99) ∧ (eA g0 233 0).toInt < 12) ∧ i = 10 + 3 * (eA g0 233 0).toInt + 1 then a2.toInt else if ((-1 ≤ a1.toInt ∧ a1.toInt ≤ 11 ∧ 1 ≤ a2.toInt ∧ a2.toInt ≤ 9 ∧ 0 ≤ a3.toInt ∧ a3.toInt ≤ 99) ∧ (eA g0 233 0).toInt < 12) ∧ i = 10 + 3 * (eA g0 233 0).toInt + 2 then a3.toInt else (eA g0 233 (i)).toInt)) ∧ SU r.toInt (gI g' 231 1).toInt)) := by
  have hF0 : Fr F_X11_stand_231 A_X11_stand_231 g0 g0 := Fr.rf
  refine Ev.mk rfl rfl ⟨Nat.le_of_ble_eq_true rfl, Or.inr (q_rc hI0.1 kx_231 rfl)⟩ ?_
  show At _ none _ _ (0, [(0, .ref 231), (1, .int a1), (2, .int a2), (3, .int a3)], [], (_, _)) _
  refine At.enter rfl ?_
  refine r_aload_n rfl ?_
  refine r_iconst 0 rfl ?_
  refine q_putI (Sh.int hI0.1 kx_231 rfl) rfl ?_
  have hI173 := HI.wI0 hI0 kx_231 rfl (p := 231) (b := 0) (v := 0) rfl
  have hF174 := Fr.wI (p := 231) (b := 0) (v := 0) hF0 rfl
  refine r_iconst 0 rfl ?_
  refine r_iload_n rfl ?_
  refine q_inlS 10 rfl [.int 0, .int a1] [] (Nat.le_of_ble_eq_true rfl) rfl ?_
  refine Ev.mk rfl rfl ⟨Nat.le_of_ble_eq_true rfl, Or.inl rfl⟩ ?_
  show At _ none _ _ (0, [(0, .int 0), (1, .int a1)], [], (_, _)) _
  refine At.enter rfl ?_
  refine r_iload_n rfl ?_
  refine r_tsw 28 rfl ?_
  refine At.enter rfl ?_
  refine r_iload_n rfl ?_
  refine q_i2l (fun v175 hv175 => ?_)
  refine r_ldc2 (-1) rfl ?_
  refine r_ldc2 11 rfl ?_
  refine q_inlS 39 rfl [.long v175, .long (-1), .long 11] [] (Nat.le_of_ble_eq_true rfl) rfl ?_
  refine Ev.mk rfl rfl ⟨Nat.le_of_ble_eq_true rfl, Or.inl rfl⟩ ?_
  show At _ none _ _ (0, [(0, .long v175), (2, .long (-1)), (4, .long 11)], [], (_, _)) _
  refine At.enter rfl ?_
  refine r_lload_n rfl ?_
  refine r_lload_n rfl ?_
  refine r_lcmp _ rfl ?_
  refine r_ifs 6 rfl (fun c176 => ?_) (fun c176 => ?_)
  · have c176_ : v175.toInt < (-1) := en_j_lt_t c176
    refine At.enter rfl ?_
    refine r_iconst 0 rfl ?_
    refine Ar.fall 18 rfl ?_
    refine At.enter rfl ?_
    refine q_iretz (by decide) ?_
    refine At.enter rfl ?_
    refine q_iretz (by decide) ?_
    refine At.enter rfl ?_
    refine r_ift (by decide) ?_
    refine At.enter rfl ?_
    refine r_aload_n rfl ?_
    refine r_iconst (-1) rfl ?_
    refine r_callV 34 rfl [.ref 231, .int (-1)] [] (Nat.le_of_ble_eq_true rfl) rfl (T_X11_tell_231 _ hI173 (-1) (by decide)) ?_
    rintro _ _ ⟨g177, rfl, hI178, hF179, v180, rfl, hr181⟩
    refine At.sti ?_
    have hF182 := Fr.tr hF174 hF179 rfl rfl
    have zv183 : ((-1) : Int32).toInt = (-1) := rfl
    refine At.enter rfl ?_
    refine r_ireti ?_
    obtain ⟨v184, hv184⟩ : ∃ v, eA g0 233 0 = v := ⟨_, rfl⟩
    have tv184 := congrArg Int32.toInt hv184
    have wv184 := HI.t0 hI0
    rw [hv184] at wv184
    have tv184 := congrArg Int32.toInt hv184
    have x185 := HI.eqA hI178 (p := 233) (j := 0) ((((eA_c (hF179.2.1 233 ma_X11_tell_231_233)).trans (eA_c gA_sI)).trans hv184))
    obtain ⟨v186, hv186⟩ : ∃ v, eA g0 233 4 = v := ⟨_, rfl⟩
    have wv186 := HI.t4 hI0
    rw [hv186] at wv186
    have tv186 := congrArg Int32.toInt hv186
    have x187 := HI.eqA hI178 (p := 233) (j := 4) ((((eA_c (hF179.2.1 233 ma_X11_tell_231_233)).trans (eA_c gA_sI)).trans hv186))
    obtain ⟨v188, hv188⟩ : ∃ v, eA g0 233 5 = v := ⟨_, rfl⟩
    have wv188 := HI.t5 hI0
    rw [hv188] at wv188
    have tv188 := congrArg Int32.toInt hv188
    have x189 := HI.eqA hI178 (p := 233) (j := 5) ((((eA_c (hF179.2.1 233 ma_X11_tell_231_233)).trans (eA_c gA_sI)).trans hv188))
    obtain ⟨v190, hv190⟩ : ∃ v, eA g0 233 6 = v := ⟨_, rfl⟩
    have wv190 := HI.t6 hI0
    rw [hv190] at wv190
    have tv190 := congrArg Int32.toInt hv190
    have x191 := HI.eqA hI178 (p := 233) (j := 6) ((((eA_c (hF179.2.1 233 ma_X11_tell_231_233)).trans (eA_c gA_sI)).trans hv190))
    obtain ⟨v192, hv192⟩ : ∃ v, eA g0 233 1 = v := ⟨_, rfl⟩
    have tv192 := congrArg Int32.toInt hv192
    have wv192 := HI.t1 hI0
    rw [hv192] at wv192
    have tv192 := congrArg Int32.toInt hv192
    have x193 := HI.eqA hI178 (p := 233) (j := 1) ((((eA_c (hF179.2.1 233 ma_X11_tell_231_233)).trans (eA_c gA_sI)).trans hv192))
    obtain ⟨v194, hv194⟩ : ∃ v, eA g0 233 2 = v := ⟨_, rfl⟩
    have tv194 := congrArg Int32.toInt hv194
    have wv194 := HI.t2 hI0
    rw [hv194] at wv194
    have tv194 := congrArg Int32.toInt hv194
    have x195 := HI.eqA hI178 (p := 233) (j := 2) ((((eA_c (hF179.2.1 233 ma_X11_tell_231_233)).trans (eA_c gA_sI)).trans hv194))
    obtain ⟨v196, hv196⟩ : ∃ v, eA g0 233 3 = v := ⟨_, rfl⟩
    have wv196 := HI.t3 hI0
    rw [hv196] at wv196
    have tv196 := congrArg Int32.toInt hv196
    have x197 := HI.eqA hI178 (p := 233) (j := 3) ((((eA_c (hF179.2.1 233 ma_X11_tell_231_233)).trans (eA_c gA_sI)).trans hv196))
    have x198 := HI.eqA hI0 (p := 233) (j := 0) (hv184)
    have x199 := HI.eqA hI0 (p := 233) (j := 4) (hv186)
    have x200 := HI.eqA hI0 (p := 233) (j := 5) (hv188)
    have x201 := HI.eqA hI0 (p := 233) (j := 6) (hv190)
    have x202 := HI.eqA hI0 (p := 233) (j := 1) (hv192)
    have x203 := HI.eqA hI0 (p := 233) (j := 2) (hv194)
    have x204 := HI.eqA hI0 (p := 233) (j := 3) (hv196)
    have x205 := HI.eqA hI0 (p := 233) (j := 0) (hv184)
    obtain ⟨v206, hv206⟩ : ∃ v, gI g177 231 1 = v := ⟨_, rfl⟩
    have tv206 := congrArg Int32.toInt hv206
    exact ⟨_, rfl, hI178, hF182, _, rfl, by omega, ⟨⟨⟨by omega, by omega, by omega, by omega, by omega, by omega, by omega⟩, (by intro i i0 i1; refine Eq.trans ?_ (if_neg (show ¬ (((-1 ≤ a1.toInt ∧ a1.toInt ≤ 11 ∧ 1 ≤ a2.toInt ∧ a2.toInt ≤ 9 ∧ 0 ≤ a3.toInt ∧ a3.toInt ≤ 99) ∧ (eA g0 233 0).toInt < 12) ∧ i = 10 + 3 * (eA g0 233 0).toInt + 0) from by omega)).symm; refine Eq.trans ?_ (if_neg (show ¬ (((-1 ≤ a1.toInt ∧ a1.toInt ≤ 11 ∧ 1 ≤ a2.toInt ∧ a2.toInt ≤ 9 ∧ 0 ≤ a3.toInt ∧ a3.toInt ≤ 99) ∧ (eA g0 233 0).toInt < 12) ∧ i = 10 + 3 * (eA g0 233 0).toInt + 1) from by omega)).symm; refine Eq.trans ?_ (if_neg (show ¬ (((-1 ≤ a1.toInt ∧ a1.toInt ≤ 11 ∧ 1 ≤ a2.toInt ∧ a2.toInt ≤ 9 ∧ 0 ≤ a3.toInt ∧ a3.toInt ≤ 99) ∧ (eA g0 233 0).toInt < 12) ∧ i = 10 + 3 * (eA g0 233 0).toInt + 2) from by omega)).symm; refine (eA_ti (((hF179.2.1 233 ma_X11_tell_231_233).trans (gA_sI)))).trans ?_; (first | with_reducible rfl | omega | exact eA_ix (by omega) | rfl))⟩, (SU.mk (by omega))⟩⟩
  · have c176_ : v175.toInt ≥ (-1) := en_j_lt_f c176
    refine At.enter rfl ?_
    refine r_lload_n rfl ?_
    refine r_lload rfl ?_
    refine r_lcmp _ rfl ?_
    refine r_ifs 13 rfl (fun c208 => ?_) (fun c208 => ?_)
    · have c208_ : v175.toInt > 11 := en_j_gt_t c208
      refine At.enter rfl ?_
      refine r_iconst 0 rfl ?_
      refine Ar.fall 18 rfl ?_
      refine At.enter rfl ?_
      refine q_iretz (by decide) ?_
      refine At.enter rfl ?_
      refine q_iretz (by decide) ?_
      refine At.enter rfl ?_
      refine r_ift (by decide) ?_
      refine At.enter rfl ?_
      refine r_aload_n rfl ?_
      refine r_iconst (-1) rfl ?_
      refine r_callV 34 rfl [.ref 231, .int (-1)] [] (Nat.le_of_ble_eq_true rfl) rfl (T_X11_tell_231 _ hI173 (-1) (by decide)) ?_
      rintro _ _ ⟨g209, rfl, hI210, hF211, v212, rfl, hr213⟩
      refine At.sti ?_
      have hF214 := Fr.tr hF174 hF211 rfl rfl
      have zv215 : ((-1) : Int32).toInt = (-1) := rfl
      refine At.enter rfl ?_
      refine r_ireti ?_
      obtain ⟨v216, hv216⟩ : ∃ v, eA g0 233 0 = v := ⟨_, rfl⟩
      have tv216 := congrArg Int32.toInt hv216
      have wv216 := HI.t0 hI0
      rw [hv216] at wv216
      have tv216 := congrArg Int32.toInt hv216
      have x217 := HI.eqA hI210 (p := 233) (j := 0) ((((eA_c (hF211.2.1 233 ma_X11_tell_231_233)).trans (eA_c gA_sI)).trans hv216))
      obtain ⟨v218, hv218⟩ : ∃ v, eA g0 233 4 = v := ⟨_, rfl⟩
      have wv218 := HI.t4 hI0
      rw [hv218] at wv218
      have tv218 := congrArg Int32.toInt hv218
      have x219 := HI.eqA hI210 (p := 233) (j := 4) ((((eA_c (hF211.2.1 233 ma_X11_tell_231_233)).trans (eA_c gA_sI)).trans hv218))
      obtain ⟨v220, hv220⟩ : ∃ v, eA g0 233 5 = v := ⟨_, rfl⟩
      have wv220 := HI.t5 hI0
      rw [hv220] at wv220
      have tv220 := congrArg Int32.toInt hv220
      have x221 := HI.eqA hI210 (p := 233) (j := 5) ((((eA_c (hF211.2.1 233 ma_X11_tell_231_233)).trans (eA_c gA_sI)).trans hv220))
      obtain ⟨v222, hv222⟩ : ∃ v, eA g0 233 6 = v := ⟨_, rfl⟩
      have wv222 := HI.t6 hI0
      rw [hv222] at wv222
      have tv222 := congrArg Int32.toInt hv222
      have x223 := HI.eqA hI210 (p := 233) (j := 6) ((((eA_c (hF211.2.1 233 ma_X11_tell_231_233)).trans (eA_c gA_sI)).trans hv222))
      obtain ⟨v224, hv224⟩ : ∃ v, eA g0 233 1 = v := ⟨_, rfl⟩
      have tv224 := congrArg Int32.toInt hv224
      have wv224 := HI.t1 hI0
      rw [hv224] at wv224
      have tv224 := congrArg Int32.toInt hv224
      have x225 := HI.eqA hI210 (p := 233) (j := 1) ((((eA_c (hF211.2.1 233 ma_X11_tell_231_233)).trans (eA_c gA_sI)).trans hv224))
      obtain ⟨v226, hv226⟩ : ∃ v, eA g0 233 2 = v := ⟨_, rfl⟩
      have tv226 := congrArg Int32.toInt hv226
      have wv226 := HI.t2 hI0
      rw [hv226] at wv226
      have tv226 := congrArg Int32.toInt hv226
      have x227 := HI.eqA hI210 (p := 233) (j := 2) ((((eA_c (hF211.2.1 233 ma_X11_tell_231_233)).trans (eA_c gA_sI)).trans hv226))
      obtain ⟨v228, hv228⟩ : ∃ v, eA g0 233 3 = v := ⟨_, rfl⟩
      have wv228 := HI.t3 hI0
      rw [hv228] at wv228
      have tv228 := congrArg Int32.toInt hv228
      have x229 := HI.eqA hI210 (p := 233) (j := 3) ((((eA_c (hF211.2.1 233 ma_X11_tell_231_233)).trans (eA_c gA_sI)).trans hv228))
      have x230 := HI.eqA hI0 (p := 233) (j := 0) (hv216)
      have x231 := HI.eqA hI0 (p := 233) (j := 4) (hv218)
      have x232 := HI.eqA hI0 (p := 233) (j := 5) (hv220)
      have x233 := HI.eqA hI0 (p := 233) (j := 6) (hv222)
      have x234 := HI.eqA hI0 (p := 233) (j := 1) (hv224)
      have x235 := HI.eqA hI0 (p := 233) (j := 2) (hv226)
      have x236 := HI.eqA hI0 (p := 233) (j := 3) (hv228)
      have x237 := HI.eqA hI0 (p := 233) (j := 0) (hv216)
      obtain ⟨v238, hv238⟩ : ∃ v, gI g209 231 1 = v := ⟨_, rfl⟩
      have tv238 := congrArg Int32.toInt hv238
      exact ⟨_, rfl, hI210, hF214, _, rfl, by omega, ⟨⟨⟨by omega, by omega, by omega, by omega, by omega, by omega, by omega⟩, (by intro i i0 i1; refine Eq.trans ?_ (if_neg (show ¬ (((-1 ≤ a1.toInt ∧ a1.toInt ≤ 11 ∧ 1 ≤ a2.toInt ∧ a2.toInt ≤ 9 ∧ 0 ≤ a3.toInt ∧ a3.toInt ≤ 99) ∧ (eA g0 233 0).toInt < 12) ∧ i = 10 + 3 * (eA g0 233 0).toInt + 0) from by omega)).symm; refine Eq.trans ?_ (if_neg (show ¬ (((-1 ≤ a1.toInt ∧ a1.toInt ≤ 11 ∧ 1 ≤ a2.toInt ∧ a2.toInt ≤ 9 ∧ 0 ≤ a3.toInt ∧ a3.toInt ≤ 99) ∧ (eA g0 233 0).toInt < 12) ∧ i = 10 + 3 * (eA g0 233 0).toInt + 1) from by omega)).symm; refine Eq.trans ?_ (if_neg (show ¬ (((-1 ≤ a1.toInt ∧ a1.toInt ≤ 11 ∧ 1 ≤ a2.toInt ∧ a2.toInt ≤ 9 ∧ 0 ≤ a3.toInt ∧ a3.toInt ≤ 99) ∧ (eA g0 233 0).toInt < 12) ∧ i = 10 + 3 * (eA g0 233 0).toInt + 2) from by omega)).symm; refine (eA_ti (((hF211.2.1 233 ma_X11_tell_231_233).trans (gA_sI)))).trans ?_; (first | with_reducible rfl | omega | exact eA_ix (by omega) | rfl))⟩, (SU.mk (by omega))⟩⟩
    · have c208_ : v175.toInt ≤ 11 := en_j_gt_f c208
      refine At.enter rfl ?_
      refine r_iconst 1 rfl ?_
      refine r_goto ?_
      refine At.enter rfl ?_
      refine q_iretz (by decide) ?_
      refine At.enter rfl ?_
      refine q_iretz (by decide) ?_
      refine At.enter rfl ?_
      refine r_iff 13 rfl (by decide) ?_
      refine At.enter rfl ?_
      refine r_iconst 1 rfl ?_
      refine r_iload_n rfl ?_
      refine q_inlS 18 rfl [.int 1, .int a2] [] (Nat.le_of_ble_eq_true rfl) rfl ?_
      refine Ev.mk rfl rfl ⟨Nat.le_of_ble_eq_true rfl, Or.inl rfl⟩ ?_
      show At _ none _ _ (0, [(0, .int 1), (1, .int a2)], [], (_, _)) _
      refine At.enter rfl ?_
      refine r_iload_n rfl ?_
      refine r_tsw 40 rfl ?_
      refine At.enter rfl ?_
      refine r_iload_n rfl ?_
      refine q_i2l (fun v240 hv240 => ?_)
      refine r_lconst 1 rfl ?_
      refine r_ldc2 9 rfl ?_
      refine q_inlS 49 rfl [.long v240, .long 1, .long 9] [] (Nat.le_of_ble_eq_true rfl) rfl ?_
      refine Ev.mk rfl rfl ⟨Nat.le_of_ble_eq_true rfl, Or.inl rfl⟩ ?_
      show At _ none _ _ (0, [(0, .long v240), (2, .long 1), (4, .long 9)], [], (_, _)) _
      refine At.enter rfl ?_
      refine r_lload_n rfl ?_
      refine r_lload_n rfl ?_
      refine r_lcmp _ rfl ?_
      refine r_ifs 6 rfl (fun c241 => ?_) (fun c241 => ?_)
      · have c241_ : v240.toInt < 1 := en_j_lt_t c241
        refine At.enter rfl ?_
        refine r_iconst 0 rfl ?_
        refine Ar.fall 18 rfl ?_
        refine At.enter rfl ?_
        refine q_iretz (by decide) ?_
        refine At.enter rfl ?_
        refine q_iretz (by decide) ?_
        refine At.enter rfl ?_
        refine r_ift (by decide) ?_
        refine At.enter rfl ?_
        refine r_aload_n rfl ?_
        refine r_iconst (-1) rfl ?_
        refine r_callV 34 rfl [.ref 231, .int (-1)] [] (Nat.le_of_ble_eq_true rfl) rfl (T_X11_tell_231 _ hI173 (-1) (by decide)) ?_
        rintro _ _ ⟨g242, rfl, hI243, hF244, v245, rfl, hr246⟩
        refine At.sti ?_
        have hF247 := Fr.tr hF174 hF244 rfl rfl
        have zv248 : ((-1) : Int32).toInt = (-1) := rfl
        refine At.enter rfl ?_
        refine r_ireti ?_
        obtain ⟨v249, hv249⟩ : ∃ v, eA g0 233 0 = v := ⟨_, rfl⟩
        have tv249 := congrArg Int32.toInt hv249
        have wv249 := HI.t0 hI0
        rw [hv249] at wv249
        have tv249 := congrArg Int32.toInt hv249
        have x250 := HI.eqA hI243 (p := 233) (j := 0) ((((eA_c (hF244.2.1 233 ma_X11_tell_231_233)).trans (eA_c gA_sI)).trans hv249))
        obtain ⟨v251, hv251⟩ : ∃ v, eA g0 233 4 = v := ⟨_, rfl⟩
        have wv251 := HI.t4 hI0
        rw [hv251] at wv251
        have tv251 := congrArg Int32.toInt hv251
        have x252 := HI.eqA hI243 (p := 233) (j := 4) ((((eA_c (hF244.2.1 233 ma_X11_tell_231_233)).trans (eA_c gA_sI)).trans hv251))
        obtain ⟨v253, hv253⟩ : ∃ v, eA g0 233 5 = v := ⟨_, rfl⟩
        have wv253 := HI.t5 hI0
        rw [hv253] at wv253
        have tv253 := congrArg Int32.toInt hv253
        have x254 := HI.eqA hI243 (p := 233) (j := 5) ((((eA_c (hF244.2.1 233 ma_X11_tell_231_233)).trans (eA_c gA_sI)).trans hv253))
        obtain ⟨v255, hv255⟩ : ∃ v, eA g0 233 6 = v := ⟨_, rfl⟩
        have wv255 := HI.t6 hI0
        rw [hv255] at wv255
        have tv255 := congrArg Int32.toInt hv255
        have x256 := HI.eqA hI243 (p := 233) (j := 6) ((((eA_c (hF244.2.1 233 ma_X11_tell_231_233)).trans (eA_c gA_sI)).trans hv255))
        obtain ⟨v257, hv257⟩ : ∃ v, eA g0 233 1 = v := ⟨_, rfl⟩
        have tv257 := congrArg Int32.toInt hv257
        have wv257 := HI.t1 hI0
        rw [hv257] at wv257
        have tv257 := congrArg Int32.toInt hv257
        have x258 := HI.eqA hI243 (p := 233) (j := 1) ((((eA_c (hF244.2.1 233 ma_X11_tell_231_233)).trans (eA_c gA_sI)).trans hv257))
        obtain ⟨v259, hv259⟩ : ∃ v, eA g0 233 2 = v := ⟨_, rfl⟩
        have tv259 := congrArg Int32.toInt hv259
        have wv259 := HI.t2 hI0
        rw [hv259] at wv259
        have tv259 := congrArg Int32.toInt hv259
        have x260 := HI.eqA hI243 (p := 233) (j := 2) ((((eA_c (hF244.2.1 233 ma_X11_tell_231_233)).trans (eA_c gA_sI)).trans hv259))
        obtain ⟨v261, hv261⟩ : ∃ v, eA g0 233 3 = v := ⟨_, rfl⟩
        have wv261 := HI.t3 hI0
        rw [hv261] at wv261
        have tv261 := congrArg Int32.toInt hv261
        have x262 := HI.eqA hI243 (p := 233) (j := 3) ((((eA_c (hF244.2.1 233 ma_X11_tell_231_233)).trans (eA_c gA_sI)).trans hv261))
        have x263 := HI.eqA hI0 (p := 233) (j := 0) (hv249)
        have x264 := HI.eqA hI0 (p := 233) (j := 4) (hv251)
        have x265 := HI.eqA hI0 (p := 233) (j := 5) (hv253)
        have x266 := HI.eqA hI0 (p := 233) (j := 6) (hv255)
        have x267 := HI.eqA hI0 (p := 233) (j := 1) (hv257)
        have x268 := HI.eqA hI0 (p := 233) (j := 2) (hv259)
        have x269 := HI.eqA hI0 (p := 233) (j := 3) (hv261)
        have x270 := HI.eqA hI0 (p := 233) (j := 0) (hv249)
        obtain ⟨v271, hv271⟩ : ∃ v, gI g242 231 1 = v := ⟨_, rfl⟩
        have tv271 := congrArg Int32.toInt hv271
        exact ⟨_, rfl, hI243, hF247, _, rfl, by omega, ⟨⟨⟨by omega, by omega, by omega, by omega, by omega, by omega, by omega⟩, (by intro i i0 i1; refine Eq.trans ?_ (if_neg (show ¬ (((-1 ≤ a1.toInt ∧ a1.toInt ≤ 11 ∧ 1 ≤ a2.toInt ∧ a2.toInt ≤ 9 ∧ 0 ≤ a3.toInt ∧ a3.toInt ≤ 99) ∧ (eA g0 233 0).toInt < 12) ∧ i = 10 + 3 * (eA g0 233 0).toInt + 0) from by omega)).symm; refine Eq.trans ?_ (if_neg (show ¬ (((-1 ≤ a1.toInt ∧ a1.toInt ≤ 11 ∧ 1 ≤ a2.toInt ∧ a2.toInt ≤ 9 ∧ 0 ≤ a3.toInt ∧ a3.toInt ≤ 99) ∧ (eA g0 233 0).toInt < 12) ∧ i = 10 + 3 * (eA g0 233 0).toInt + 1) from by omega)).symm; refine Eq.trans ?_ (if_neg (show ¬ (((-1 ≤ a1.toInt ∧ a1.toInt ≤ 11 ∧ 1 ≤ a2.toInt ∧ a2.toInt ≤ 9 ∧ 0 ≤ a3.toInt ∧ a3.toInt ≤ 99) ∧ (eA g0 233 0).toInt < 12) ∧ i = 10 + 3 * (eA g0 233 0).toInt + 2) from by omega)).symm; refine (eA_ti (((hF244.2.1 233 ma_X11_tell_231_233).trans (gA_sI)))).trans ?_; (first | with_reducible rfl | omega | exact eA_ix (by omega) | rfl))⟩, (SU.mk (by omega))⟩⟩
      · have c241_ : v240.toInt ≥ 1 := en_j_lt_f c241
        refine At.enter rfl ?_
        refine r_lload_n rfl ?_
        refine r_lload rfl ?_
        refine r_lcmp _ rfl ?_
        refine r_ifs 13 rfl (fun c273 => ?_) (fun c273 => ?_)
        · have c273_ : v240.toInt > 9 := en_j_gt_t c273
          refine At.enter rfl ?_
          refine r_iconst 0 rfl ?_
          refine Ar.fall 18 rfl ?_
          refine At.enter rfl ?_
          refine q_iretz (by decide) ?_
          refine At.enter rfl ?_
          refine q_iretz (by decide) ?_
          refine At.enter rfl ?_
          refine r_ift (by decide) ?_
          refine At.enter rfl ?_
          refine r_aload_n rfl ?_
          refine r_iconst (-1) rfl ?_
          refine r_callV 34 rfl [.ref 231, .int (-1)] [] (Nat.le_of_ble_eq_true rfl) rfl (T_X11_tell_231 _ hI173 (-1) (by decide)) ?_
          rintro _ _ ⟨g274, rfl, hI275, hF276, v277, rfl, hr278⟩
          refine At.sti ?_
          have hF279 := Fr.tr hF174 hF276 rfl rfl
          have zv280 : ((-1) : Int32).toInt = (-1) := rfl
          refine At.enter rfl ?_
          refine r_ireti ?_
          obtain ⟨v281, hv281⟩ : ∃ v, eA g0 233 0 = v := ⟨_, rfl⟩
          have tv281 := congrArg Int32.toInt hv281
          have wv281 := HI.t0 hI0
          rw [hv281] at wv281
          have tv281 := congrArg Int32.toInt hv281
          have x282 := HI.eqA hI275 (p := 233) (j := 0) ((((eA_c (hF276.2.1 233 ma_X11_tell_231_233)).trans (eA_c gA_sI)).trans hv281))
          obtain ⟨v283, hv283⟩ : ∃ v, eA g0 233 4 = v := ⟨_, rfl⟩
          have wv283 := HI.t4 hI0
          rw [hv283] at wv283
          have tv283 := congrArg Int32.toInt hv283
          have x284 := HI.eqA hI275 (p := 233) (j := 4) ((((eA_c (hF276.2.1 233 ma_X11_tell_231_233)).trans (eA_c gA_sI)).trans hv283))
          obtain ⟨v285, hv285⟩ : ∃ v, eA g0 233 5 = v := ⟨_, rfl⟩
          have wv285 := HI.t5 hI0
          rw [hv285] at wv285
          have tv285 := congrArg Int32.toInt hv285
          have x286 := HI.eqA hI275 (p := 233) (j := 5) ((((eA_c (hF276.2.1 233 ma_X11_tell_231_233)).trans (eA_c gA_sI)).trans hv285))
          obtain ⟨v287, hv287⟩ : ∃ v, eA g0 233 6 = v := ⟨_, rfl⟩
          have wv287 := HI.t6 hI0
          rw [hv287] at wv287
          have tv287 := congrArg Int32.toInt hv287
          have x288 := HI.eqA hI275 (p := 233) (j := 6) ((((eA_c (hF276.2.1 233 ma_X11_tell_231_233)).trans (eA_c gA_sI)).trans hv287))
          obtain ⟨v289, hv289⟩ : ∃ v, eA g0 233 1 = v := ⟨_, rfl⟩
          have tv289 := congrArg Int32.toInt hv289
          have wv289 := HI.t1 hI0
          rw [hv289] at wv289
          have tv289 := congrArg Int32.toInt hv289
          have x290 := HI.eqA hI275 (p := 233) (j := 1) ((((eA_c (hF276.2.1 233 ma_X11_tell_231_233)).trans (eA_c gA_sI)).trans hv289))
          obtain ⟨v291, hv291⟩ : ∃ v, eA g0 233 2 = v := ⟨_, rfl⟩
          have tv291 := congrArg Int32.toInt hv291
          have wv291 := HI.t2 hI0
          rw [hv291] at wv291
          have tv291 := congrArg Int32.toInt hv291
          have x292 := HI.eqA hI275 (p := 233) (j := 2) ((((eA_c (hF276.2.1 233 ma_X11_tell_231_233)).trans (eA_c gA_sI)).trans hv291))
          obtain ⟨v293, hv293⟩ : ∃ v, eA g0 233 3 = v := ⟨_, rfl⟩
          have wv293 := HI.t3 hI0
          rw [hv293] at wv293
          have tv293 := congrArg Int32.toInt hv293
          have x294 := HI.eqA hI275 (p := 233) (j := 3) ((((eA_c (hF276.2.1 233 ma_X11_tell_231_233)).trans (eA_c gA_sI)).trans hv293))
          have x295 := HI.eqA hI0 (p := 233) (j := 0) (hv281)
          have x296 := HI.eqA hI0 (p := 233) (j := 4) (hv283)
          have x297 := HI.eqA hI0 (p := 233) (j := 5) (hv285)
          have x298 := HI.eqA hI0 (p := 233) (j := 6) (hv287)
          have x299 := HI.eqA hI0 (p := 233) (j := 1) (hv289)
          have x300 := HI.eqA hI0 (p := 233) (j := 2) (hv291)
          have x301 := HI.eqA hI0 (p := 233) (j := 3) (hv293)
          have x302 := HI.eqA hI0 (p := 233) (j := 0) (hv281)
          obtain ⟨v303, hv303⟩ : ∃ v, gI g274 231 1 = v := ⟨_, rfl⟩
          have tv303 := congrArg Int32.toInt hv303
          exact ⟨_, rfl, hI275, hF279, _, rfl, by omega, ⟨⟨⟨by omega, by omega, by omega, by omega, by omega, by omega, by omega⟩, (by intro i i0 i1; refine Eq.trans ?_ (if_neg (show ¬ (((-1 ≤ a1.toInt ∧ a1.toInt ≤ 11 ∧ 1 ≤ a2.toInt ∧ a2.toInt ≤ 9 ∧ 0 ≤ a3.toInt ∧ a3.toInt ≤ 99) ∧ (eA g0 233 0).toInt < 12) ∧ i = 10 + 3 * (eA g0 233 0).toInt + 0) from by omega)).symm; refine Eq.trans ?_ (if_neg (show ¬ (((-1 ≤ a1.toInt ∧ a1.toInt ≤ 11 ∧ 1 ≤ a2.toInt ∧ a2.toInt ≤ 9 ∧ 0 ≤ a3.toInt ∧ a3.toInt ≤ 99) ∧ (eA g0 233 0).toInt < 12) ∧ i = 10 + 3 * (eA g0 233 0).toInt + 1) from by omega)).symm; refine Eq.trans ?_ (if_neg (show ¬ (((-1 ≤ a1.toInt ∧ a1.toInt ≤ 11 ∧ 1 ≤ a2.toInt ∧ a2.toInt ≤ 9 ∧ 0 ≤ a3.toInt ∧ a3.toInt ≤ 99) ∧ (eA g0 233 0).toInt < 12) ∧ i = 10 + 3 * (eA g0 233 0).toInt + 2) from by omega)).symm; refine (eA_ti (((hF276.2.1 233 ma_X11_tell_231_233).trans (gA_sI)))).trans ?_; (first | with_reducible rfl | omega | exact eA_ix (by omega) | rfl))⟩, (SU.mk (by omega))⟩⟩
        · have c273_ : v240.toInt ≤ 9 := en_j_gt_f c273
          refine At.enter rfl ?_
          refine r_iconst 1 rfl ?_
          refine r_goto ?_
          refine At.enter rfl ?_
          refine q_iretz (by decide) ?_
          refine At.enter rfl ?_
          refine q_iretz (by decide) ?_
          refine At.enter rfl ?_
          refine r_iff 21 rfl (by decide) ?_
          refine At.enter rfl ?_
          refine r_iconst 2 rfl ?_
          refine r_iload_n rfl ?_
          refine q_inlS 26 rfl [.int 2, .int a3] [] (Nat.le_of_ble_eq_true rfl) rfl ?_
          refine Ev.mk rfl rfl ⟨Nat.le_of_ble_eq_true rfl, Or.inl rfl⟩ ?_
          show At _ none _ _ (0, [(0, .int 2), (1, .int a3)], [], (_, _)) _
          refine At.enter rfl ?_
          refine r_iload_n rfl ?_
          refine r_tsw 50 rfl ?_
          refine At.enter rfl ?_
          refine r_iload_n rfl ?_
          refine q_i2l (fun v305 hv305 => ?_)
          refine r_lconst 0 rfl ?_
          refine r_ldc2 99 rfl ?_
          refine q_inlS 59 rfl [.long v305, .long 0, .long 99] [] (Nat.le_of_ble_eq_true rfl) rfl ?_
          refine Ev.mk rfl rfl ⟨Nat.le_of_ble_eq_true rfl, Or.inl rfl⟩ ?_
          show At _ none _ _ (0, [(0, .long v305), (2, .long 0), (4, .long 99)], [], (_, _)) _
          refine At.enter rfl ?_
          refine r_lload_n rfl ?_
          refine r_lload_n rfl ?_
          refine r_lcmp _ rfl ?_
          refine r_ifs 6 rfl (fun c306 => ?_) (fun c306 => ?_)
          · have c306_ : v305.toInt < 0 := en_j_lt_t c306
            refine At.enter rfl ?_
            refine r_iconst 0 rfl ?_
            refine Ar.fall 18 rfl ?_
            refine At.enter rfl ?_
            refine q_iretz (by decide) ?_
            refine At.enter rfl ?_
            refine q_iretz (by decide) ?_
            refine At.enter rfl ?_
            refine r_iff 29 rfl (by decide) ?_
            refine At.enter rfl ?_
            refine r_aload_n rfl ?_
            refine r_iconst (-1) rfl ?_
            refine r_callV 34 rfl [.ref 231, .int (-1)] [] (Nat.le_of_ble_eq_true rfl) rfl (T_X11_tell_231 _ hI173 (-1) (by decide)) ?_
            rintro _ _ ⟨g307, rfl, hI308, hF309, v310, rfl, hr311⟩
            refine At.sti ?_
            have hF312 := Fr.tr hF174 hF309 rfl rfl
            have zv313 : ((-1) : Int32).toInt = (-1) := rfl
            refine At.enter rfl ?_
            refine r_ireti ?_
            obtain ⟨v314, hv314⟩ : ∃ v, eA g0 233 0 = v := ⟨_, rfl⟩
            have tv314 := congrArg Int32.toInt hv314
            have wv314 := HI.t0 hI0
            rw [hv314] at wv314
            have tv314 := congrArg Int32.toInt hv314
            have x315 := HI.eqA hI308 (p := 233) (j := 0) ((((eA_c (hF309.2.1 233 ma_X11_tell_231_233)).trans (eA_c gA_sI)).trans hv314))
            obtain ⟨v316, hv316⟩ : ∃ v, eA g0 233 4 = v := ⟨_, rfl⟩
            have wv316 := HI.t4 hI0
            rw [hv316] at wv316
            have tv316 := congrArg Int32.toInt hv316
            have x317 := HI.eqA hI308 (p := 233) (j := 4) ((((eA_c (hF309.2.1 233 ma_X11_tell_231_233)).trans (eA_c gA_sI)).trans hv316))
            obtain ⟨v318, hv318⟩ : ∃ v, eA g0 233 5 = v := ⟨_, rfl⟩
            have wv318 := HI.t5 hI0
            rw [hv318] at wv318
            have tv318 := congrArg Int32.toInt hv318
            have x319 := HI.eqA hI308 (p := 233) (j := 5) ((((eA_c (hF309.2.1 233 ma_X11_tell_231_233)).trans (eA_c gA_sI)).trans hv318))
            obtain ⟨v320, hv320⟩ : ∃ v, eA g0 233 6 = v := ⟨_, rfl⟩
            have wv320 := HI.t6 hI0
            rw [hv320] at wv320
            have tv320 := congrArg Int32.toInt hv320
            have x321 := HI.eqA hI308 (p := 233) (j := 6) ((((eA_c (hF309.2.1 233 ma_X11_tell_231_233)).trans (eA_c gA_sI)).trans hv320))
            obtain ⟨v322, hv322⟩ : ∃ v, eA g0 233 1 = v := ⟨_, rfl⟩
            have tv322 := congrArg Int32.toInt hv322
            have wv322 := HI.t1 hI0
            rw [hv322] at wv322
            have tv322 := congrArg Int32.toInt hv322
            have x323 := HI.eqA hI308 (p := 233) (j := 1) ((((eA_c (hF309.2.1 233 ma_X11_tell_231_233)).trans (eA_c gA_sI)).trans hv322))
            obtain ⟨v324, hv324⟩ : ∃ v, eA g0 233 2 = v := ⟨_, rfl⟩
            have tv324 := congrArg Int32.toInt hv324
            have wv324 := HI.t2 hI0
            rw [hv324] at wv324
            have tv324 := congrArg Int32.toInt hv324
            have x325 := HI.eqA hI308 (p := 233) (j := 2) ((((eA_c (hF309.2.1 233 ma_X11_tell_231_233)).trans (eA_c gA_sI)).trans hv324))
            obtain ⟨v326, hv326⟩ : ∃ v, eA g0 233 3 = v := ⟨_, rfl⟩
            have wv326 := HI.t3 hI0
            rw [hv326] at wv326
            have tv326 := congrArg Int32.toInt hv326
            have x327 := HI.eqA hI308 (p := 233) (j := 3) ((((eA_c (hF309.2.1 233 ma_X11_tell_231_233)).trans (eA_c gA_sI)).trans hv326))
            have x328 := HI.eqA hI0 (p := 233) (j := 0) (hv314)
            have x329 := HI.eqA hI0 (p := 233) (j := 4) (hv316)
            have x330 := HI.eqA hI0 (p := 233) (j := 5) (hv318)
            have x331 := HI.eqA hI0 (p := 233) (j := 6) (hv320)
            have x332 := HI.eqA hI0 (p := 233) (j := 1) (hv322)
            have x333 := HI.eqA hI0 (p := 233) (j := 2) (hv324)
            have x334 := HI.eqA hI0 (p := 233) (j := 3) (hv326)
            have x335 := HI.eqA hI0 (p := 233) (j := 0) (hv314)
            obtain ⟨v336, hv336⟩ : ∃ v, gI g307 231 1 = v := ⟨_, rfl⟩
            have tv336 := congrArg Int32.toInt hv336
            exact ⟨_, rfl, hI308, hF312, _, rfl, by omega, ⟨⟨⟨by omega, by omega, by omega, by omega, by omega, by omega, by omega⟩, (by intro i i0 i1; refine Eq.trans ?_ (if_neg (show ¬ (((-1 ≤ a1.toInt ∧ a1.toInt ≤ 11 ∧ 1 ≤ a2.toInt ∧ a2.toInt ≤ 9 ∧ 0 ≤ a3.toInt ∧ a3.toInt ≤ 99) ∧ (eA g0 233 0).toInt < 12) ∧ i = 10 + 3 * (eA g0 233 0).toInt + 0) from by omega)).symm; refine Eq.trans ?_ (if_neg (show ¬ (((-1 ≤ a1.toInt ∧ a1.toInt ≤ 11 ∧ 1 ≤ a2.toInt ∧ a2.toInt ≤ 9 ∧ 0 ≤ a3.toInt ∧ a3.toInt ≤ 99) ∧ (eA g0 233 0).toInt < 12) ∧ i = 10 + 3 * (eA g0 233 0).toInt + 1) from by omega)).symm; refine Eq.trans ?_ (if_neg (show ¬ (((-1 ≤ a1.toInt ∧ a1.toInt ≤ 11 ∧ 1 ≤ a2.toInt ∧ a2.toInt ≤ 9 ∧ 0 ≤ a3.toInt ∧ a3.toInt ≤ 99) ∧ (eA g0 233 0).toInt < 12) ∧ i = 10 + 3 * (eA g0 233 0).toInt + 2) from by omega)).symm; refine (eA_ti (((hF309.2.1 233 ma_X11_tell_231_233).trans (gA_sI)))).trans ?_; (first | with_reducible rfl | omega | exact eA_ix (by omega) | rfl))⟩, (SU.mk (by omega))⟩⟩
          · have c306_ : v305.toInt ≥ 0 := en_j_lt_f c306
            refine At.enter rfl ?_
            refine r_lload_n rfl ?_
            refine r_lload rfl ?_
            refine r_lcmp _ rfl ?_
            refine r_ifs 13 rfl (fun c338 => ?_) (fun c338 => ?_)
            · have c338_ : v305.toInt > 99 := en_j_gt_t c338
              refine At.enter rfl ?_
              refine r_iconst 0 rfl ?_
              refine Ar.fall 18 rfl ?_
              refine At.enter rfl ?_
              refine q_iretz (by decide) ?_
              refine At.enter rfl ?_
              refine q_iretz (by decide) ?_
              refine At.enter rfl ?_
              refine r_iff 29 rfl (by decide) ?_
              refine At.enter rfl ?_
              refine r_aload_n rfl ?_
              refine r_iconst (-1) rfl ?_
              refine r_callV 34 rfl [.ref 231, .int (-1)] [] (Nat.le_of_ble_eq_true rfl) rfl (T_X11_tell_231 _ hI173 (-1) (by decide)) ?_
              rintro _ _ ⟨g339, rfl, hI340, hF341, v342, rfl, hr343⟩
              refine At.sti ?_
              have hF344 := Fr.tr hF174 hF341 rfl rfl
              have zv345 : ((-1) : Int32).toInt = (-1) := rfl
              refine At.enter rfl ?_
              refine r_ireti ?_
              obtain ⟨v346, hv346⟩ : ∃ v, eA g0 233 0 = v := ⟨_, rfl⟩
              have tv346 := congrArg Int32.toInt hv346
              have wv346 := HI.t0 hI0
              rw [hv346] at wv346
              have tv346 := congrArg Int32.toInt hv346
              have x347 := HI.eqA hI340 (p := 233) (j := 0) ((((eA_c (hF341.2.1 233 ma_X11_tell_231_233)).trans (eA_c gA_sI)).trans hv346))
              obtain ⟨v348, hv348⟩ : ∃ v, eA g0 233 4 = v := ⟨_, rfl⟩
              have wv348 := HI.t4 hI0
              rw [hv348] at wv348
              have tv348 := congrArg Int32.toInt hv348
              have x349 := HI.eqA hI340 (p := 233) (j := 4) ((((eA_c (hF341.2.1 233 ma_X11_tell_231_233)).trans (eA_c gA_sI)).trans hv348))
              obtain ⟨v350, hv350⟩ : ∃ v, eA g0 233 5 = v := ⟨_, rfl⟩
              have wv350 := HI.t5 hI0
              rw [hv350] at wv350
              have tv350 := congrArg Int32.toInt hv350
              have x351 := HI.eqA hI340 (p := 233) (j := 5) ((((eA_c (hF341.2.1 233 ma_X11_tell_231_233)).trans (eA_c gA_sI)).trans hv350))
              obtain ⟨v352, hv352⟩ : ∃ v, eA g0 233 6 = v := ⟨_, rfl⟩
              have wv352 := HI.t6 hI0
              rw [hv352] at wv352
              have tv352 := congrArg Int32.toInt hv352
              have x353 := HI.eqA hI340 (p := 233) (j := 6) ((((eA_c (hF341.2.1 233 ma_X11_tell_231_233)).trans (eA_c gA_sI)).trans hv352))
              obtain ⟨v354, hv354⟩ : ∃ v, eA g0 233 1 = v := ⟨_, rfl⟩
              have tv354 := congrArg Int32.toInt hv354
              have wv354 := HI.t1 hI0
              rw [hv354] at wv354
              have tv354 := congrArg Int32.toInt hv354
              have x355 := HI.eqA hI340 (p := 233) (j := 1) ((((eA_c (hF341.2.1 233 ma_X11_tell_231_233)).trans (eA_c gA_sI)).trans hv354))
              obtain ⟨v356, hv356⟩ : ∃ v, eA g0 233 2 = v := ⟨_, rfl⟩
              have tv356 := congrArg Int32.toInt hv356
              have wv356 := HI.t2 hI0
              rw [hv356] at wv356
              have tv356 := congrArg Int32.toInt hv356
              have x357 := HI.eqA hI340 (p := 233) (j := 2) ((((eA_c (hF341.2.1 233 ma_X11_tell_231_233)).trans (eA_c gA_sI)).trans hv356))
              obtain ⟨v358, hv358⟩ : ∃ v, eA g0 233 3 = v := ⟨_, rfl⟩
              have wv358 := HI.t3 hI0
              rw [hv358] at wv358
              have tv358 := congrArg Int32.toInt hv358
              have x359 := HI.eqA hI340 (p := 233) (j := 3) ((((eA_c (hF341.2.1 233 ma_X11_tell_231_233)).trans (eA_c gA_sI)).trans hv358))
              have x360 := HI.eqA hI0 (p := 233) (j := 0) (hv346)
              have x361 := HI.eqA hI0 (p := 233) (j := 4) (hv348)
              have x362 := HI.eqA hI0 (p := 233) (j := 5) (hv350)
              have x363 := HI.eqA hI0 (p := 233) (j := 6) (hv352)
              have x364 := HI.eqA hI0 (p := 233) (j := 1) (hv354)
              have x365 := HI.eqA hI0 (p := 233) (j := 2) (hv356)
              have x366 := HI.eqA hI0 (p := 233) (j := 3) (hv358)
              have x367 := HI.eqA hI0 (p := 233) (j := 0) (hv346)
              obtain ⟨v368, hv368⟩ : ∃ v, gI g339 231 1 = v := ⟨_, rfl⟩
              have tv368 := congrArg Int32.toInt hv368
              exact ⟨_, rfl, hI340, hF344, _, rfl, by omega, ⟨⟨⟨by omega, by omega, by omega, by omega, by omega, by omega, by omega⟩, (by intro i i0 i1; refine Eq.trans ?_ (if_neg (show ¬ (((-1 ≤ a1.toInt ∧ a1.toInt ≤ 11 ∧ 1 ≤ a2.toInt ∧ a2.toInt ≤ 9 ∧ 0 ≤ a3.toInt ∧ a3.toInt ≤ 99) ∧ (eA g0 233 0).toInt < 12) ∧ i = 10 + 3 * (eA g0 233 0).toInt + 0) from by omega)).symm; refine Eq.trans ?_ (if_neg (show ¬ (((-1 ≤ a1.toInt ∧ a1.toInt ≤ 11 ∧ 1 ≤ a2.toInt ∧ a2.toInt ≤ 9 ∧ 0 ≤ a3.toInt ∧ a3.toInt ≤ 99) ∧ (eA g0 233 0).toInt < 12) ∧ i = 10 + 3 * (eA g0 233 0).toInt + 1) from by omega)).symm; refine Eq.trans ?_ (if_neg (show ¬ (((-1 ≤ a1.toInt ∧ a1.toInt ≤ 11 ∧ 1 ≤ a2.toInt ∧ a2.toInt ≤ 9 ∧ 0 ≤ a3.toInt ∧ a3.toInt ≤ 99) ∧ (eA g0 233 0).toInt < 12) ∧ i = 10 + 3 * (eA g0 233 0).toInt + 2) from by omega)).symm; refine (eA_ti (((hF341.2.1 233 ma_X11_tell_231_233).trans (gA_sI)))).trans ?_; (first | with_reducible rfl | omega | exact eA_ix (by omega) | rfl))⟩, (SU.mk (by omega))⟩⟩
            · have c338_ : v305.toInt ≤ 99 := en_j_gt_f c338
              refine At.enter rfl ?_
              refine r_iconst 1 rfl ?_
              refine r_goto ?_
              refine At.enter rfl ?_
              refine q_iretz (by decide) ?_
              refine At.enter rfl ?_
              refine q_iretz (by decide) ?_
              refine At.enter rfl ?_
              refine r_ift (by decide) ?_
              refine At.enter rfl ?_
              refine r_aload_n rfl ?_
              refine q_getR (Sh.ref hI173.1 kx_231 rfl) ?_
              refine r_iconst 0 rfl ?_
              obtain ⟨v370, hv370⟩ : ∃ v, eA g0 233 0 = v := ⟨_, rfl⟩
              have tv370 := congrArg Int32.toInt hv370
              have wv370 := HI.t0 hI0
              rw [hv370] at wv370
              refine q_iald (Sh.arr hI173.1 ka_233) 0 rfl (by decide) v370 ((eA_c (gA_sI)).trans hv370) ?_
              refine r_istore ([(4, .int v370), (0, .ref 231), (1, .int a1), (2, .int a2), (3, .int a3)]) rfl ?_
              refine r_iload rfl ?_
              refine r_bipush 12 rfl ?_
              refine r_ics 50 rfl (fun c371 => ?_) (fun c371 => ?_)
              · have c371_ : v370.toInt ≠ 12 := en_i_ne_t c371
                refine At.enter rfl ?_
                refine r_aload_n rfl ?_
                refine q_getR (Sh.ref hI173.1 kx_231 rfl) ?_
                refine r_bipush 10 rfl ?_
                refine r_iconst 3 rfl ?_
                refine r_iload rfl ?_
                refine q_imul (3 * v370.toInt) rfl (by omega) (fun v372 hv372 => ?_)
                refine q_iadd (10 + v372.toInt) rfl (by omega) (fun v373 hv373 => ?_)
                refine r_iload_n rfl ?_
                refine q_iast (Sh.arr hI173.1 ka_233) ((3 * v370.toInt + 10)) (by omega) (by omega) ?_
                have hI374 := HI.ws hI173 (j := (3 * v370.toInt + 10)) (v := a1) (v370.toInt) 0 (by omega) (by decide) (by omega) (by omega)
                have hF375 := Fr.wA (p := 233) (j := (3 * v370.toInt + 10)) (v := a1) hF174 rfl
                refine r_aload_n rfl ?_
                refine q_getR (Sh.ref hI374.1 kx_231 rfl) ?_
                refine r_bipush 10 rfl ?_
                refine r_iconst 3 rfl ?_
                refine r_iload rfl ?_
                refine q_imul (3 * v370.toInt) rfl (by omega) (fun v376 hv376 => ?_)
                refine q_iadd (10 + v376.toInt) rfl (by omega) (fun v377 hv377 => ?_)
                refine r_iconst 1 rfl ?_
                refine q_iadd (v377.toInt + 1) rfl (by omega) (fun v378 hv378 => ?_)
                refine r_iload_n rfl ?_
                refine q_iast (Sh.arr hI374.1 ka_233) ((3 * v370.toInt + 11)) (by omega) (by omega) ?_
                have hI379 := HI.ws hI374 (j := (3 * v370.toInt + 11)) (v := a2) (v370.toInt) 1 (by omega) (by decide) (by omega) (by omega)
                have hF380 := Fr.wA (p := 233) (j := (3 * v370.toInt + 11)) (v := a2) hF375 rfl
                refine r_aload_n rfl ?_
                refine q_getR (Sh.ref hI379.1 kx_231 rfl) ?_
                refine r_bipush 10 rfl ?_
                refine r_iconst 3 rfl ?_
                refine r_iload rfl ?_
                refine q_imul (3 * v370.toInt) rfl (by omega) (fun v381 hv381 => ?_)
                refine q_iadd (10 + v381.toInt) rfl (by omega) (fun v382 hv382 => ?_)
                refine r_iconst 2 rfl ?_
                refine q_iadd (v382.toInt + 2) rfl (by omega) (fun v383 hv383 => ?_)
                refine r_iload_n rfl ?_
                refine q_iast (Sh.arr hI379.1 ka_233) ((3 * v370.toInt + 12)) (by omega) (by omega) ?_
                have hI384 := HI.ws hI379 (j := (3 * v370.toInt + 12)) (v := a3) (v370.toInt) 2 (by omega) (by decide) (by omega) (by omega)
                have hF385 := Fr.wA (p := 233) (j := (3 * v370.toInt + 12)) (v := a3) hF380 rfl
                refine r_aload_n rfl ?_
                refine q_getR (Sh.ref hI384.1 kx_231 rfl) ?_
                refine r_iconst 0 rfl ?_
                refine r_dup2 ⟨rfl, rfl⟩ ?_
                refine q_iald (Sh.arr hI384.1 ka_233) 0 rfl (by decide) v370 (((eA_sA_ne hI379.1 ka_233 (by first | decide | omega) (by first | decide | omega) (by first | decide | omega)).trans ((eA_sA_ne hI374.1 ka_233 (by first | decide | omega) (by first | decide | omega) (by first | decide | omega)).trans ((eA_sA_ne hI173.1 ka_233 (by first | decide | omega) (by first | decide | omega) (by first | decide | omega)).trans (eA_c gA_sI)))).trans hv370) ?_
                refine r_iconst 1 rfl ?_
                refine q_iadd (v370.toInt + 1) rfl (by omega) (fun v386 hv386 => ?_)
                refine q_iast (Sh.arr hI384.1 ka_233) (0) rfl (by decide) ?_
                have x389 := HI.eqA hI384 (p := 233) (j := 0) ((((eA_sA_ne hI379.1 ka_233 (by first | decide | omega) (by first | decide | omega) (by first | decide | omega)).trans ((eA_sA_ne hI374.1 ka_233 (by first | decide | omega) (by first | decide | omega) (by first | decide | omega)).trans ((eA_sA_ne hI173.1 ka_233 (by first | decide | omega) (by first | decide | omega) (by first | decide | omega)).trans (eA_c gA_sI)))).trans hv370))
                have hI387 := HI.wt0 hI384 (v := v386) (by rw [(((eA_sA_ne hI379.1 ka_233 (by first | decide | omega) (by first | decide | omega) (by first | decide | omega)).trans ((eA_sA_ne hI374.1 ka_233 (by first | decide | omega) (by first | decide | omega) (by first | decide | omega)).trans ((eA_sA_ne hI173.1 ka_233 (by first | decide | omega) (by first | decide | omega) (by first | decide | omega)).trans (eA_c gA_sI)))).trans hv370)]; omega) (by omega) (i := (3 * v370.toInt + 11)) (by rw [(((eA_sA_ne hI379.1 ka_233 (by first | decide | omega) (by first | decide | omega) (by first | decide | omega)).trans ((eA_sA_ne hI374.1 ka_233 (by first | decide | omega) (by first | decide | omega) (by first | decide | omega)).trans ((eA_sA_ne hI173.1 ka_233 (by first | decide | omega) (by first | decide | omega) (by first | decide | omega)).trans (eA_c gA_sI)))).trans hv370)]; omega) (by rw [((eA_sA_ne hI379.1 ka_233 (by first | decide | omega) (by first | decide | omega) (by first | decide | omega)).trans (eA_sA_eq hI374.1 ka_233 (by first | rfl | omega) (by first | decide | omega) (by first | decide | omega)))]; omega)
                have hF388 := Fr.wA (p := 233) (j := 0) (v := v386) hF385 rfl
                refine r_aload_n rfl ?_
                refine r_iload rfl ?_
                refine r_callV 116 rfl [.ref 231, .int v370] [] (Nat.le_of_ble_eq_true rfl) rfl (T_X11_tell_231 _ hI387 v370 (by omega)) ?_
                rintro _ _ ⟨g390, rfl, hI391, hF392, v393, rfl, hr394⟩
                refine At.sti ?_
                have hF395 := Fr.tr hF388 hF392 rfl rfl
                refine At.enter rfl ?_
                refine r_ireti ?_
                have x396 := HI.eqA hI391 (p := 233) (j := 0) (((eA_c (hF392.2.1 233 ma_X11_tell_231_233)).trans (eA_sA_eq hI384.1 ka_233 (by first | rfl | omega) (by first | decide | omega) (by first | decide | omega))))
                obtain ⟨v397, hv397⟩ : ∃ v, eA g0 233 4 = v := ⟨_, rfl⟩
                have wv397 := HI.t4 hI0
                rw [hv397] at wv397
                have tv397 := congrArg Int32.toInt hv397
                have x398 := HI.eqA hI391 (p := 233) (j := 4) ((((eA_c (hF392.2.1 233 ma_X11_tell_231_233)).trans ((eA_sA_ne hI384.1 ka_233 (by first | decide | omega) (by first | decide | omega) (by first | decide | omega)).trans ((eA_sA_ne hI379.1 ka_233 (by first | decide | omega) (by first | decide | omega) (by first | decide | omega)).trans ((eA_sA_ne hI374.1 ka_233 (by first | decide | omega) (by first | decide | omega) (by first | decide | omega)).trans ((eA_sA_ne hI173.1 ka_233 (by first | decide | omega) (by first | decide | omega) (by first | decide | omega)).trans (eA_c gA_sI)))))).trans hv397))
                obtain ⟨v399, hv399⟩ : ∃ v, eA g0 233 5 = v := ⟨_, rfl⟩
                have wv399 := HI.t5 hI0
                rw [hv399] at wv399
                have tv399 := congrArg Int32.toInt hv399
                have x400 := HI.eqA hI391 (p := 233) (j := 5) ((((eA_c (hF392.2.1 233 ma_X11_tell_231_233)).trans ((eA_sA_ne hI384.1 ka_233 (by first | decide | omega) (by first | decide | omega) (by first | decide | omega)).trans ((eA_sA_ne hI379.1 ka_233 (by first | decide | omega) (by first | decide | omega) (by first | decide | omega)).trans ((eA_sA_ne hI374.1 ka_233 (by first | decide | omega) (by first | decide | omega) (by first | decide | omega)).trans ((eA_sA_ne hI173.1 ka_233 (by first | decide | omega) (by first | decide | omega) (by first | decide | omega)).trans (eA_c gA_sI)))))).trans hv399))
                obtain ⟨v401, hv401⟩ : ∃ v, eA g0 233 6 = v := ⟨_, rfl⟩
                have wv401 := HI.t6 hI0
                rw [hv401] at wv401
                have tv401 := congrArg Int32.toInt hv401
                have x402 := HI.eqA hI391 (p := 233) (j := 6) ((((eA_c (hF392.2.1 233 ma_X11_tell_231_233)).trans ((eA_sA_ne hI384.1 ka_233 (by first | decide | omega) (by first | decide | omega) (by first | decide | omega)).trans ((eA_sA_ne hI379.1 ka_233 (by first | decide | omega) (by first | decide | omega) (by first | decide | omega)).trans ((eA_sA_ne hI374.1 ka_233 (by first | decide | omega) (by first | decide | omega) (by first | decide | omega)).trans ((eA_sA_ne hI173.1 ka_233 (by first | decide | omega) (by first | decide | omega) (by first | decide | omega)).trans (eA_c gA_sI)))))).trans hv401))
                obtain ⟨v403, hv403⟩ : ∃ v, eA g0 233 1 = v := ⟨_, rfl⟩
                have tv403 := congrArg Int32.toInt hv403
                have wv403 := HI.t1 hI0
                rw [hv403] at wv403
                have tv403 := congrArg Int32.toInt hv403
                have x404 := HI.eqA hI391 (p := 233) (j := 1) ((((eA_c (hF392.2.1 233 ma_X11_tell_231_233)).trans ((eA_sA_ne hI384.1 ka_233 (by first | decide | omega) (by first | decide | omega) (by first | decide | omega)).trans ((eA_sA_ne hI379.1 ka_233 (by first | decide | omega) (by first | decide | omega) (by first | decide | omega)).trans ((eA_sA_ne hI374.1 ka_233 (by first | decide | omega) (by first | decide | omega) (by first | decide | omega)).trans ((eA_sA_ne hI173.1 ka_233 (by first | decide | omega) (by first | decide | omega) (by first | decide | omega)).trans (eA_c gA_sI)))))).trans hv403))
                obtain ⟨v405, hv405⟩ : ∃ v, eA g0 233 2 = v := ⟨_, rfl⟩
                have tv405 := congrArg Int32.toInt hv405
                have wv405 := HI.t2 hI0
                rw [hv405] at wv405
                have tv405 := congrArg Int32.toInt hv405
                have x406 := HI.eqA hI391 (p := 233) (j := 2) ((((eA_c (hF392.2.1 233 ma_X11_tell_231_233)).trans ((eA_sA_ne hI384.1 ka_233 (by first | decide | omega) (by first | decide | omega) (by first | decide | omega)).trans ((eA_sA_ne hI379.1 ka_233 (by first | decide | omega) (by first | decide | omega) (by first | decide | omega)).trans ((eA_sA_ne hI374.1 ka_233 (by first | decide | omega) (by first | decide | omega) (by first | decide | omega)).trans ((eA_sA_ne hI173.1 ka_233 (by first | decide | omega) (by first | decide | omega) (by first | decide | omega)).trans (eA_c gA_sI)))))).trans hv405))
                obtain ⟨v407, hv407⟩ : ∃ v, eA g0 233 3 = v := ⟨_, rfl⟩
                have wv407 := HI.t3 hI0
                rw [hv407] at wv407
                have tv407 := congrArg Int32.toInt hv407
                have x408 := HI.eqA hI391 (p := 233) (j := 3) ((((eA_c (hF392.2.1 233 ma_X11_tell_231_233)).trans ((eA_sA_ne hI384.1 ka_233 (by first | decide | omega) (by first | decide | omega) (by first | decide | omega)).trans ((eA_sA_ne hI379.1 ka_233 (by first | decide | omega) (by first | decide | omega) (by first | decide | omega)).trans ((eA_sA_ne hI374.1 ka_233 (by first | decide | omega) (by first | decide | omega) (by first | decide | omega)).trans ((eA_sA_ne hI173.1 ka_233 (by first | decide | omega) (by first | decide | omega) (by first | decide | omega)).trans (eA_c gA_sI)))))).trans hv407))
                have x409 := HI.eqA hI0 (p := 233) (j := 0) (hv370)
                have x410 := HI.eqA hI0 (p := 233) (j := 4) (hv397)
                have x411 := HI.eqA hI0 (p := 233) (j := 5) (hv399)
                have x412 := HI.eqA hI0 (p := 233) (j := 6) (hv401)
                have x413 := HI.eqA hI0 (p := 233) (j := 1) (hv403)
                have x414 := HI.eqA hI0 (p := 233) (j := 2) (hv405)
                have x415 := HI.eqA hI0 (p := 233) (j := 3) (hv407)
                have x416 := HI.eqA hI0 (p := 233) (j := 0) (hv370)
                obtain ⟨v417, hv417⟩ : ∃ v, gI g390 231 1 = v := ⟨_, rfl⟩
                have tv417 := congrArg Int32.toInt hv417
                exact ⟨_, rfl, hI391, hF395, _, rfl, by omega, ⟨⟨⟨by omega, by omega, by omega, by omega, by omega, by omega, by omega⟩, (by intro i i0 i1; exact (Decidable.em (((-1 ≤ a1.toInt ∧ a1.toInt ≤ 11 ∧ 1 ≤ a2.toInt ∧ a2.toInt ≤ 9 ∧ 0 ≤ a3.toInt ∧ a3.toInt ≤ 99) ∧ (eA g0 233 0).toInt < 12) ∧ i = 10 + 3 * (eA g0 233 0).toInt + 0)).elim (fun k143_ => by refine Eq.trans ?_ (if_pos k143_).symm; refine (eA_ti ((hF392.2.1 233 ma_X11_tell_231_233))).trans ?_; exact (Decidable.em (i = 0)).elim (fun k144_ => by refine (eA_eqT hI384.1 ka_233 k144_ (by first | decide | omega) (by first | decide | omega)).trans ?_; (first | (with_reducible rfl) | (omega) | (rfl))) (fun k144_ => by refine (eA_neT hI384.1 ka_233 k144_ (by first | decide | omega) (by omega)).trans ?_; exact (Decidable.em (i = (3 * v370.toInt + 12))).elim (fun k145_ => by refine (eA_eqT hI379.1 ka_233 k145_ (by first | decide | omega) (by first | decide | omega)).trans ?_; (first | (with_reducible rfl) | (omega) | (rfl))) (fun k145_ => by refine (eA_neT hI379.1 ka_233 k145_ (by first | decide | omega) (by omega)).trans ?_; exact (Decidable.em (i = (3 * v370.toInt + 11))).elim (fun k146_ => by refine (eA_eqT hI374.1 ka_233 k146_ (by first | decide | omega) (by first | decide | omega)).trans ?_; (first | (with_reducible rfl) | (omega) | (rfl))) (fun k146_ => by refine (eA_neT hI374.1 ka_233 k146_ (by first | decide | omega) (by omega)).trans ?_; exact (Decidable.em (i = (3 * v370.toInt + 10))).elim (fun k147_ => by refine (eA_eqT hI173.1 ka_233 k147_ (by first | decide | omega) (by first | decide | omega)).trans ?_; (first | (with_reducible rfl) | (omega) | (rfl))) (fun k147_ => by refine (eA_neT hI173.1 ka_233 k147_ (by first | decide | omega) (by omega)).trans ?_; refine (eA_ti ((gA_sI))).trans ?_; (first | with_reducible rfl | omega | exact eA_ix (by omega) | rfl)))))) (fun k143_ => by refine Eq.trans ?_ (if_neg k143_).symm; exact (Decidable.em (((-1 ≤ a1.toInt ∧ a1.toInt ≤ 11 ∧ 1 ≤ a2.toInt ∧ a2.toInt ≤ 9 ∧ 0 ≤ a3.toInt ∧ a3.toInt ≤ 99) ∧ (eA g0 233 0).toInt < 12) ∧ i = 10 + 3 * (eA g0 233 0).toInt + 1)).elim (fun k148_ => by refine Eq.trans ?_ (if_pos k148_).symm; refine (eA_ti ((hF392.2.1 233 ma_X11_tell_231_233))).trans ?_; exact (Decidable.em (i = 0)).elim (fun k149_ => by refine (eA_eqT hI384.1 ka_233 k149_ (by first | decide | omega) (by first | decide | omega)).trans ?_; (first | (with_reducible rfl) | (omega) | (rfl))) (fun k149_ => by refine (eA_neT hI384.1 ka_233 k149_ (by first | decide | omega) (by omega)).trans ?_; exact (Decidable.em (i = (3 * v370.toInt + 12))).elim (fun k150_ => by refine (eA_eqT hI379.1 ka_233 k150_ (by first | decide | omega) (by first | decide | omega)).trans ?_; (first | (with_reducible rfl) | (omega) | (rfl))) (fun k150_ => by refine (eA_neT hI379.1 ka_233 k150_ (by first | decide | omega) (by omega)).trans ?_; exact (Decidable.em (i = (3 * v370.toInt + 11))).elim (fun k151_ => by refine (eA_eqT hI374.1 ka_233 k151_ (by first | decide | omega) (by first | decide | omega)).trans ?_; (first | (with_reducible rfl) | (omega) | (rfl))) (fun k151_ => by refine (eA_neT hI374.1 ka_233 k151_ (by first | decide | omega) (by omega)).trans ?_; exact (Decidable.em (i = (3 * v370.toInt + 10))).elim (fun k152_ => by refine (eA_eqT hI173.1 ka_233 k152_ (by first | decide | omega) (by first | decide | omega)).trans ?_; (first | (with_reducible rfl) | (omega) | (rfl))) (fun k152_ => by refine (eA_neT hI173.1 ka_233 k152_ (by first | decide | omega) (by omega)).trans ?_; refine (eA_ti ((gA_sI))).trans ?_; (first | with_reducible rfl | omega | exact eA_ix (by omega) | rfl)))))) (fun k148_ => by refine Eq.trans ?_ (if_neg k148_).symm; exact (Decidable.em (((-1 ≤ a1.toInt ∧ a1.toInt ≤ 11 ∧ 1 ≤ a2.toInt ∧ a2.toInt ≤ 9 ∧ 0 ≤ a3.toInt ∧ a3.toInt ≤ 99) ∧ (eA g0 233 0).toInt < 12) ∧ i = 10 + 3 * (eA g0 233 0).toInt + 2)).elim (fun k153_ => by refine Eq.trans ?_ (if_pos k153_).symm; refine (eA_ti ((hF392.2.1 233 ma_X11_tell_231_233))).trans ?_; exact (Decidable.em (i = 0)).elim (fun k154_ => by refine (eA_eqT hI384.1 ka_233 k154_ (by first | decide | omega) (by first | decide | omega)).trans ?_; (first | (with_reducible rfl) | (omega) | (rfl))) (fun k154_ => by refine (eA_neT hI384.1 ka_233 k154_ (by first | decide | omega) (by omega)).trans ?_; exact (Decidable.em (i = (3 * v370.toInt + 12))).elim (fun k155_ => by refine (eA_eqT hI379.1 ka_233 k155_ (by first | decide | omega) (by first | decide | omega)).trans ?_; (first | (with_reducible rfl) | (omega) | (rfl))) (fun k155_ => by refine (eA_neT hI379.1 ka_233 k155_ (by first | decide | omega) (by omega)).trans ?_; exact (Decidable.em (i = (3 * v370.toInt + 11))).elim (fun k156_ => by refine (eA_eqT hI374.1 ka_233 k156_ (by first | decide | omega) (by first | decide | omega)).trans ?_; (first | (with_reducible rfl) | (omega) | (rfl))) (fun k156_ => by refine (eA_neT hI374.1 ka_233 k156_ (by first | decide | omega) (by omega)).trans ?_; exact (Decidable.em (i = (3 * v370.toInt + 10))).elim (fun k157_ => by refine (eA_eqT hI173.1 ka_233 k157_ (by first | decide | omega) (by first | decide | omega)).trans ?_; (first | (with_reducible rfl) | (omega) | (rfl))) (fun k157_ => by refine (eA_neT hI173.1 ka_233 k157_ (by first | decide | omega) (by omega)).trans ?_; refine (eA_ti ((gA_sI))).trans ?_; (first | with_reducible rfl | omega | exact eA_ix (by omega) | rfl)))))) (fun k153_ => by refine Eq.trans ?_ (if_neg k153_).symm; refine (eA_ti ((hF392.2.1 233 ma_X11_tell_231_233))).trans ?_; exact (Decidable.em (i = 0)).elim (fun k158_ => by refine (eA_eqT hI384.1 ka_233 k158_ (by first | decide | omega) (by first | decide | omega)).trans ?_; (first | (with_reducible rfl) | (omega) | (rfl))) (fun k158_ => by refine (eA_neT hI384.1 ka_233 k158_ (by first | decide | omega) (by omega)).trans ?_; exact (Decidable.em (i = (3 * v370.toInt + 12))).elim (fun k159_ => by refine (eA_eqT hI379.1 ka_233 k159_ (by first | decide | omega) (by first | decide | omega)).trans ?_; (first | (with_reducible rfl) | (omega) | (rfl))) (fun k159_ => by refine (eA_neT hI379.1 ka_233 k159_ (by first | decide | omega) (by omega)).trans ?_; exact (Decidable.em (i = (3 * v370.toInt + 11))).elim (fun k160_ => by refine (eA_eqT hI374.1 ka_233 k160_ (by first | decide | omega) (by first | decide | omega)).trans ?_; (first | (with_reducible rfl) | (omega) | (rfl))) (fun k160_ => by refine (eA_neT hI374.1 ka_233 k160_ (by first | decide | omega) (by omega)).trans ?_; exact (Decidable.em (i = (3 * v370.toInt + 10))).elim (fun k161_ => by refine (eA_eqT hI173.1 ka_233 k161_ (by first | decide | omega) (by first | decide | omega)).trans ?_; (first | (with_reducible rfl) | (omega) | (rfl))) (fun k161_ => by refine (eA_neT hI173.1 ka_233 k161_ (by first | decide | omega) (by omega)).trans ?_; refine (eA_ti ((gA_sI))).trans ?_; (first | with_reducible rfl | omega | exact eA_ix (by omega) | rfl)))))))))⟩, (SU.mk (by omega))⟩⟩
              · have c371_ : v370.toInt = 12 := en_i_ne_f c371
                refine At.enter rfl ?_
                refine r_aload_n rfl ?_
                refine r_bipush (-5) rfl ?_
                refine r_callV 56 rfl [.ref 231, .int (-5)] [] (Nat.le_of_ble_eq_true rfl) rfl (T_X11_tell_231 _ hI173 (-5) (by decide)) ?_
                rintro _ _ ⟨g419, rfl, hI420, hF421, v422, rfl, hr423⟩
                refine At.sti ?_
                have hF424 := Fr.tr hF174 hF421 rfl rfl
                have zv425 : ((-5) : Int32).toInt = (-5) := rfl
                refine At.enter rfl ?_
                refine r_ireti ?_
                have x426 := HI.eqA hI420 (p := 233) (j := 0) ((((eA_c (hF421.2.1 233 ma_X11_tell_231_233)).trans (eA_c gA_sI)).trans hv370))
                obtain ⟨v427, hv427⟩ : ∃ v, eA g0 233 4 = v := ⟨_, rfl⟩
                have wv427 := HI.t4 hI0
                rw [hv427] at wv427
                have tv427 := congrArg Int32.toInt hv427
                have x428 := HI.eqA hI420 (p := 233) (j := 4) ((((eA_c (hF421.2.1 233 ma_X11_tell_231_233)).trans (eA_c gA_sI)).trans hv427))
                obtain ⟨v429, hv429⟩ : ∃ v, eA g0 233 5 = v := ⟨_, rfl⟩
                have wv429 := HI.t5 hI0
                rw [hv429] at wv429
                have tv429 := congrArg Int32.toInt hv429
                have x430 := HI.eqA hI420 (p := 233) (j := 5) ((((eA_c (hF421.2.1 233 ma_X11_tell_231_233)).trans (eA_c gA_sI)).trans hv429))
                obtain ⟨v431, hv431⟩ : ∃ v, eA g0 233 6 = v := ⟨_, rfl⟩
                have wv431 := HI.t6 hI0
                rw [hv431] at wv431
                have tv431 := congrArg Int32.toInt hv431
                have x432 := HI.eqA hI420 (p := 233) (j := 6) ((((eA_c (hF421.2.1 233 ma_X11_tell_231_233)).trans (eA_c gA_sI)).trans hv431))
                obtain ⟨v433, hv433⟩ : ∃ v, eA g0 233 1 = v := ⟨_, rfl⟩
                have tv433 := congrArg Int32.toInt hv433
                have wv433 := HI.t1 hI0
                rw [hv433] at wv433
                have tv433 := congrArg Int32.toInt hv433
                have x434 := HI.eqA hI420 (p := 233) (j := 1) ((((eA_c (hF421.2.1 233 ma_X11_tell_231_233)).trans (eA_c gA_sI)).trans hv433))
                obtain ⟨v435, hv435⟩ : ∃ v, eA g0 233 2 = v := ⟨_, rfl⟩
                have tv435 := congrArg Int32.toInt hv435
                have wv435 := HI.t2 hI0
                rw [hv435] at wv435
                have tv435 := congrArg Int32.toInt hv435
                have x436 := HI.eqA hI420 (p := 233) (j := 2) ((((eA_c (hF421.2.1 233 ma_X11_tell_231_233)).trans (eA_c gA_sI)).trans hv435))
                obtain ⟨v437, hv437⟩ : ∃ v, eA g0 233 3 = v := ⟨_, rfl⟩
                have wv437 := HI.t3 hI0
                rw [hv437] at wv437
                have tv437 := congrArg Int32.toInt hv437
                have x438 := HI.eqA hI420 (p := 233) (j := 3) ((((eA_c (hF421.2.1 233 ma_X11_tell_231_233)).trans (eA_c gA_sI)).trans hv437))
                have x439 := HI.eqA hI0 (p := 233) (j := 0) (hv370)
                have x440 := HI.eqA hI0 (p := 233) (j := 4) (hv427)
                have x441 := HI.eqA hI0 (p := 233) (j := 5) (hv429)
                have x442 := HI.eqA hI0 (p := 233) (j := 6) (hv431)
                have x443 := HI.eqA hI0 (p := 233) (j := 1) (hv433)
                have x444 := HI.eqA hI0 (p := 233) (j := 2) (hv435)
                have x445 := HI.eqA hI0 (p := 233) (j := 3) (hv437)
                have x446 := HI.eqA hI0 (p := 233) (j := 0) (hv370)
                obtain ⟨v447, hv447⟩ : ∃ v, gI g419 231 1 = v := ⟨_, rfl⟩
                have tv447 := congrArg Int32.toInt hv447
                exact ⟨_, rfl, hI420, hF424, _, rfl, by omega, ⟨⟨⟨by omega, by omega, by omega, by omega, by omega, by omega, by omega⟩, (by intro i i0 i1; refine Eq.trans ?_ (if_neg (show ¬ (((-1 ≤ a1.toInt ∧ a1.toInt ≤ 11 ∧ 1 ≤ a2.toInt ∧ a2.toInt ≤ 9 ∧ 0 ≤ a3.toInt ∧ a3.toInt ≤ 99) ∧ (eA g0 233 0).toInt < 12) ∧ i = 10 + 3 * (eA g0 233 0).toInt + 0) from by omega)).symm; refine Eq.trans ?_ (if_neg (show ¬ (((-1 ≤ a1.toInt ∧ a1.toInt ≤ 11 ∧ 1 ≤ a2.toInt ∧ a2.toInt ≤ 9 ∧ 0 ≤ a3.toInt ∧ a3.toInt ≤ 99) ∧ (eA g0 233 0).toInt < 12) ∧ i = 10 + 3 * (eA g0 233 0).toInt + 1) from by omega)).symm; refine Eq.trans ?_ (if_neg (show ¬ (((-1 ≤ a1.toInt ∧ a1.toInt ≤ 11 ∧ 1 ≤ a2.toInt ∧ a2.toInt ≤ 9 ∧ 0 ≤ a3.toInt ∧ a3.toInt ≤ 99) ∧ (eA g0 233 0).toInt < 12) ∧ i = 10 + 3 * (eA g0 233 0).toInt + 2) from by omega)).symm; refine (eA_ti (((hF421.2.1 233 ma_X11_tell_231_233).trans (gA_sI)))).trans ?_; (first | with_reducible rfl | omega | exact eA_ix (by omega) | rfl))⟩, (SU.mk (by omega))⟩⟩
