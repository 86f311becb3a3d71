def F_X11_drop_231 : List (Nat × Nat) := [(231, 0), (231, 1)]
def A_X11_drop_231 : List Nat := [232, 233]
set_option maxRecDepth 100000 in
set_option maxHeartbeats 4000000 in
theorem T_X11_drop_231 (d : Nat) {N : Nat} {g0 : List en_E} (hI0 : HI g0) (a1 : Int32) : Ev (d + 3) 180 [.ref 231, .int a1] (g0, N) (fun w h' => ∃ g', h' = (g', N) ∧ HI g' ∧ Fr F_X11_drop_231 A_X11_drop_231 g0 g' ∧ ∃ r : Int32, w = some (.int r) ∧ ((-2) ≤ r.toInt ∧ r.toInt ≤ 7) ∧ ((((0 ≤ a1.toInt ∧ a1.toInt < (eA g0 233 1).toInt → r.toInt = (eA g0 233 1).toInt - 1 ∧ (eA g' 233 1).toInt = (eA g0 233 1).toInt - 1) ∧ (¬ (0 ≤ a1.toInt ∧ a1.toInt < (eA g0 233 1).toInt) → r.toInt = -2 ∧ (eA g' 233 1).toInt = (eA g0 233 1).toInt) ∧ (eA g' 233 0).toInt = (eA g0 233 0).toInt ∧ (eA g' 233 4).toInt = (eA g0 233 4).toInt ∧ (eA g' 233 5).toInt = (eA g0 233 5).toInt ∧ (eA g' 233 6).toInt = (eA g0 233 6).toInt ∧ (eA g' 233 2).toInt = (eA g0 233 2).toInt ∧ (eA g' 233 3).toInt = (eA g0 233 3).toInt) ∧ (∀ i : Int, 10 ≤ i → i < 46 → (eA g' 233 (i)).toInt = (eA g0 233 (i)).toInt) ∧ (∀ i : Int, 94 ≤ i → i < 110 → (eA g' 233 (i)).toInt = (eA g0 233 (i)).toInt) ∧ (∀ i : Int, 46 ≤ i → i < 94 → (eA g' 233 (i)).toInt = if (0 ≤ a1.toInt ∧ a1.toInt < (eA g0 233 1).toInt) ∧ 46 + 6 * a1.toInt ≤ i ∧ i < 88 then (eA g0 233 (i + 6)).toInt else (eA g0 233 (i)).toInt)) ∧ SU r.toInt (gI g' 231 1).toInt)) := by
  have hF0 : Fr F_X11_drop_231 A_X11_drop_231 g0 g0 := Fr.rf
  refine Ev.mk rfl rfl ⟨Nat.le_of_ble_eq_true rfl, Or.inr (q_rc hI0.1 kx_231 rfl)⟩ ?_
  show At _ none _ _ (0, [(0, .ref 231), (1, .int a1)], [], (_, _)) _
  refine At.enter rfl ?_
  refine r_aload_n rfl ?_
  refine r_iconst 0 rfl ?_
  refine q_putI (Sh.int hI0.1 kx_231 rfl) rfl ?_
  have hI197 := HI.wI0 hI0 kx_231 rfl (p := 231) (b := 0) (v := 0) rfl
  have hF198 := Fr.wI (p := 231) (b := 0) (v := 0) hF0 rfl
  refine r_aload_n rfl ?_
  refine r_iload_n rfl ?_
  refine q_inlV 10 rfl [.ref 231, .int a1] [] (Nat.le_of_ble_eq_true rfl) rfl ?_
  refine Ev.mk rfl rfl ⟨Nat.le_of_ble_eq_true rfl, Or.inr (q_rc hI197.1 kx_231 rfl)⟩ ?_
  show At _ none _ _ (0, [(0, .ref 231), (1, .int a1)], [], (_, _)) _
  refine At.enter rfl ?_
  refine r_iload_n rfl ?_
  refine q_i2l (fun v199 hv199 => ?_)
  refine r_lconst 0 rfl ?_
  refine r_aload_n rfl ?_
  refine q_getR (Sh.ref hI197.1 kx_231 rfl) ?_
  refine r_iconst 1 rfl ?_
  obtain ⟨v200, hv200⟩ : ∃ v, eA g0 233 1 = v := ⟨_, rfl⟩
  have tv200 := congrArg Int32.toInt hv200
  have wv200 := HI.t1 hI0
  rw [hv200] at wv200
  refine q_iald (Sh.arr hI197.1 ka_233) 1 rfl (by decide) v200 ((eA_c (gA_sI)).trans hv200) ?_
  refine q_i2l (fun v201 hv201 => ?_)
  refine r_lconst 1 rfl ?_
  refine q_lsub (v201.toInt - 1) rfl (by omega) (fun v202 hv202 => ?_)
  refine q_inlS 15 rfl [.long v199, .long 0, .long v202] [] (Nat.le_of_ble_eq_true rfl) rfl ?_
  refine Ev.mk rfl rfl ⟨Nat.le_of_ble_eq_true rfl, Or.inl rfl⟩ ?_
  show At _ none _ _ (0, [(0, .long v199), (2, .long 0), (4, .long v202)], [], (_, _)) _
  refine At.enter rfl ?_
  refine r_lload_n rfl ?_
  refine r_lload_n rfl ?_
  refine r_lcmp _ rfl ?_
  refine r_ifs 6 rfl (fun c203 => ?_) (fun c203 => ?_)
  · have c203_ : v199.toInt < 0 := en_j_lt_t c203
    refine At.enter rfl ?_
    refine r_iconst 0 rfl ?_
    refine Ar.fall 18 rfl ?_
    refine At.enter rfl ?_
    refine q_iretz (by decide) ?_
    refine At.enter rfl ?_
    refine q_iretz (by decide) ?_
    refine At.enter rfl ?_
    refine r_iff 13 rfl (by decide) ?_
    refine At.enter rfl ?_
    refine r_aload_n rfl ?_
    refine r_bipush (-2) rfl ?_
    refine r_callV 19 rfl [.ref 231, .int (-2)] [] (Nat.le_of_ble_eq_true rfl) rfl (T_X11_tell_231 _ hI197 (-2) (by decide)) ?_
    rintro _ _ ⟨g204, rfl, hI205, hF206, v207, rfl, hr208⟩
    refine At.sti ?_
    have hF209 := Fr.tr hF198 hF206 rfl rfl
    have zv210 : ((-2) : Int32).toInt = (-2) := rfl
    refine At.enter rfl ?_
    refine r_ireti ?_
    have x211 := HI.eqA hI205 (p := 233) (j := 1) ((((eA_c (hF206.2.1 233 ma_X11_tell_231_233)).trans (eA_c gA_sI)).trans hv200))
    obtain ⟨v212, hv212⟩ : ∃ v, eA g0 233 0 = v := ⟨_, rfl⟩
    have tv212 := congrArg Int32.toInt hv212
    have wv212 := HI.t0 hI0
    rw [hv212] at wv212
    have tv212 := congrArg Int32.toInt hv212
    have x213 := HI.eqA hI205 (p := 233) (j := 0) ((((eA_c (hF206.2.1 233 ma_X11_tell_231_233)).trans (eA_c gA_sI)).trans hv212))
    obtain ⟨v214, hv214⟩ : ∃ v, eA g0 233 4 = v := ⟨_, rfl⟩
    have wv214 := HI.t4 hI0
    rw [hv214] at wv214
    have tv214 := congrArg Int32.toInt hv214
    have x215 := HI.eqA hI205 (p := 233) (j := 4) ((((eA_c (hF206.2.1 233 ma_X11_tell_231_233)).trans (eA_c gA_sI)).trans hv214))
    obtain ⟨v216, hv216⟩ : ∃ v, eA g0 233 5 = v := ⟨_, rfl⟩
    have wv216 := HI.t5 hI0
    rw [hv216] at wv216
    have tv216 := congrArg Int32.toInt hv216
    have x217 := HI.eqA hI205 (p := 233) (j := 5) ((((eA_c (hF206.2.1 233 ma_X11_tell_231_233)).trans (eA_c gA_sI)).trans hv216))
    obtain ⟨v218, hv218⟩ : ∃ v, eA g0 233 6 = v := ⟨_, rfl⟩
    have wv218 := HI.t6 hI0
    rw [hv218] at wv218
    have tv218 := congrArg Int32.toInt hv218
    have x219 := HI.eqA hI205 (p := 233) (j := 6) ((((eA_c (hF206.2.1 233 ma_X11_tell_231_233)).trans (eA_c gA_sI)).trans hv218))
    obtain ⟨v220, hv220⟩ : ∃ v, eA g0 233 2 = v := ⟨_, rfl⟩
    have tv220 := congrArg Int32.toInt hv220
    have wv220 := HI.t2 hI0
    rw [hv220] at wv220
    have tv220 := congrArg Int32.toInt hv220
    have x221 := HI.eqA hI205 (p := 233) (j := 2) ((((eA_c (hF206.2.1 233 ma_X11_tell_231_233)).trans (eA_c gA_sI)).trans hv220))
    obtain ⟨v222, hv222⟩ : ∃ v, eA g0 233 3 = v := ⟨_, rfl⟩
    have wv222 := HI.t3 hI0
    rw [hv222] at wv222
    have tv222 := congrArg Int32.toInt hv222
    have x223 := HI.eqA hI205 (p := 233) (j := 3) ((((eA_c (hF206.2.1 233 ma_X11_tell_231_233)).trans (eA_c gA_sI)).trans hv222))
    have x224 := HI.eqA hI0 (p := 233) (j := 1) (hv200)
    have x225 := HI.eqA hI0 (p := 233) (j := 0) (hv212)
    have x226 := HI.eqA hI0 (p := 233) (j := 4) (hv214)
    have x227 := HI.eqA hI0 (p := 233) (j := 5) (hv216)
    have x228 := HI.eqA hI0 (p := 233) (j := 6) (hv218)
    have x229 := HI.eqA hI0 (p := 233) (j := 2) (hv220)
    have x230 := HI.eqA hI0 (p := 233) (j := 3) (hv222)
    obtain ⟨v231, hv231⟩ : ∃ v, gI g204 231 1 = v := ⟨_, rfl⟩
    have tv231 := congrArg Int32.toInt hv231
    exact ⟨_, rfl, hI205, hF209, _, rfl, by omega, ⟨⟨⟨by omega, by omega, by omega, by omega, by omega, by omega, by omega, by omega⟩, (by intro i i0 i1; refine (eA_ti (((hF206.2.1 233 ma_X11_tell_231_233).trans (gA_sI)))).trans ?_; (first | with_reducible rfl | omega | exact eA_ix (by omega) | rfl)), (by intro i i0 i1; refine (eA_ti (((hF206.2.1 233 ma_X11_tell_231_233).trans (gA_sI)))).trans ?_; (first | with_reducible rfl | omega | exact eA_ix (by omega) | rfl)), (by intro i i0 i1; refine Eq.trans ?_ (if_neg (show ¬ ((0 ≤ a1.toInt ∧ a1.toInt < (eA g0 233 1).toInt) ∧ 46 + 6 * a1.toInt ≤ i ∧ i < 88) from by omega)).symm; refine (eA_ti (((hF206.2.1 233 ma_X11_tell_231_233).trans (gA_sI)))).trans ?_; (first | with_reducible rfl | omega | exact eA_ix (by omega) | rfl))⟩, (SU.mk (by omega))⟩⟩
  · have c203_ : v199.toInt ≥ 0 := en_j_lt_f c203
    refine At.enter rfl ?_
    refine r_lload_n rfl ?_
    refine r_lload rfl ?_
    refine r_lcmp _ rfl ?_
    refine r_ifs 13 rfl (fun c233 => ?_) (fun c233 => ?_)
    · have c233_ : v199.toInt > v202.toInt := en_j_gt_t c233
      refine At.enter rfl ?_
      refine r_iconst 0 rfl ?_
      refine Ar.fall 18 rfl ?_
      refine At.enter rfl ?_
      refine q_iretz (by decide) ?_
      refine At.enter rfl ?_
      refine q_iretz (by decide) ?_
      refine At.enter rfl ?_
      refine r_iff 13 rfl (by decide) ?_
      refine At.enter rfl ?_
      refine r_aload_n rfl ?_
      refine r_bipush (-2) rfl ?_
      refine r_callV 19 rfl [.ref 231, .int (-2)] [] (Nat.le_of_ble_eq_true rfl) rfl (T_X11_tell_231 _ hI197 (-2) (by decide)) ?_
      rintro _ _ ⟨g234, rfl, hI235, hF236, v237, rfl, hr238⟩
      refine At.sti ?_
      have hF239 := Fr.tr hF198 hF236 rfl rfl
      have zv240 : ((-2) : Int32).toInt = (-2) := rfl
      refine At.enter rfl ?_
      refine r_ireti ?_
      have x241 := HI.eqA hI235 (p := 233) (j := 1) ((((eA_c (hF236.2.1 233 ma_X11_tell_231_233)).trans (eA_c gA_sI)).trans hv200))
      obtain ⟨v242, hv242⟩ : ∃ v, eA g0 233 0 = v := ⟨_, rfl⟩
      have tv242 := congrArg Int32.toInt hv242
      have wv242 := HI.t0 hI0
      rw [hv242] at wv242
      have tv242 := congrArg Int32.toInt hv242
      have x243 := HI.eqA hI235 (p := 233) (j := 0) ((((eA_c (hF236.2.1 233 ma_X11_tell_231_233)).trans (eA_c gA_sI)).trans hv242))
      obtain ⟨v244, hv244⟩ : ∃ v, eA g0 233 4 = v := ⟨_, rfl⟩
      have wv244 := HI.t4 hI0
      rw [hv244] at wv244
      have tv244 := congrArg Int32.toInt hv244
      have x245 := HI.eqA hI235 (p := 233) (j := 4) ((((eA_c (hF236.2.1 233 ma_X11_tell_231_233)).trans (eA_c gA_sI)).trans hv244))
      obtain ⟨v246, hv246⟩ : ∃ v, eA g0 233 5 = v := ⟨_, rfl⟩
      have wv246 := HI.t5 hI0
      rw [hv246] at wv246
      have tv246 := congrArg Int32.toInt hv246
      have x247 := HI.eqA hI235 (p := 233) (j := 5) ((((eA_c (hF236.2.1 233 ma_X11_tell_231_233)).trans (eA_c gA_sI)).trans hv246))
      obtain ⟨v248, hv248⟩ : ∃ v, eA g0 233 6 = v := ⟨_, rfl⟩
      have wv248 := HI.t6 hI0
      rw [hv248] at wv248
      have tv248 := congrArg Int32.toInt hv248
      have x249 := HI.eqA hI235 (p := 233) (j := 6) ((((eA_c (hF236.2.1 233 ma_X11_tell_231_233)).trans (eA_c gA_sI)).trans hv248))
      obtain ⟨v250, hv250⟩ : ∃ v, eA g0 233 2 = v := ⟨_, rfl⟩
      have tv250 := congrArg Int32.toInt hv250
      have wv250 := HI.t2 hI0
      rw [hv250] at wv250
      have tv250 := congrArg Int32.toInt hv250
      have x251 := HI.eqA hI235 (p := 233) (j := 2) ((((eA_c (hF236.2.1 233 ma_X11_tell_231_233)).trans (eA_c gA_sI)).trans hv250))
      obtain ⟨v252, hv252⟩ : ∃ v, eA g0 233 3 = v := ⟨_, rfl⟩
      have wv252 := HI.t3 hI0
      rw [hv252] at wv252
      have tv252 := congrArg Int32.toInt hv252
      have x253 := HI.eqA hI235 (p := 233) (j := 3) ((((eA_c (hF236.2.1 233 ma_X11_tell_231_233)).trans (eA_c gA_sI)).trans hv252))
      have x254 := HI.eqA hI0 (p := 233) (j := 1) (hv200)
      have x255 := HI.eqA hI0 (p := 233) (j := 0) (hv242)
      have x256 := HI.eqA hI0 (p := 233) (j := 4) (hv244)
      have x257 := HI.eqA hI0 (p := 233) (j := 5) (hv246)
      have x258 := HI.eqA hI0 (p := 233) (j := 6) (hv248)
      have x259 := HI.eqA hI0 (p := 233) (j := 2) (hv250)
      have x260 := HI.eqA hI0 (p := 233) (j := 3) (hv252)
      obtain ⟨v261, hv261⟩ : ∃ v, gI g234 231 1 = v := ⟨_, rfl⟩
      have tv261 := congrArg Int32.toInt hv261
      have x262 := HI.eqI hI235 (p := 231) (b := 1) (hv261)
      exact ⟨_, rfl, hI235, hF239, _, rfl, by omega, ⟨⟨⟨by omega, by omega, by omega, by omega, by omega, by omega, by omega, by omega⟩, (by intro i i0 i1; refine (eA_ti (((hF236.2.1 233 ma_X11_tell_231_233).trans (gA_sI)))).trans ?_; (first | with_reducible rfl | omega | exact eA_ix (by omega) | rfl)), (by intro i i0 i1; refine (eA_ti (((hF236.2.1 233 ma_X11_tell_231_233).trans (gA_sI)))).trans ?_; (first | with_reducible rfl | omega | exact eA_ix (by omega) | rfl)), (by intro i i0 i1; refine Eq.trans ?_ (if_neg (show ¬ ((0 ≤ a1.toInt ∧ a1.toInt < (eA g0 233 1).toInt) ∧ 46 + 6 * a1.toInt ≤ i ∧ i < 88) from by omega)).symm; refine (eA_ti (((hF236.2.1 233 ma_X11_tell_231_233).trans (gA_sI)))).trans ?_; (first | with_reducible rfl | omega | exact eA_ix (by omega) | rfl))⟩, (SU.mk (by omega))⟩⟩
    · have c233_ : v199.toInt ≤ v202.toInt := en_j_gt_f c233
      refine At.enter rfl ?_
      refine r_iconst 1 rfl ?_
      refine r_goto ?_
      refine At.enter rfl ?_
      refine q_iretz (by decide) ?_
      refine At.enter rfl ?_
      refine q_iretz (by decide) ?_
      refine At.enter rfl ?_
      refine r_ift (by decide) ?_
      refine At.enter rfl ?_
      refine r_bipush 46 rfl ?_
      refine r_bipush 6 rfl ?_
      refine r_iload_n rfl ?_
      refine q_imul (6 * a1.toInt) rfl (by omega) (fun v263 hv263 => ?_)
      refine q_iadd (46 + v263.toInt) rfl (by omega) (fun v264 hv264 => ?_)
      refine r_istore_n ([(2, .int v264), (0, .ref 231), (1, .int a1)]) rfl ?_
      refine Ar.fall 28 rfl ?_
      obtain ⟨v265, hv265⟩ : ∃ v, eA g0 233 0 = v := ⟨_, rfl⟩
      have tv265 := congrArg Int32.toInt hv265
      have wv265 := HI.t0 hI0
      rw [hv265] at wv265
      have tv265 := congrArg Int32.toInt hv265
      obtain ⟨v266, hv266⟩ : ∃ v, eA g0 233 4 = v := ⟨_, rfl⟩
      have wv266 := HI.t4 hI0
      rw [hv266] at wv266
      have tv266 := congrArg Int32.toInt hv266
      obtain ⟨v267, hv267⟩ : ∃ v, eA g0 233 5 = v := ⟨_, rfl⟩
      have wv267 := HI.t5 hI0
      rw [hv267] at wv267
      have tv267 := congrArg Int32.toInt hv267
      obtain ⟨v268, hv268⟩ : ∃ v, eA g0 233 6 = v := ⟨_, rfl⟩
      have wv268 := HI.t6 hI0
      rw [hv268] at wv268
      have tv268 := congrArg Int32.toInt hv268
      obtain ⟨v269, hv269⟩ : ∃ v, eA g0 233 2 = v := ⟨_, rfl⟩
      have tv269 := congrArg Int32.toInt hv269
      have wv269 := HI.t2 hI0
      rw [hv269] at wv269
      have tv269 := congrArg Int32.toInt hv269
      obtain ⟨v270, hv270⟩ : ∃ v, eA g0 233 3 = v := ⟨_, rfl⟩
      have wv270 := HI.t3 hI0
      rw [hv270] at wv270
      have tv270 := congrArg Int32.toInt hv270
      refine w_loopI (fun n_ l_ g_ => ∃ x291 : Int32, n_ = 88 - x291.toInt ∧ HI g_ ∧ Fr F_X11_drop_231 A_X11_drop_231 g0 g_ ∧ eA g_ 233 0 = v265 ∧ eA g_ 233 1 = v200 ∧ eA g_ 233 4 = v266 ∧ eA g_ 233 5 = v267 ∧ eA g_ 233 6 = v268 ∧ eA g_ 233 2 = v269 ∧ eA g_ 233 3 = v270 ∧ en_get 0 l_ = some (.ref 231) ∧ en_get 1 l_ = some (.int a1) ∧ en_get 2 l_ = some (.int x291) ∧ (46 ≤ x291.toInt ∧ x291.toInt ≤ 88) ∧ (∀ i : Int, 46 ≤ i → i < 94 → (eA g_ 233 (i)).toInt = if 46 + 6 * a1.toInt ≤ i ∧ i < x291.toInt then (eA g0 233 (i + 6)).toInt else (eA g0 233 (i)).toInt) ∧ (46 + 6 * a1.toInt ≤ x291.toInt) ∧ (∀ i : Int, 10 ≤ i → i < 46 → (eA g_ 233 (i)).toInt = (eA g0 233 (i)).toInt) ∧ (∀ i : Int, 94 ≤ i → i < 110 → (eA g_ 233 (i)).toInt = (eA g0 233 (i)).toInt)) ?_ (88 - v264.toInt) ⟨v264, by first | rfl | omega, hI197, hF198, ((eA_c gA_sI).trans hv265), ((eA_c gA_sI).trans hv200), ((eA_c gA_sI).trans hv266), ((eA_c gA_sI).trans hv267), ((eA_c gA_sI).trans hv268), ((eA_c gA_sI).trans hv269), ((eA_c gA_sI).trans hv270), rfl, rfl, rfl, by omega, (by intro i i0 i1; refine Eq.trans ?_ (if_neg (show ¬ (46 + 6 * a1.toInt ≤ i ∧ i < v264.toInt) from by omega)).symm; refine (eA_ti ((gA_sI))).trans ?_; (first | with_reducible rfl | omega | exact eA_ix (by omega) | rfl)), by omega, (by intro i i0 i1; refine (eA_ti ((gA_sI))).trans ?_; (first | with_reducible rfl | omega | exact eA_ix (by omega) | rfl)), (by intro i i0 i1; refine (eA_ti ((gA_sI))).trans ?_; (first | with_reducible rfl | omega | exact eA_ix (by omega) | rfl))⟩
      rintro n296 l295 g292 ⟨x291, hm313, hI293, hF294, e298, e299, e300, e301, e302, e303, e304, e305, e306, e307, r308, q309, q310, q311, q312⟩ ih297
      have tv314 := congrArg Int32.toInt e298
      have tv315 := congrArg Int32.toInt e299
      have tv316 := congrArg Int32.toInt e300
      have tv317 := congrArg Int32.toInt e301
      have tv318 := congrArg Int32.toInt e302
      have tv319 := congrArg Int32.toInt e303
      have tv320 := congrArg Int32.toInt e304
      refine At.enter rfl ?_
      refine r_iload_n e307 ?_
      refine r_bipush 88 rfl ?_
      refine r_ics 34 rfl (fun c321 => ?_) (fun c321 => ?_)
      · have c321_ : x291.toInt ≥ 88 := en_i_ge_t c321
        refine At.enter rfl ?_
        refine r_aload_n e305 ?_
        refine q_getR (Sh.ref hI293.1 kx_231 rfl) ?_
        refine r_iconst 1 rfl ?_
        refine r_dup2 ⟨rfl, rfl⟩ ?_
        refine q_iald (Sh.arr hI293.1 ka_233) 1 rfl (by decide) v200 e299 ?_
        refine r_iconst 1 rfl ?_
        refine q_isub (v200.toInt - 1) rfl (by omega) (fun v322 hv322 => ?_)
        refine q_iast (Sh.arr hI293.1 ka_233) (1) rfl (by decide) ?_
        have x325 := HI.eqA hI293 (p := 233) (j := 0) (e298)
        have x326 := HI.eqA hI293 (p := 233) (j := 1) (e299)
        have yv327 := HI.lt hI293
        have hI323 := HI.wt hI293 (j := 1) (v := v322) (by omega) (by omega)
        have hF324 := Fr.wA (p := 233) (j := 1) (v := v322) hF294 rfl
        refine r_aload_n e305 ?_
        refine r_aload_n e305 ?_
        refine q_getR (Sh.ref hI323.1 kx_231 rfl) ?_
        refine r_iconst 1 rfl ?_
        refine q_iald (Sh.arr hI323.1 ka_233) 1 rfl (by decide) v322 (eA_sA_eq hI293.1 ka_233 (by first | rfl | omega) (by first | decide | omega) (by first | decide | omega)) ?_
        refine r_callV 75 rfl [.ref 231, .int v322] [] (Nat.le_of_ble_eq_true rfl) rfl (T_X11_tell_231 _ hI323 v322 (by omega)) ?_
        rintro _ _ ⟨g328, rfl, hI329, hF330, v331, rfl, hr332⟩
        refine At.sti ?_
        have hF333 := Fr.tr hF324 hF330 rfl rfl
        refine At.enter rfl ?_
        refine r_ireti ?_
        have x334 := HI.eqA hI329 (p := 233) (j := 1) (((eA_c (hF330.2.1 233 ma_X11_tell_231_233)).trans (eA_sA_eq hI293.1 ka_233 (by first | rfl | omega) (by first | decide | omega) (by first | decide | omega))))
        have x335 := HI.eqA hI329 (p := 233) (j := 0) ((((eA_c (hF330.2.1 233 ma_X11_tell_231_233)).trans (eA_sA_ne hI293.1 ka_233 (by first | decide | omega) (by first | decide | omega) (by first | decide | omega))).trans e298))
        have x336 := HI.eqA hI329 (p := 233) (j := 4) ((((eA_c (hF330.2.1 233 ma_X11_tell_231_233)).trans (eA_sA_ne hI293.1 ka_233 (by first | decide | omega) (by first | decide | omega) (by first | decide | omega))).trans e300))
        have x337 := HI.eqA hI329 (p := 233) (j := 5) ((((eA_c (hF330.2.1 233 ma_X11_tell_231_233)).trans (eA_sA_ne hI293.1 ka_233 (by first | decide | omega) (by first | decide | omega) (by first | decide | omega))).trans e301))
        have x338 := HI.eqA hI329 (p := 233) (j := 6) ((((eA_c (hF330.2.1 233 ma_X11_tell_231_233)).trans (eA_sA_ne hI293.1 ka_233 (by first | decide | omega) (by first | decide | omega) (by first | decide | omega))).trans e302))
        have x339 := HI.eqA hI329 (p := 233) (j := 2) ((((eA_c (hF330.2.1 233 ma_X11_tell_231_233)).trans (eA_sA_ne hI293.1 ka_233 (by first | decide | omega) (by first | decide | omega) (by first | decide | omega))).trans e303))
        have x340 := HI.eqA hI329 (p := 233) (j := 3) ((((eA_c (hF330.2.1 233 ma_X11_tell_231_233)).trans (eA_sA_ne hI293.1 ka_233 (by first | decide | omega) (by first | decide | omega) (by first | decide | omega))).trans e304))
        have x341 := HI.eqA hI0 (p := 233) (j := 1) (hv200)
        have x342 := HI.eqA hI0 (p := 233) (j := 0) (hv265)
        have x343 := HI.eqA hI0 (p := 233) (j := 4) (hv266)
        have x344 := HI.eqA hI0 (p := 233) (j := 5) (hv267)
        have x345 := HI.eqA hI0 (p := 233) (j := 6) (hv268)
        have x346 := HI.eqA hI0 (p := 233) (j := 2) (hv269)
        have x347 := HI.eqA hI0 (p := 233) (j := 3) (hv270)
        obtain ⟨v348, hv348⟩ : ∃ v, gI g328 231 1 = v := ⟨_, rfl⟩
        have tv348 := congrArg Int32.toInt hv348
        exact ⟨_, rfl, hI329, hF333, _, rfl, by omega, ⟨⟨⟨by omega, by omega, by omega, by omega, by omega, by omega, by omega, by omega⟩, (by intro i i0 i1; refine (eA_ti ((hF330.2.1 233 ma_X11_tell_231_233))).trans ?_; exact (Decidable.em (i = 1)).elim (fun k251_ => by refine (eA_eqT hI293.1 ka_233 k251_ (by first | decide | omega) (by first | decide | omega)).trans ?_; (first | (with_reducible rfl) | (omega) | (rfl))) (fun k251_ => by refine (eA_neT hI293.1 ka_233 k251_ (by first | decide | omega) (by omega)).trans ?_; (first | (refine ((q311 (i) (by first | exact i0 | omega) (by first | exact i1 | omega))).trans ?_; (first | with_reducible rfl | omega | exact eA_ix (by omega) | rfl)) | (refine ((q309 (i) (by first | exact i0 | omega) (by first | exact i1 | omega))).trans ?_; exact (Decidable.em (46 + 6 * a1.toInt ≤ (i) ∧ (i) < x291.toInt)).elim (fun k252_ => by refine (if_pos k252_).trans ?_; (first | with_reducible rfl | omega | exact eA_ix (by omega) | rfl)) (fun k252_ => by refine (if_neg k252_).trans ?_; (first | with_reducible rfl | omega | exact eA_ix (by omega) | rfl))) | (refine ((q312 (i) (by first | exact i0 | omega) (by first | exact i1 | omega))).trans ?_; (first | with_reducible rfl | omega | exact eA_ix (by omega) | rfl))))), (by intro i i0 i1; refine (eA_ti ((hF330.2.1 233 ma_X11_tell_231_233))).trans ?_; exact (Decidable.em (i = 1)).elim (fun k253_ => by refine (eA_eqT hI293.1 ka_233 k253_ (by first | decide | omega) (by first | decide | omega)).trans ?_; (first | (with_reducible rfl) | (omega) | (rfl))) (fun k253_ => by refine (eA_neT hI293.1 ka_233 k253_ (by first | decide | omega) (by omega)).trans ?_; (first | (refine ((q312 (i) (by first | exact i0 | omega) (by first | exact i1 | omega))).trans ?_; (first | with_reducible rfl | omega | exact eA_ix (by omega) | rfl)) | (refine ((q309 (i) (by first | exact i0 | omega) (by first | exact i1 | omega))).trans ?_; exact (Decidable.em (46 + 6 * a1.toInt ≤ (i) ∧ (i) < x291.toInt)).elim (fun k254_ => by refine (if_pos k254_).trans ?_; (first | with_reducible rfl | omega | exact eA_ix (by omega) | rfl)) (fun k254_ => by refine (if_neg k254_).trans ?_; (first | with_reducible rfl | omega | exact eA_ix (by omega) | rfl))) | (refine ((q311 (i) (by first | exact i0 | omega) (by first | exact i1 | omega))).trans ?_; (first | with_reducible rfl | omega | exact eA_ix (by omega) | rfl))))), (by intro i i0 i1; exact (Decidable.em ((0 ≤ a1.toInt ∧ a1.toInt < (eA g0 233 1).toInt) ∧ 46 + 6 * a1.toInt ≤ i ∧ i < 88)).elim (fun k255_ => by refine Eq.trans ?_ (if_pos k255_).symm; refine (eA_ti ((hF330.2.1 233 ma_X11_tell_231_233))).trans ?_; exact (Decidable.em (i = 1)).elim (fun k256_ => by refine (eA_eqT hI293.1 ka_233 k256_ (by first | decide | omega) (by first | decide | omega)).trans ?_; (first | (with_reducible rfl) | (omega) | (rfl))) (fun k256_ => by refine (eA_neT hI293.1 ka_233 k256_ (by first | decide | omega) (by omega)).trans ?_; (first | (refine ((q309 (i) (by first | exact i0 | omega) (by first | exact i1 | omega))).trans ?_; exact (Decidable.em (46 + 6 * a1.toInt ≤ (i) ∧ (i) < x291.toInt)).elim (fun k257_ => by refine (if_pos k257_).trans ?_; (first | with_reducible rfl | omega | exact eA_ix (by omega) | rfl)) (fun k257_ => by refine (if_neg k257_).trans ?_; (first | with_reducible rfl | omega | exact eA_ix (by omega) | rfl))) | (refine ((q311 (i) (by first | exact i0 | omega) (by first | exact i1 | omega))).trans ?_; (first | with_reducible rfl | omega | exact eA_ix (by omega) | rfl)) | (refine ((q312 (i) (by first | exact i0 | omega) (by first | exact i1 | omega))).trans ?_; (first | with_reducible rfl | omega | exact eA_ix (by omega) | rfl))))) (fun k255_ => by refine Eq.trans ?_ (if_neg k255_).symm; refine (eA_ti ((hF330.2.1 233 ma_X11_tell_231_233))).trans ?_; exact (Decidable.em (i = 1)).elim (fun k258_ => by refine (eA_eqT hI293.1 ka_233 k258_ (by first | decide | omega) (by first | decide | omega)).trans ?_; (first | (with_reducible rfl) | (omega) | (rfl))) (fun k258_ => by refine (eA_neT hI293.1 ka_233 k258_ (by first | decide | omega) (by omega)).trans ?_; (first | (refine ((q309 (i) (by first | exact i0 | omega) (by first | exact i1 | omega))).trans ?_; exact (Decidable.em (46 + 6 * a1.toInt ≤ (i) ∧ (i) < x291.toInt)).elim (fun k259_ => by refine (if_pos k259_).trans ?_; (first | with_reducible rfl | omega | exact eA_ix (by omega) | rfl)) (fun k259_ => by refine (if_neg k259_).trans ?_; (first | with_reducible rfl | omega | exact eA_ix (by omega) | rfl))) | (refine ((q311 (i) (by first | exact i0 | omega) (by first | exact i1 | omega))).trans ?_; (first | with_reducible rfl | omega | exact eA_ix (by omega) | rfl)) | (refine ((q312 (i) (by first | exact i0 | omega) (by first | exact i1 | omega))).trans ?_; (first | with_reducible rfl | omega | exact eA_ix (by omega) | rfl))))))⟩, (SU.mk (by omega))⟩⟩
      · have c321_ : x291.toInt < 88 := en_i_ge_f c321
        refine At.enter rfl ?_
        refine r_aload_n e305 ?_
        refine q_getR (Sh.ref hI293.1 kx_231 rfl) ?_
        refine r_iload_n e307 ?_
        refine r_aload_n e305 ?_
        refine q_getR (Sh.ref hI293.1 kx_231 rfl) ?_
        refine r_iload_n e307 ?_
        refine r_bipush 6 rfl ?_
        refine q_iadd (x291.toInt + 6) rfl (by omega) (fun v350 hv350 => ?_)
        obtain ⟨v351, hv351⟩ : ∃ v, eA g292 233 (x291.toInt + 6) = v := ⟨_, rfl⟩
        refine q_iald (Sh.arr hI293.1 ka_233) (x291.toInt + 6) (by omega) (by omega) v351 hv351 ?_
        refine q_iast (Sh.arr hI293.1 ka_233) (x291.toInt) rfl (by omega) ?_
        have hI352 := HI.wcp hI293 (k := x291.toInt) (by omega) (by omega) hv351
        have hF353 := Fr.wA (p := 233) (j := x291.toInt) (v := v351) hF294 rfl
        refine q_iinc e307 (x291.toInt + 1) rfl (by omega) (fun v354 hv354 => ?_)
        refine r_goto ?_
        exact ih297 (88 - v354.toInt) _ _ ⟨v354, by first | rfl | omega, hI352, hF353, ((eA_sA_ne hI293.1 ka_233 (by first | decide | omega) (by first | decide | omega) (by first | decide | omega)).trans e298), ((eA_sA_ne hI293.1 ka_233 (by first | decide | omega) (by first | decide | omega) (by first | decide | omega)).trans e299), ((eA_sA_ne hI293.1 ka_233 (by first | decide | omega) (by first | decide | omega) (by first | decide | omega)).trans e300), ((eA_sA_ne hI293.1 ka_233 (by first | decide | omega) (by first | decide | omega) (by first | decide | omega)).trans e301), ((eA_sA_ne hI293.1 ka_233 (by first | decide | omega) (by first | decide | omega) (by first | decide | omega)).trans e302), ((eA_sA_ne hI293.1 ka_233 (by first | decide | omega) (by first | decide | omega) (by first | decide | omega)).trans e303), ((eA_sA_ne hI293.1 ka_233 (by first | decide | omega) (by first | decide | omega) (by first | decide | omega)).trans e304), (w_p1 (by decide) (Or.inr rfl) e305), (w_p1 (by decide) (Or.inr rfl) e306), (w_e1 _ _ _), by omega, (by intro i i0 i1; exact (Decidable.em (46 + 6 * a1.toInt ≤ i ∧ i < v354.toInt)).elim (fun k260_ => by refine Eq.trans ?_ (if_pos k260_).symm; exact (Decidable.em (i = x291.toInt)).elim (fun k261_ => by refine (eA_eqT hI293.1 ka_233 k261_ (by first | decide | omega) (by first | decide | omega)).trans ?_; (first | (with_reducible rfl) | (omega) | (refine (congrArg Int32.toInt hv351).symm.trans ?_; (first | (refine ((q309 ((x291.toInt + 6)) (by omega) (by omega))).trans ?_; exact (Decidable.em (46 + 6 * a1.toInt ≤ ((x291.toInt + 6)) ∧ ((x291.toInt + 6)) < x291.toInt)).elim (fun k262_ => by refine (if_pos k262_).trans ?_; (first | with_reducible rfl | omega | exact eA_ix (by omega) | rfl)) (fun k262_ => by refine (if_neg k262_).trans ?_; (first | with_reducible rfl | omega | exact eA_ix (by omega) | rfl))) | (refine ((q311 ((x291.toInt + 6)) (by omega) (by omega))).trans ?_; (first | with_reducible rfl | omega | exact eA_ix (by omega) | rfl)) | (refine ((q312 ((x291.toInt + 6)) (by omega) (by omega))).trans ?_; (first | with_reducible rfl | omega | exact eA_ix (by omega) | rfl)))) | (rfl))) (fun k261_ => by refine (eA_neT hI293.1 ka_233 k261_ (by first | decide | omega) (by omega)).trans ?_; (first | (refine ((q309 (i) (by first | exact i0 | omega) (by first | exact i1 | omega))).trans ?_; exact (Decidable.em (46 + 6 * a1.toInt ≤ (i) ∧ (i) < x291.toInt)).elim (fun k263_ => by refine (if_pos k263_).trans ?_; (first | with_reducible rfl | omega | exact eA_ix (by omega) | rfl)) (fun k263_ => by refine (if_neg k263_).trans ?_; (first | with_reducible rfl | omega | exact eA_ix (by omega) | rfl))) | (refine ((q311 (i) (by first | exact i0 | omega) (by first | exact i1 | omega))).trans ?_; (first | with_reducible rfl | omega | exact eA_ix (by omega) | rfl)) | (refine ((q312 (i) (by first | exact i0 | omega) (by first | exact i1 | omega))).trans ?_; (first | with_reducible rfl | omega | exact eA_ix (by omega) | rfl))))) (fun k260_ => by refine Eq.trans ?_ (if_neg k260_).symm; exact (Decidable.em (i = x291.toInt)).elim (fun k264_ => by refine (eA_eqT hI293.1 ka_233 k264_ (by first | decide | omega) (by first | decide | omega)).trans ?_; (first | (with_reducible rfl) | (omega) | (refine (congrArg Int32.toInt hv351).symm.trans ?_; (first | (refine ((q309 ((x291.toInt + 6)) (by omega) (by omega))).trans ?_; exact (Decidable.em (46 + 6 * a1.toInt ≤ ((x291.toInt + 6)) ∧ ((x291.toInt + 6)) < x291.toInt)).elim (fun k265_ => by refine (if_pos k265_).trans ?_; (first | with_reducible rfl | omega | exact eA_ix (by omega) | rfl)) (fun k265_ => by refine (if_neg k265_).trans ?_; (first | with_reducible rfl | omega | exact eA_ix (by omega) | rfl))) | (refine ((q311 ((x291.toInt + 6)) (by omega) (by omega))).trans ?_; (first | with_reducible rfl | omega | exact eA_ix (by omega) | rfl)) | (refine ((q312 ((x291.toInt + 6)) (by omega) (by omega))).trans ?_; (first | with_reducible rfl | omega | exact eA_ix (by omega) | rfl)))) | (rfl))) (fun k264_ => by refine (eA_neT hI293.1 ka_233 k264_ (by first | decide | omega) (by omega)).trans ?_; (first | (refine ((q309 (i) (by first | exact i0 | omega) (by first | exact i1 | omega))).trans ?_; exact (Decidable.em (46 + 6 * a1.toInt ≤ (i) ∧ (i) < x291.toInt)).elim (fun k266_ => by refine (if_pos k266_).trans ?_; (first | with_reducible rfl | omega | exact eA_ix (by omega) | rfl)) (fun k266_ => by refine (if_neg k266_).trans ?_; (first | with_reducible rfl | omega | exact eA_ix (by omega) | rfl))) | (refine ((q311 (i) (by first | exact i0 | omega) (by first | exact i1 | omega))).trans ?_; (first | with_reducible rfl | omega | exact eA_ix (by omega) | rfl)) | (refine ((q312 (i) (by first | exact i0 | omega) (by first | exact i1 | omega))).trans ?_; (first | with_reducible rfl | omega | exact eA_ix (by omega) | rfl)))))), by omega, (by intro i i0 i1; exact (Decidable.em (i = x291.toInt)).elim (fun k267_ => by refine (eA_eqT hI293.1 ka_233 k267_ (by first | decide | omega) (by first | decide | omega)).trans ?_; (first | (with_reducible rfl) | (omega) | (refine (congrArg Int32.toInt hv351).symm.trans ?_; (first | (refine ((q309 ((x291.toInt + 6)) (by omega) (by omega))).trans ?_; exact (Decidable.em (46 + 6 * a1.toInt ≤ ((x291.toInt + 6)) ∧ ((x291.toInt + 6)) < x291.toInt)).elim (fun k268_ => by refine (if_pos k268_).trans ?_; (first | with_reducible rfl | omega | exact eA_ix (by omega) | rfl)) (fun k268_ => by refine (if_neg k268_).trans ?_; (first | with_reducible rfl | omega | exact eA_ix (by omega) | rfl))) | (refine ((q311 ((x291.toInt + 6)) (by omega) (by omega))).trans ?_; (first | with_reducible rfl | omega | exact eA_ix (by omega) | rfl)) | (refine ((q312 ((x291.toInt + 6)) (by omega) (by omega))).trans ?_; (first | with_reducible rfl | omega | exact eA_ix (by omega) | rfl)))) | (rfl))) (fun k267_ => by refine (eA_neT hI293.1 ka_233 k267_ (by first | decide | omega) (by omega)).trans ?_; (first | (refine ((q311 (i) (by first | exact i0 | omega) (by first | exact i1 | omega))).trans ?_; (first | with_reducible rfl | omega | exact eA_ix (by omega) | rfl)) | (refine ((q309 (i) (by first | exact i0 | omega) (by first | exact i1 | omega))).trans ?_; exact (Decidable.em (46 + 6 * a1.toInt ≤ (i) ∧ (i) < x291.toInt)).elim (fun k269_ => by refine (if_pos k269_).trans ?_; (first | with_reducible rfl | omega | exact eA_ix (by omega) | rfl)) (fun k269_ => by refine (if_neg k269_).trans ?_; (first | with_reducible rfl | omega | exact eA_ix (by omega) | rfl))) | (refine ((q312 (i) (by first | exact i0 | omega) (by first | exact i1 | omega))).trans ?_; (first | with_reducible rfl | omega | exact eA_ix (by omega) | rfl))))), (by intro i i0 i1; exact (Decidable.em (i = x291.toInt)).elim (fun k270_ => by refine (eA_eqT hI293.1 ka_233 k270_ (by first | decide | omega) (by first | decide | omega)).trans ?_; (first | (with_reducible rfl) | (omega) | (refine (congrArg Int32.toInt hv351).symm.trans ?_; (first | (refine ((q309 ((x291.toInt + 6)) (by omega) (by omega))).trans ?_; exact (Decidable.em (46 + 6 * a1.toInt ≤ ((x291.toInt + 6)) ∧ ((x291.toInt + 6)) < x291.toInt)).elim (fun k271_ => by refine (if_pos k271_).trans ?_; (first | with_reducible rfl | omega | exact eA_ix (by omega) | rfl)) (fun k271_ => by refine (if_neg k271_).trans ?_; (first | with_reducible rfl | omega | exact eA_ix (by omega) | rfl))) | (refine ((q311 ((x291.toInt + 6)) (by omega) (by omega))).trans ?_; (first | with_reducible rfl | omega | exact eA_ix (by omega) | rfl)) | (refine ((q312 ((x291.toInt + 6)) (by omega) (by omega))).trans ?_; (first | with_reducible rfl | omega | exact eA_ix (by omega) | rfl)))) | (rfl))) (fun k270_ => by refine (eA_neT hI293.1 ka_233 k270_ (by first | decide | omega) (by omega)).trans ?_; (first | (refine ((q312 (i) (by first | exact i0 | omega) (by first | exact i1 | omega))).trans ?_; (first | with_reducible rfl | omega | exact eA_ix (by omega) | rfl)) | (refine ((q309 (i) (by first | exact i0 | omega) (by first | exact i1 | omega))).trans ?_; exact (Decidable.em (46 + 6 * a1.toInt ≤ (i) ∧ (i) < x291.toInt)).elim (fun k272_ => by refine (if_pos k272_).trans ?_; (first | with_reducible rfl | omega | exact eA_ix (by omega) | rfl)) (fun k272_ => by refine (if_neg k272_).trans ?_; (first | with_reducible rfl | omega | exact eA_ix (by omega) | rfl))) | (refine ((q311 (i) (by first | exact i0 | omega) (by first | exact i1 | omega))).trans ?_; (first | with_reducible rfl | omega | exact eA_ix (by omega) | rfl)))))⟩ ⟨by omega, by omega⟩

def F_X11_terms_231 : List (Nat × Nat) := [(231, 0), (231, 1)]
def A_X11_terms_231 : List Nat := [232, 233]
set_option maxRecDepth 100000 in
set_option maxHeartbeats 4000000 in
theorem T_X11_terms_231 (d : Nat) {N : Nat} {g0 : List en_E} (hI0 : HI g0) (a1 : Int32) (a2 : Int32) : Ev (d + 3) 181 [.ref 231, .int a1, .int a2] (g0, N) (fun w h' => ∃ g', h' = (g', N) ∧ HI g' ∧ Fr F_X11_terms_231 A_X11_terms_231 g0 g' ∧ ∃ r : Int32, w = some (.int r) ∧ ((-1) ≤ r.toInt ∧ r.toInt ≤ 99) ∧ ((((((a1.toInt = 0 ∧ 0 ≤ a2.toInt ∧ a2.toInt ≤ 99) → r.toInt = (eA g0 233 5).toInt ∧ (eA g' 233 5).toInt = a2.toInt ∧ (eA g' 233 6).toInt = (eA g0 233 6).toInt) ∧ ((a1.toInt = 1 ∧ 1 ≤ a2.toInt ∧ a2.toInt ≤ 4) → r.toInt = (eA g0 233 6).toInt ∧ (eA g' 233 6).toInt = a2.toInt ∧ (eA g' 233 5).toInt = (eA g0 233 5).toInt) ∧ (¬ (a1.toInt = 0 ∧ 0 ≤ a2.toInt ∧ a2.toInt ≤ 99) ∧ ¬ (a1.toInt = 1 ∧ 1 ≤ a2.toInt ∧ a2.toInt ≤ 4) → r.toInt = -1 ∧ (eA g' 233 5).toInt = (eA g0 233 5).toInt ∧ (eA g' 233 6).toInt = (eA g0 233 6).toInt)) ∧ (eA g' 233 0).toInt = (eA g0 233 0).toInt ∧ (eA g' 233 4).toInt = (eA g0 233 4).toInt ∧ (eA g' 233 1).toInt = (eA g0 233 1).toInt ∧ (eA g' 233 2).toInt = (eA g0 233 2).toInt ∧ (eA g' 233 3).toInt = (eA g0 233 3).toInt) ∧ (∀ i : Int, 10 ≤ i → i < 110 → (eA g' 233 (i)).toInt = (eA g0 233 (i)).toInt)) ∧ SU3 ((a1.toInt = 0 ∧ 0 ≤ a2.toInt ∧ a2.toInt ≤ 99) ∨ (a1.toInt = 1 ∧ 1 ≤ a2.toInt ∧ a2.toInt ≤ 4)) True (gI g' 231 1).toInt)) := by
  have hF0 : Fr F_X11_terms_231 A_X11_terms_231 g0 g0 := Fr.rf
  refine Ev.mk rfl rfl ⟨Nat.le_of_ble_eq_true rfl, Or.inr (q_rc hI0.1 kx_231 rfl)⟩ ?_
  show At _ none _ _ (0, [(0, .ref 231), (1, .int a1), (2, .int a2)], [], (_, _)) _
  refine At.enter rfl ?_
  refine r_aload_n rfl ?_
  refine r_iconst 0 rfl ?_
  refine q_putI (Sh.int hI0.1 kx_231 rfl) rfl ?_
  have hI115 := HI.wI0 hI0 kx_231 rfl (p := 231) (b := 0) (v := 0) rfl
  have hF116 := Fr.wI (p := 231) (b := 0) (v := 0) hF0 rfl
  refine r_iload_n rfl ?_
  refine r_ifs 9 rfl (fun c117 => ?_) (fun c117 => ?_)
  · have c117_ : a1.toInt ≠ 0 := en_k_ne_t c117
    refine At.enter rfl ?_
    refine r_iload_n rfl ?_
    refine r_iconst 1 rfl ?_
    refine r_ics 26 rfl (fun c118 => ?_) (fun c118 => ?_)
    · have c118_ : a1.toInt ≠ 1 := en_i_ne_t c118
      refine At.enter rfl ?_
      refine r_iconst 0 rfl ?_
      refine Ar.fall 43 rfl ?_
      refine At.enter rfl ?_
      refine r_istore_n ([(3, .int 0), (0, .ref 231), (1, .int a1), (2, .int a2)]) rfl ?_
      refine r_iload_n rfl ?_
      refine r_ift (by decide) ?_
      refine At.enter rfl ?_
      refine r_aload_n rfl ?_
      refine r_iconst (-1) rfl ?_
      refine r_callV 64 rfl [.ref 231, .int (-1)] [] (Nat.le_of_ble_eq_true rfl) rfl (T_X11_tell_231 _ hI115 (-1) (by decide)) ?_
      rintro _ _ ⟨g119, rfl, hI120, hF121, v122, rfl, hr123⟩
      refine At.sti ?_
      have hF124 := Fr.tr hF116 hF121 rfl rfl
      have zv125 : ((-1) : Int32).toInt = (-1) := rfl
      refine At.enter rfl ?_
      refine r_ireti ?_
      obtain ⟨v126, hv126⟩ : ∃ v, eA g0 233 5 = v := ⟨_, rfl⟩
      have wv126 := HI.t5 hI0
      rw [hv126] at wv126
      have tv126 := congrArg Int32.toInt hv126
      have x127 := HI.eqA hI120 (p := 233) (j := 5) ((((eA_c (hF121.2.1 233 ma_X11_tell_231_233)).trans (eA_c gA_sI)).trans hv126))
      obtain ⟨v128, hv128⟩ : ∃ v, eA g0 233 6 = v := ⟨_, rfl⟩
      have wv128 := HI.t6 hI0
      rw [hv128] at wv128
      have tv128 := congrArg Int32.toInt hv128
      have x129 := HI.eqA hI120 (p := 233) (j := 6) ((((eA_c (hF121.2.1 233 ma_X11_tell_231_233)).trans (eA_c gA_sI)).trans hv128))
      obtain ⟨v130, hv130⟩ : ∃ v, eA g0 233 0 = v := ⟨_, rfl⟩
      have tv130 := congrArg Int32.toInt hv130
      have wv130 := HI.t0 hI0
      rw [hv130] at wv130
      have tv130 := congrArg Int32.toInt hv130
      have x131 := HI.eqA hI120 (p := 233) (j := 0) ((((eA_c (hF121.2.1 233 ma_X11_tell_231_233)).trans (eA_c gA_sI)).trans hv130))
      obtain ⟨v132, hv132⟩ : ∃ v, eA g0 233 4 = v := ⟨_, rfl⟩
      have wv132 := HI.t4 hI0
      rw [hv132] at wv132
      have tv132 := congrArg Int32.toInt hv132
      have x133 := HI.eqA hI120 (p := 233) (j := 4) ((((eA_c (hF121.2.1 233 ma_X11_tell_231_233)).trans (eA_c gA_sI)).trans hv132))
      obtain ⟨v134, hv134⟩ : ∃ v, eA g0 233 1 = v := ⟨_, rfl⟩
      have tv134 := congrArg Int32.toInt hv134
      have wv134 := HI.t1 hI0
      rw [hv134] at wv134
      have tv134 := congrArg Int32.toInt hv134
      have x135 := HI.eqA hI120 (p := 233) (j := 1) ((((eA_c (hF121.2.1 233 ma_X11_tell_231_233)).trans (eA_c gA_sI)).trans hv134))
      obtain ⟨v136, hv136⟩ : ∃ v, eA g0 233 2 = v := ⟨_, rfl⟩
      have tv136 := congrArg Int32.toInt hv136
      have wv136 := HI.t2 hI0
      rw [hv136] at wv136
      have tv136 := congrArg Int32.toInt hv136
      have x137 := HI.eqA hI120 (p := 233) (j := 2) ((((eA_c (hF121.2.1 233 ma_X11_tell_231_233)).trans (eA_c gA_sI)).trans hv136))
      obtain ⟨v138, hv138⟩ : ∃ v, eA g0 233 3 = v := ⟨_, rfl⟩
      have wv138 := HI.t3 hI0
      rw [hv138] at wv138
      have tv138 := congrArg Int32.toInt hv138
      have x139 := HI.eqA hI120 (p := 233) (j := 3) ((((eA_c (hF121.2.1 233 ma_X11_tell_231_233)).trans (eA_c gA_sI)).trans hv138))
      have x140 := HI.eqA hI0 (p := 233) (j := 5) (hv126)
      have x141 := HI.eqA hI0 (p := 233) (j := 6) (hv128)
      have x142 := HI.eqA hI0 (p := 233) (j := 0) (hv130)
      have x143 := HI.eqA hI0 (p := 233) (j := 4) (hv132)
      have x144 := HI.eqA hI0 (p := 233) (j := 1) (hv134)
      have x145 := HI.eqA hI0 (p := 233) (j := 2) (hv136)
      have x146 := HI.eqA hI0 (p := 233) (j := 3) (hv138)
      obtain ⟨v147, hv147⟩ : ∃ v, gI g119 231 1 = v := ⟨_, rfl⟩
      have tv147 := congrArg Int32.toInt hv147
      exact ⟨_, rfl, hI120, hF124, _, rfl, by omega, ⟨⟨⟨by omega, by omega, by omega, by omega, by omega, by omega⟩, (by intro i i0 i1; refine (eA_ti (((hF121.2.1 233 ma_X11_tell_231_233).trans (gA_sI)))).trans ?_; (first | with_reducible rfl | omega | exact eA_ix (by omega) | rfl))⟩, (SU3.mk (by simp only [not_true_eq_false, true_and, and_true, false_and, false_or, or_false]; omega))⟩⟩
    · have c118_ : a1.toInt = 1 := en_i_ne_f c118
      refine At.enter rfl ?_
      refine r_iload_n rfl ?_
      refine q_i2l (fun v149 hv149 => ?_)
      refine r_lconst 1 rfl ?_
      refine r_ldc2 4 rfl ?_
      refine q_inlS 35 rfl [.long v149, .long 1, .long 4] [] (Nat.le_of_ble_eq_true rfl) rfl ?_
      refine Ev.mk rfl rfl ⟨Nat.le_of_ble_eq_true rfl, Or.inl rfl⟩ ?_
      show At _ none _ _ (0, [(0, .long v149), (2, .long 1), (4, .long 4)], [], (_, _)) _
      refine At.enter rfl ?_
      refine r_lload_n rfl ?_
      refine r_lload_n rfl ?_
      refine r_lcmp _ rfl ?_
      refine r_ifs 6 rfl (fun c150 => ?_) (fun c150 => ?_)
      · have c150_ : v149.toInt < 1 := en_j_lt_t c150
        refine At.enter rfl ?_
        refine r_iconst 0 rfl ?_
        refine Ar.fall 18 rfl ?_
        refine At.enter rfl ?_
        refine q_iretz (by decide) ?_
        refine At.enter rfl ?_
        refine r_ift (by decide) ?_
        refine At.enter rfl ?_
        refine r_iconst 0 rfl ?_
        refine Ar.fall 43 rfl ?_
        refine At.enter rfl ?_
        refine r_istore_n ([(3, .int 0), (0, .ref 231), (1, .int a1), (2, .int a2)]) rfl ?_
        refine r_iload_n rfl ?_
        refine r_ift (by decide) ?_
        refine At.enter rfl ?_
        refine r_aload_n rfl ?_
        refine r_iconst (-1) rfl ?_
        refine r_callV 64 rfl [.ref 231, .int (-1)] [] (Nat.le_of_ble_eq_true rfl) rfl (T_X11_tell_231 _ hI115 (-1) (by decide)) ?_
        rintro _ _ ⟨g151, rfl, hI152, hF153, v154, rfl, hr155⟩
        refine At.sti ?_
        have hF156 := Fr.tr hF116 hF153 rfl rfl
        have zv157 : ((-1) : Int32).toInt = (-1) := rfl
        refine At.enter rfl ?_
        refine r_ireti ?_
        obtain ⟨v158, hv158⟩ : ∃ v, eA g0 233 5 = v := ⟨_, rfl⟩
        have wv158 := HI.t5 hI0
        rw [hv158] at wv158
        have tv158 := congrArg Int32.toInt hv158
        have x159 := HI.eqA hI152 (p := 233) (j := 5) ((((eA_c (hF153.2.1 233 ma_X11_tell_231_233)).trans (eA_c gA_sI)).trans hv158))
        obtain ⟨v160, hv160⟩ : ∃ v, eA g0 233 6 = v := ⟨_, rfl⟩
        have wv160 := HI.t6 hI0
        rw [hv160] at wv160
        have tv160 := congrArg Int32.toInt hv160
        have x161 := HI.eqA hI152 (p := 233) (j := 6) ((((eA_c (hF153.2.1 233 ma_X11_tell_231_233)).trans (eA_c gA_sI)).trans hv160))
        obtain ⟨v162, hv162⟩ : ∃ v, eA g0 233 0 = v := ⟨_, rfl⟩
        have tv162 := congrArg Int32.toInt hv162
        have wv162 := HI.t0 hI0
        rw [hv162] at wv162
        have tv162 := congrArg Int32.toInt hv162
        have x163 := HI.eqA hI152 (p := 233) (j := 0) ((((eA_c (hF153.2.1 233 ma_X11_tell_231_233)).trans (eA_c gA_sI)).trans hv162))
        obtain ⟨v164, hv164⟩ : ∃ v, eA g0 233 4 = v := ⟨_, rfl⟩
        have wv164 := HI.t4 hI0
        rw [hv164] at wv164
        have tv164 := congrArg Int32.toInt hv164
        have x165 := HI.eqA hI152 (p := 233) (j := 4) ((((eA_c (hF153.2.1 233 ma_X11_tell_231_233)).trans (eA_c gA_sI)).trans hv164))
        obtain ⟨v166, hv166⟩ : ∃ v, eA g0 233 1 = v := ⟨_, rfl⟩
        have tv166 := congrArg Int32.toInt hv166
        have wv166 := HI.t1 hI0
        rw [hv166] at wv166
        have tv166 := congrArg Int32.toInt hv166
        have x167 := HI.eqA hI152 (p := 233) (j := 1) ((((eA_c (hF153.2.1 233 ma_X11_tell_231_233)).trans (eA_c gA_sI)).trans hv166))
        obtain ⟨v168, hv168⟩ : ∃ v, eA g0 233 2 = v := ⟨_, rfl⟩
        have tv168 := congrArg Int32.toInt hv168
        have wv168 := HI.t2 hI0
        rw [hv168] at wv168
        have tv168 := congrArg Int32.toInt hv168
        have x169 := HI.eqA hI152 (p := 233) (j := 2) ((((eA_c (hF153.2.1 233 ma_X11_tell_231_233)).trans (eA_c gA_sI)).trans hv168))
        obtain ⟨v170, hv170⟩ : ∃ v, eA g0 233 3 = v := ⟨_, rfl⟩
        have wv170 := HI.t3 hI0
        rw [hv170] at wv170
        have tv170 := congrArg Int32.toInt hv170
        have x171 := HI.eqA hI152 (p := 233) (j := 3) ((((eA_c (hF153.2.1 233 ma_X11_tell_231_233)).trans (eA_c gA_sI)).trans hv170))
        have x172 := HI.eqA hI0 (p := 233) (j := 5) (hv158)
        have x173 := HI.eqA hI0 (p := 233) (j := 6) (hv160)
        have x174 := HI.eqA hI0 (p := 233) (j := 0) (hv162)
        have x175 := HI.eqA hI0 (p := 233) (j := 4) (hv164)
        have x176 := HI.eqA hI0 (p := 233) (j := 1) (hv166)
        have x177 := HI.eqA hI0 (p := 233) (j := 2) (hv168)
        have x178 := HI.eqA hI0 (p := 233) (j := 3) (hv170)
        obtain ⟨v179, hv179⟩ : ∃ v, gI g151 231 1 = v := ⟨_, rfl⟩
        have tv179 := congrArg Int32.toInt hv179
        exact ⟨_, rfl, hI152, hF156, _, rfl, by omega, ⟨⟨⟨by omega, by omega, by omega, by omega, by omega, by omega⟩, (by intro i i0 i1; refine (eA_ti (((hF153.2.1 233 ma_X11_tell_231_233).trans (gA_sI)))).trans ?_; (first | with_reducible rfl | omega | exact eA_ix (by omega) | rfl))⟩, (SU3.mk (by simp only [not_true_eq_false, true_and, and_true, false_and, false_or, or_false]; omega))⟩⟩
      · have c150_ : v149.toInt ≥ 1 := en_j_lt_f c150
        refine At.enter rfl ?_
        refine r_lload_n rfl ?_
        refine r_lload rfl ?_
        refine r_lcmp _ rfl ?_
        refine r_ifs 13 rfl (fun c181 => ?_) (fun c181 => ?_)
        · have c181_ : v149.toInt > 4 := en_j_gt_t c181
          refine At.enter rfl ?_
          refine r_iconst 0 rfl ?_
          refine Ar.fall 18 rfl ?_
          refine At.enter rfl ?_
          refine q_iretz (by decide) ?_
          refine At.enter rfl ?_
          refine r_ift (by decide) ?_
          refine At.enter rfl ?_
          refine r_iconst 0 rfl ?_
          refine Ar.fall 43 rfl ?_
          refine At.enter rfl ?_
          refine r_istore_n ([(3, .int 0), (0, .ref 231), (1, .int a1), (2, .int a2)]) rfl ?_
          refine r_iload_n rfl ?_
          refine r_ift (by decide) ?_
          refine At.enter rfl ?_
          refine r_aload_n rfl ?_
          refine r_iconst (-1) rfl ?_
          refine r_callV 64 rfl [.ref 231, .int (-1)] [] (Nat.le_of_ble_eq_true rfl) rfl (T_X11_tell_231 _ hI115 (-1) (by decide)) ?_
          rintro _ _ ⟨g182, rfl, hI183, hF184, v185, rfl, hr186⟩
          refine At.sti ?_
          have hF187 := Fr.tr hF116 hF184 rfl rfl
          have zv188 : ((-1) : Int32).toInt = (-1) := rfl
          refine At.enter rfl ?_
          refine r_ireti ?_
          obtain ⟨v189, hv189⟩ : ∃ v, eA g0 233 5 = v := ⟨_, rfl⟩
          have wv189 := HI.t5 hI0
          rw [hv189] at wv189
          have tv189 := congrArg Int32.toInt hv189
          have x190 := HI.eqA hI183 (p := 233) (j := 5) ((((eA_c (hF184.2.1 233 ma_X11_tell_231_233)).trans (eA_c gA_sI)).trans hv189))
          obtain ⟨v191, hv191⟩ : ∃ v, eA g0 233 6 = v := ⟨_, rfl⟩
          have wv191 := HI.t6 hI0
          rw [hv191] at wv191
          have tv191 := congrArg Int32.toInt hv191
          have x192 := HI.eqA hI183 (p := 233) (j := 6) ((((eA_c (hF184.2.1 233 ma_X11_tell_231_233)).trans (eA_c gA_sI)).trans hv191))
          obtain ⟨v193, hv193⟩ : ∃ v, eA g0 233 0 = v := ⟨_, rfl⟩
          have tv193 := congrArg Int32.toInt hv193
          have wv193 := HI.t0 hI0
          rw [hv193] at wv193
          have tv193 := congrArg Int32.toInt hv193
          have x194 := HI.eqA hI183 (p := 233) (j := 0) ((((eA_c (hF184.2.1 233 ma_X11_tell_231_233)).trans (eA_c gA_sI)).trans hv193))
          obtain ⟨v195, hv195⟩ : ∃ v, eA g0 233 4 = v := ⟨_, rfl⟩
          have wv195 := HI.t4 hI0
          rw [hv195] at wv195
          have tv195 := congrArg Int32.toInt hv195
          have x196 := HI.eqA hI183 (p := 233) (j := 4) ((((eA_c (hF184.2.1 233 ma_X11_tell_231_233)).trans (eA_c gA_sI)).trans hv195))
          obtain ⟨v197, hv197⟩ : ∃ v, eA g0 233 1 = v := ⟨_, rfl⟩
          have tv197 := congrArg Int32.toInt hv197
          have wv197 := HI.t1 hI0
          rw [hv197] at wv197
          have tv197 := congrArg Int32.toInt hv197
          have x198 := HI.eqA hI183 (p := 233) (j := 1) ((((eA_c (hF184.2.1 233 ma_X11_tell_231_233)).trans (eA_c gA_sI)).trans hv197))
          obtain ⟨v199, hv199⟩ : ∃ v, eA g0 233 2 = v := ⟨_, rfl⟩
          have tv199 := congrArg Int32.toInt hv199
          have wv199 := HI.t2 hI0
          rw [hv199] at wv199
          have tv199 := congrArg Int32.toInt hv199
          have x200 := HI.eqA hI183 (p := 233) (j := 2) ((((eA_c (hF184.2.1 233 ma_X11_tell_231_233)).trans (eA_c gA_sI)).trans hv199))
          obtain ⟨v201, hv201⟩ : ∃ v, eA g0 233 3 = v := ⟨_, rfl⟩
          have wv201 := HI.t3 hI0
          rw [hv201] at wv201
          have tv201 := congrArg Int32.toInt hv201
          have x202 := HI.eqA hI183 (p := 233) (j := 3) ((((eA_c (hF184.2.1 233 ma_X11_tell_231_233)).trans (eA_c gA_sI)).trans hv201))
          have x203 := HI.eqA hI0 (p := 233) (j := 5) (hv189)
          have x204 := HI.eqA hI0 (p := 233) (j := 6) (hv191)
          have x205 := HI.eqA hI0 (p := 233) (j := 0) (hv193)
          have x206 := HI.eqA hI0 (p := 233) (j := 4) (hv195)
          have x207 := HI.eqA hI0 (p := 233) (j := 1) (hv197)
          have x208 := HI.eqA hI0 (p := 233) (j := 2) (hv199)
          have x209 := HI.eqA hI0 (p := 233) (j := 3) (hv201)
          obtain ⟨v210, hv210⟩ : ∃ v, gI g182 231 1 = v := ⟨_, rfl⟩
          have tv210 := congrArg Int32.toInt hv210
          have x211 := HI.eqI hI183 (p := 231) (b := 1) (hv210)
          exact ⟨_, rfl, hI183, hF187, _, rfl, by omega, ⟨⟨⟨by omega, by omega, by omega, by omega, by omega, by omega⟩, (by intro i i0 i1; refine (eA_ti (((hF184.2.1 233 ma_X11_tell_231_233).trans (gA_sI)))).trans ?_; (first | with_reducible rfl | omega | exact eA_ix (by omega) | rfl))⟩, (SU3.mk (by simp only [not_true_eq_false, true_and, and_true, false_and, false_or, or_false]; omega))⟩⟩
        · have c181_ : v149.toInt ≤ 4 := en_j_gt_f c181
          refine At.enter rfl ?_
          refine r_iconst 1 rfl ?_
          refine r_goto ?_
          refine At.enter rfl ?_
          refine q_iretz (by decide) ?_
          refine At.enter rfl ?_
          refine r_iff 38 rfl (by decide) ?_
          refine At.enter rfl ?_
          refine r_iconst 1 rfl ?_
          refine r_goto ?_
          refine At.enter rfl ?_
          refine r_istore_n ([(3, .int 1), (0, .ref 231), (1, .int a1), (2, .int a2)]) rfl ?_
          refine r_iload_n rfl ?_
          refine r_iff 48 rfl (by decide) ?_
          refine At.enter rfl ?_
          refine r_aload_n rfl ?_
          refine r_iconst 5 rfl ?_
          refine r_iload_n rfl ?_
          refine q_iadd (5 + a1.toInt) rfl (by omega) (fun v212 hv212 => ?_)
          refine r_iload_n rfl ?_
          refine q_inlV 56 rfl [.ref 231, .int v212, .int a2] [] (Nat.le_of_ble_eq_true rfl) rfl ?_
          refine Ev.mk rfl rfl ⟨Nat.le_of_ble_eq_true rfl, Or.inr (q_rc hI115.1 kx_231 rfl)⟩ ?_
          show At _ none _ _ (0, [(0, .ref 231), (1, .int v212), (2, .int a2)], [], (_, _)) _
          refine At.enter rfl ?_
          refine r_aload_n rfl ?_
          refine q_getR (Sh.ref hI115.1 kx_231 rfl) ?_
          refine r_iload_n rfl ?_
          obtain ⟨v213, hv213⟩ : ∃ v, eA g0 233 (a1.toInt + 5) = v := ⟨_, rfl⟩
          have wv213 : 1 ≤ v213.toInt ∧ v213.toInt ≤ 4 := by have z := HI.t6 hI0; rw [← hv213, show (a1.toInt + 5) = 6 by omega]; exact z
          refine q_iald (Sh.arr hI115.1 ka_233) (a1.toInt + 5) (by omega) (by omega) v213 ((eA_c (gA_sI)).trans hv213) ?_
          refine r_istore_n ([(3, .int v213), (0, .ref 231), (1, .int v212), (2, .int a2)]) rfl ?_
          refine r_aload_n rfl ?_
          refine q_getR (Sh.ref hI115.1 kx_231 rfl) ?_
          refine r_iload_n rfl ?_
          refine r_iload_n rfl ?_
          refine q_iast (Sh.arr hI115.1 ka_233) ((a1.toInt + 5)) (by omega) (by omega) ?_
          have hI214 := HI.wt hI115 (j := (a1.toInt + 5)) (v := a2) (by omega) (by omega)
          have hF215 := Fr.wA (p := 233) (j := (a1.toInt + 5)) (v := a2) hF116 rfl
          refine r_aload_n rfl ?_
          refine r_iload_n rfl ?_
          refine q_inlV 19 rfl [.ref 231, .int v213] [] (Nat.le_of_ble_eq_true rfl) rfl ?_
          refine Ev.mk rfl rfl ⟨Nat.le_of_ble_eq_true rfl, Or.inr (q_rc hI214.1 kx_231 rfl)⟩ ?_
          show At _ none _ _ (0, [(0, .ref 231), (1, .int v213)], [], (_, _)) _
          refine At.enter rfl ?_
          refine r_aload_n rfl ?_
          refine r_iconst 0 rfl ?_
          refine q_putI (Sh.int hI214.1 kx_231 rfl) rfl ?_
          have hI216 := HI.wI0 hI214 kx_231 rfl (p := 231) (b := 1) (v := 0) rfl
          have hF217 := Fr.wI (p := 231) (b := 1) (v := 0) hF215 rfl
          refine r_iload_n rfl ?_
          refine q_ireti ?_
          refine At.enter rfl ?_
          refine q_ireti ?_
          refine At.enter rfl ?_
          refine r_goto ?_
          refine At.enter rfl ?_
          refine r_ireti ?_
          obtain ⟨v218, hv218⟩ : ∃ v, eA g0 233 5 = v := ⟨_, rfl⟩
          have wv218 := HI.t5 hI0
          rw [hv218] at wv218
          have tv218 := congrArg Int32.toInt hv218
          have x219 := HI.eqA hI216 (p := 233) (j := 5) ((((eA_c gA_sI).trans ((eA_sA_ne hI115.1 ka_233 (by first | decide | omega) (by first | decide | omega) (by first | decide | omega)).trans (eA_c gA_sI))).trans hv218))
          have x220 := HI.eqA hI216 (p := 233) (j := 6) (((eA_c gA_sI).trans (eA_sA_eq hI115.1 ka_233 (by omega) (by first | decide | omega) (by first | decide | omega))))
          obtain ⟨v221, hv221⟩ : ∃ v, eA g0 233 0 = v := ⟨_, rfl⟩
          have tv221 := congrArg Int32.toInt hv221
          have wv221 := HI.t0 hI0
          rw [hv221] at wv221
          have tv221 := congrArg Int32.toInt hv221
          have x222 := HI.eqA hI216 (p := 233) (j := 0) ((((eA_c gA_sI).trans ((eA_sA_ne hI115.1 ka_233 (by first | decide | omega) (by first | decide | omega) (by first | decide | omega)).trans (eA_c gA_sI))).trans hv221))
          obtain ⟨v223, hv223⟩ : ∃ v, eA g0 233 4 = v := ⟨_, rfl⟩
          have wv223 := HI.t4 hI0
          rw [hv223] at wv223
          have tv223 := congrArg Int32.toInt hv223
          have x224 := HI.eqA hI216 (p := 233) (j := 4) ((((eA_c gA_sI).trans ((eA_sA_ne hI115.1 ka_233 (by first | decide | omega) (by first | decide | omega) (by first | decide | omega)).trans (eA_c gA_sI))).trans hv223))
          obtain ⟨v225, hv225⟩ : ∃ v, eA g0 233 1 = v := ⟨_, rfl⟩
          have tv225 := congrArg Int32.toInt hv225
          have wv225 := HI.t1 hI0
          rw [hv225] at wv225
          have tv225 := congrArg Int32.toInt hv225
          have x226 := HI.eqA hI216 (p := 233) (j := 1) ((((eA_c gA_sI).trans ((eA_sA_ne hI115.1 ka_233 (by first | decide | omega) (by first | decide | omega) (by first | decide | omega)).trans (eA_c gA_sI))).trans hv225))
          obtain ⟨v227, hv227⟩ : ∃ v, eA g0 233 2 = v := ⟨_, rfl⟩
          have tv227 := congrArg Int32.toInt hv227
          have wv227 := HI.t2 hI0
          rw [hv227] at wv227
          have tv227 := congrArg Int32.toInt hv227
          have x228 := HI.eqA hI216 (p := 233) (j := 2) ((((eA_c gA_sI).trans ((eA_sA_ne hI115.1 ka_233 (by first | decide | omega) (by first | decide | omega) (by first | decide | omega)).trans (eA_c gA_sI))).trans hv227))
          obtain ⟨v229, hv229⟩ : ∃ v, eA g0 233 3 = v := ⟨_, rfl⟩
          have wv229 := HI.t3 hI0
          rw [hv229] at wv229
          have tv229 := congrArg Int32.toInt hv229
          have x230 := HI.eqA hI216 (p := 233) (j := 3) ((((eA_c gA_sI).trans ((eA_sA_ne hI115.1 ka_233 (by first | decide | omega) (by first | decide | omega) (by first | decide | omega)).trans (eA_c gA_sI))).trans hv229))
          have x231 := HI.eqA hI0 (p := 233) (j := 5) (hv218)
          obtain ⟨v232, hv232⟩ : ∃ v, eA g0 233 6 = v := ⟨_, rfl⟩
          have wv232 := HI.t6 hI0
          rw [hv232] at wv232
          have tv232 := congrArg Int32.toInt hv232
          have x233 := HI.eqA hI0 (p := 233) (j := 6) (hv232)
          have y234 : (eA g0 233 6).toInt = v213.toInt := by rw [← hv213, show (a1.toInt + 5) = 6 by omega]
          have x235 := HI.eqA hI0 (p := 233) (j := 0) (hv221)
          have x236 := HI.eqA hI0 (p := 233) (j := 4) (hv223)
          have x237 := HI.eqA hI0 (p := 233) (j := 1) (hv225)
          have x238 := HI.eqA hI0 (p := 233) (j := 2) (hv227)
          have x239 := HI.eqA hI0 (p := 233) (j := 3) (hv229)
          have x240 := HI.eqI hI216 (p := 231) (b := 1) ((gI_sI_eq hI214.1 kx_231 rfl _))
          have zv241 : (0 : Int32).toInt = 0 := rfl
          exact ⟨_, rfl, hI216, hF217, _, rfl, by omega, ⟨⟨⟨by omega, by omega, by omega, by omega, by omega, by omega⟩, (by intro i i0 i1; refine (eA_ti ((gA_sI))).trans ?_; exact (Decidable.em (i = (a1.toInt + 5))).elim (fun k273_ => by refine (eA_eqT hI115.1 ka_233 k273_ (by first | decide | omega) (by first | decide | omega)).trans ?_; (first | (with_reducible rfl) | (omega) | (rfl))) (fun k273_ => by refine (eA_neT hI115.1 ka_233 k273_ (by first | decide | omega) (by omega)).trans ?_; refine (eA_ti ((gA_sI))).trans ?_; (first | with_reducible rfl | omega | exact eA_ix (by omega) | rfl)))⟩, (SU3.mk (by simp only [not_true_eq_false, true_and, and_true, false_and, false_or, or_false]; omega))⟩⟩
  · have c117_ : a1.toInt = 0 := en_k_ne_f c117
    refine At.enter rfl ?_
    refine r_iload_n rfl ?_
    refine q_i2l (fun v242 hv242 => ?_)
    refine r_lconst 0 rfl ?_
    refine r_ldc2 99 rfl ?_
    refine q_inlS 18 rfl [.long v242, .long 0, .long 99] [] (Nat.le_of_ble_eq_true rfl) rfl ?_
    refine Ev.mk rfl rfl ⟨Nat.le_of_ble_eq_true rfl, Or.inl rfl⟩ ?_
    show At _ none _ _ (0, [(0, .long v242), (2, .long 0), (4, .long 99)], [], (_, _)) _
    refine At.enter rfl ?_
    refine r_lload_n rfl ?_
    refine r_lload_n rfl ?_
    refine r_lcmp _ rfl ?_
    refine r_ifs 6 rfl (fun c243 => ?_) (fun c243 => ?_)
    · have c243_ : v242.toInt < 0 := en_j_lt_t c243
      refine At.enter rfl ?_
      refine r_iconst 0 rfl ?_
      refine Ar.fall 18 rfl ?_
      refine At.enter rfl ?_
      refine q_iretz (by decide) ?_
      refine At.enter rfl ?_
      refine r_goto ?_
      refine At.enter rfl ?_
      refine r_istore_n ([(3, .int 0), (0, .ref 231), (1, .int a1), (2, .int a2)]) rfl ?_
      refine r_iload_n rfl ?_
      refine r_ift (by decide) ?_
      refine At.enter rfl ?_
      refine r_aload_n rfl ?_
      refine r_iconst (-1) rfl ?_
      refine r_callV 64 rfl [.ref 231, .int (-1)] [] (Nat.le_of_ble_eq_true rfl) rfl (T_X11_tell_231 _ hI115 (-1) (by decide)) ?_
      rintro _ _ ⟨g244, rfl, hI245, hF246, v247, rfl, hr248⟩
      refine At.sti ?_
      have hF249 := Fr.tr hF116 hF246 rfl rfl
      have zv250 : ((-1) : Int32).toInt = (-1) := rfl
      refine At.enter rfl ?_
      refine r_ireti ?_
      obtain ⟨v251, hv251⟩ : ∃ v, eA g0 233 5 = v := ⟨_, rfl⟩
      have wv251 := HI.t5 hI0
      rw [hv251] at wv251
      have tv251 := congrArg Int32.toInt hv251
      have x252 := HI.eqA hI245 (p := 233) (j := 5) ((((eA_c (hF246.2.1 233 ma_X11_tell_231_233)).trans (eA_c gA_sI)).trans hv251))
      obtain ⟨v253, hv253⟩ : ∃ v, eA g0 233 6 = v := ⟨_, rfl⟩
      have wv253 := HI.t6 hI0
      rw [hv253] at wv253
      have tv253 := congrArg Int32.toInt hv253
      have x254 := HI.eqA hI245 (p := 233) (j := 6) ((((eA_c (hF246.2.1 233 ma_X11_tell_231_233)).trans (eA_c gA_sI)).trans hv253))
      obtain ⟨v255, hv255⟩ : ∃ v, eA g0 233 0 = v := ⟨_, rfl⟩
      have tv255 := congrArg Int32.toInt hv255
      have wv255 := HI.t0 hI0
      rw [hv255] at wv255
      have tv255 := congrArg Int32.toInt hv255
      have x256 := HI.eqA hI245 (p := 233) (j := 0) ((((eA_c (hF246.2.1 233 ma_X11_tell_231_233)).trans (eA_c gA_sI)).trans hv255))
      obtain ⟨v257, hv257⟩ : ∃ v, eA g0 233 4 = v := ⟨_, rfl⟩
      have wv257 := HI.t4 hI0
      rw [hv257] at wv257
      have tv257 := congrArg Int32.toInt hv257
      have x258 := HI.eqA hI245 (p := 233) (j := 4) ((((eA_c (hF246.2.1 233 ma_X11_tell_231_233)).trans (eA_c gA_sI)).trans hv257))
      obtain ⟨v259, hv259⟩ : ∃ v, eA g0 233 1 = v := ⟨_, rfl⟩
      have tv259 := congrArg Int32.toInt hv259
      have wv259 := HI.t1 hI0
      rw [hv259] at wv259
      have tv259 := congrArg Int32.toInt hv259
      have x260 := HI.eqA hI245 (p := 233) (j := 1) ((((eA_c (hF246.2.1 233 ma_X11_tell_231_233)).trans (eA_c gA_sI)).trans hv259))
      obtain ⟨v261, hv261⟩ : ∃ v, eA g0 233 2 = v := ⟨_, rfl⟩
      have tv261 := congrArg Int32.toInt hv261
      have wv261 := HI.t2 hI0
      rw [hv261] at wv261
      have tv261 := congrArg Int32.toInt hv261
      have x262 := HI.eqA hI245 (p := 233) (j := 2) ((((eA_c (hF246.2.1 233 ma_X11_tell_231_233)).trans (eA_c gA_sI)).trans hv261))
      obtain ⟨v263, hv263⟩ : ∃ v, eA g0 233 3 = v := ⟨_, rfl⟩
      have wv263 := HI.t3 hI0
      rw [hv263] at wv263
      have tv263 := congrArg Int32.toInt hv263
      have x264 := HI.eqA hI245 (p := 233) (j := 3) ((((eA_c (hF246.2.1 233 ma_X11_tell_231_233)).trans (eA_c gA_sI)).trans hv263))
      have x265 := HI.eqA hI0 (p := 233) (j := 5) (hv251)
      have x266 := HI.eqA hI0 (p := 233) (j := 6) (hv253)
      have x267 := HI.eqA hI0 (p := 233) (j := 0) (hv255)
      have x268 := HI.eqA hI0 (p := 233) (j := 4) (hv257)
      have x269 := HI.eqA hI0 (p := 233) (j := 1) (hv259)
      have x270 := HI.eqA hI0 (p := 233) (j := 2) (hv261)
      have x271 := HI.eqA hI0 (p := 233) (j := 3) (hv263)
      obtain ⟨v272, hv272⟩ : ∃ v, gI g244 231 1 = v := ⟨_, rfl⟩
      have tv272 := congrArg Int32.toInt hv272
      exact ⟨_, rfl, hI245, hF249, _, rfl, by omega, ⟨⟨⟨by omega, by omega, by omega, by omega, by omega, by omega⟩, (by intro i i0 i1; refine (eA_ti (((hF246.2.1 233 ma_X11_tell_231_233).trans (gA_sI)))).trans ?_; (first | with_reducible rfl | omega | exact eA_ix (by omega) | rfl))⟩, (SU3.mk (by simp only [not_true_eq_false, true_and, and_true, false_and, false_or, or_false]; omega))⟩⟩
    · have c243_ : v242.toInt ≥ 0 := en_j_lt_f c243
      refine At.enter rfl ?_
      refine r_lload_n rfl ?_
      refine r_lload rfl ?_
      refine r_lcmp _ rfl ?_
      refine r_ifs 13 rfl (fun c274 => ?_) (fun c274 => ?_)
      · have c274_ : v242.toInt > 99 := en_j_gt_t c274
        refine At.enter rfl ?_
        refine r_iconst 0 rfl ?_
        refine Ar.fall 18 rfl ?_
        refine At.enter rfl ?_
        refine q_iretz (by decide) ?_
        refine At.enter rfl ?_
        refine r_goto ?_
        refine At.enter rfl ?_
        refine r_istore_n ([(3, .int 0), (0, .ref 231), (1, .int a1), (2, .int a2)]) rfl ?_
        refine r_iload_n rfl ?_
        refine r_ift (by decide) ?_
        refine At.enter rfl ?_
        refine r_aload_n rfl ?_
        refine r_iconst (-1) rfl ?_
        refine r_callV 64 rfl [.ref 231, .int (-1)] [] (Nat.le_of_ble_eq_true rfl) rfl (T_X11_tell_231 _ hI115 (-1) (by decide)) ?_
        rintro _ _ ⟨g275, rfl, hI276, hF277, v278, rfl, hr279⟩
        refine At.sti ?_
        have hF280 := Fr.tr hF116 hF277 rfl rfl
        have zv281 : ((-1) : Int32).toInt = (-1) := rfl
        refine At.enter rfl ?_
        refine r_ireti ?_
        obtain ⟨v282, hv282⟩ : ∃ v, eA g0 233 5 = v := ⟨_, rfl⟩
        have wv282 := HI.t5 hI0
        rw [hv282] at wv282
        have tv282 := congrArg Int32.toInt hv282
        have x283 := HI.eqA hI276 (p := 233) (j := 5) ((((eA_c (hF277.2.1 233 ma_X11_tell_231_233)).trans (eA_c gA_sI)).trans hv282))
        obtain ⟨v284, hv284⟩ : ∃ v, eA g0 233 6 = v := ⟨_, rfl⟩
        have wv284 := HI.t6 hI0
        rw [hv284] at wv284
        have tv284 := congrArg Int32.toInt hv284
        have x285 := HI.eqA hI276 (p := 233) (j := 6) ((((eA_c (hF277.2.1 233 ma_X11_tell_231_233)).trans (eA_c gA_sI)).trans hv284))
        obtain ⟨v286, hv286⟩ : ∃ v, eA g0 233 0 = v := ⟨_, rfl⟩
        have tv286 := congrArg Int32.toInt hv286
        have wv286 := HI.t0 hI0
        rw [hv286] at wv286
        have tv286 := congrArg Int32.toInt hv286
        have x287 := HI.eqA hI276 (p := 233) (j := 0) ((((eA_c (hF277.2.1 233 ma_X11_tell_231_233)).trans (eA_c gA_sI)).trans hv286))
        obtain ⟨v288, hv288⟩ : ∃ v, eA g0 233 4 = v := ⟨_, rfl⟩
        have wv288 := HI.t4 hI0
        rw [hv288] at wv288
        have tv288 := congrArg Int32.toInt hv288
        have x289 := HI.eqA hI276 (p := 233) (j := 4) ((((eA_c (hF277.2.1 233 ma_X11_tell_231_233)).trans (eA_c gA_sI)).trans hv288))
        obtain ⟨v290, hv290⟩ : ∃ v, eA g0 233 1 = v := ⟨_, rfl⟩
        have tv290 := congrArg Int32.toInt hv290
        have wv290 := HI.t1 hI0
        rw [hv290] at wv290
        have tv290 := congrArg Int32.toInt hv290
        have x291 := HI.eqA hI276 (p := 233) (j := 1) ((((eA_c (hF277.2.1 233 ma_X11_tell_231_233)).trans (eA_c gA_sI)).trans hv290))
        obtain ⟨v292, hv292⟩ : ∃ v, eA g0 233 2 = v := ⟨_, rfl⟩
        have tv292 := congrArg Int32.toInt hv292
        have wv292 := HI.t2 hI0
        rw [hv292] at wv292
        have tv292 := congrArg Int32.toInt hv292
        have x293 := HI.eqA hI276 (p := 233) (j := 2) ((((eA_c (hF277.2.1 233 ma_X11_tell_231_233)).trans (eA_c gA_sI)).trans hv292))
        obtain ⟨v294, hv294⟩ : ∃ v, eA g0 233 3 = v := ⟨_, rfl⟩
        have wv294 := HI.t3 hI0
        rw [hv294] at wv294
        have tv294 := congrArg Int32.toInt hv294
        have x295 := HI.eqA hI276 (p := 233) (j := 3) ((((eA_c (hF277.2.1 233 ma_X11_tell_231_233)).trans (eA_c gA_sI)).trans hv294))
        have x296 := HI.eqA hI0 (p := 233) (j := 5) (hv282)
        have x297 := HI.eqA hI0 (p := 233) (j := 6) (hv284)
        have x298 := HI.eqA hI0 (p := 233) (j := 0) (hv286)
        have x299 := HI.eqA hI0 (p := 233) (j := 4) (hv288)
        have x300 := HI.eqA hI0 (p := 233) (j := 1) (hv290)
        have x301 := HI.eqA hI0 (p := 233) (j := 2) (hv292)
        have x302 := HI.eqA hI0 (p := 233) (j := 3) (hv294)
        obtain ⟨v303, hv303⟩ : ∃ v, gI g275 231 1 = v := ⟨_, rfl⟩
        have tv303 := congrArg Int32.toInt hv303
        exact ⟨_, rfl, hI276, hF280, _, rfl, by omega, ⟨⟨⟨by omega, by omega, by omega, by omega, by omega, by omega⟩, (by intro i i0 i1; refine (eA_ti (((hF277.2.1 233 ma_X11_tell_231_233).trans (gA_sI)))).trans ?_; (first | with_reducible rfl | omega | exact eA_ix (by omega) | rfl))⟩, (SU3.mk (by simp only [not_true_eq_false, true_and, and_true, false_and, false_or, or_false]; omega))⟩⟩
      · have c274_ : v242.toInt ≤ 99 := en_j_gt_f c274
        refine At.enter rfl ?_
        refine r_iconst 1 rfl ?_
        refine r_goto ?_
        refine At.enter rfl ?_
        refine q_iretz (by decide) ?_
        refine At.enter rfl ?_
        refine r_goto ?_
        refine At.enter rfl ?_
        refine r_istore_n ([(3, .int 1), (0, .ref 231), (1, .int a1), (2, .int a2)]) rfl ?_
        refine r_iload_n rfl ?_
        refine r_iff 48 rfl (by decide) ?_
        refine At.enter rfl ?_
        refine r_aload_n rfl ?_
        refine r_iconst 5 rfl ?_
        refine r_iload_n rfl ?_
        refine q_iadd (5 + a1.toInt) rfl (by omega) (fun v305 hv305 => ?_)
        refine r_iload_n rfl ?_
        refine q_inlV 56 rfl [.ref 231, .int v305, .int a2] [] (Nat.le_of_ble_eq_true rfl) rfl ?_
        refine Ev.mk rfl rfl ⟨Nat.le_of_ble_eq_true rfl, Or.inr (q_rc hI115.1 kx_231 rfl)⟩ ?_
        show At _ none _ _ (0, [(0, .ref 231), (1, .int v305), (2, .int a2)], [], (_, _)) _
        refine At.enter rfl ?_
        refine r_aload_n rfl ?_
        refine q_getR (Sh.ref hI115.1 kx_231 rfl) ?_
        refine r_iload_n rfl ?_
        obtain ⟨v306, hv306⟩ : ∃ v, eA g0 233 (a1.toInt + 5) = v := ⟨_, rfl⟩
        have wv306 : 0 ≤ v306.toInt ∧ v306.toInt ≤ 99 := by have z := HI.t5 hI0; rw [← hv306, show (a1.toInt + 5) = 5 by omega]; exact z
        refine q_iald (Sh.arr hI115.1 ka_233) (a1.toInt + 5) (by omega) (by omega) v306 ((eA_c (gA_sI)).trans hv306) ?_
        refine r_istore_n ([(3, .int v306), (0, .ref 231), (1, .int v305), (2, .int a2)]) rfl ?_
        refine r_aload_n rfl ?_
        refine q_getR (Sh.ref hI115.1 kx_231 rfl) ?_
        refine r_iload_n rfl ?_
        refine r_iload_n rfl ?_
        refine q_iast (Sh.arr hI115.1 ka_233) ((a1.toInt + 5)) (by omega) (by omega) ?_
        have hI307 := HI.wt hI115 (j := (a1.toInt + 5)) (v := a2) (by omega) (by omega)
        have hF308 := Fr.wA (p := 233) (j := (a1.toInt + 5)) (v := a2) hF116 rfl
        refine r_aload_n rfl ?_
        refine r_iload_n rfl ?_
        refine q_inlV 19 rfl [.ref 231, .int v306] [] (Nat.le_of_ble_eq_true rfl) rfl ?_
        refine Ev.mk rfl rfl ⟨Nat.le_of_ble_eq_true rfl, Or.inr (q_rc hI307.1 kx_231 rfl)⟩ ?_
        show At _ none _ _ (0, [(0, .ref 231), (1, .int v306)], [], (_, _)) _
        refine At.enter rfl ?_
        refine r_aload_n rfl ?_
        refine r_iconst 0 rfl ?_
        refine q_putI (Sh.int hI307.1 kx_231 rfl) rfl ?_
        have hI309 := HI.wI0 hI307 kx_231 rfl (p := 231) (b := 1) (v := 0) rfl
        have hF310 := Fr.wI (p := 231) (b := 1) (v := 0) hF308 rfl
        refine r_iload_n rfl ?_
        refine q_ireti ?_
        refine At.enter rfl ?_
        refine q_ireti ?_
        refine At.enter rfl ?_
        refine r_goto ?_
        refine At.enter rfl ?_
        refine r_ireti ?_
        have x311 := HI.eqA hI309 (p := 233) (j := 5) (((eA_c gA_sI).trans (eA_sA_eq hI115.1 ka_233 (by omega) (by first | decide | omega) (by first | decide | omega))))
        obtain ⟨v312, hv312⟩ : ∃ v, eA g0 233 6 = v := ⟨_, rfl⟩
        have wv312 := HI.t6 hI0
        rw [hv312] at wv312
        have tv312 := congrArg Int32.toInt hv312
        have x313 := HI.eqA hI309 (p := 233) (j := 6) ((((eA_c gA_sI).trans ((eA_sA_ne hI115.1 ka_233 (by first | decide | omega) (by first | decide | omega) (by first | decide | omega)).trans (eA_c gA_sI))).trans hv312))
        obtain ⟨v314, hv314⟩ : ∃ v, eA g0 233 0 = v := ⟨_, rfl⟩
        have tv314 := congrArg Int32.toInt hv314
        have wv314 := HI.t0 hI0
        rw [hv314] at wv314
        have tv314 := congrArg Int32.toInt hv314
        have x315 := HI.eqA hI309 (p := 233) (j := 0) ((((eA_c gA_sI).trans ((eA_sA_ne hI115.1 ka_233 (by first | decide | omega) (by first | decide | omega) (by first | decide | omega)).trans (eA_c gA_sI))).trans hv314))
        obtain ⟨v316, hv316⟩ : ∃ v, eA g0 233 4 = v := ⟨_, rfl⟩
        have wv316 := HI.t4 hI0
        rw [hv316] at wv316
        have tv316 := congrArg Int32.toInt hv316
        have x317 := HI.eqA hI309 (p := 233) (j := 4) ((((eA_c gA_sI).trans ((eA_sA_ne hI115.1 ka_233 (by first | decide | omega) (by first | decide | omega) (by first | decide | omega)).trans (eA_c gA_sI))).trans hv316))
        obtain ⟨v318, hv318⟩ : ∃ v, eA g0 233 1 = v := ⟨_, rfl⟩
        have tv318 := congrArg Int32.toInt hv318
        have wv318 := HI.t1 hI0
        rw [hv318] at wv318
        have tv318 := congrArg Int32.toInt hv318
        have x319 := HI.eqA hI309 (p := 233) (j := 1) ((((eA_c gA_sI).trans ((eA_sA_ne hI115.1 ka_233 (by first | decide | omega) (by first | decide | omega) (by first | decide | omega)).trans (eA_c gA_sI))).trans hv318))
        obtain ⟨v320, hv320⟩ : ∃ v, eA g0 233 2 = v := ⟨_, rfl⟩
        have tv320 := congrArg Int32.toInt hv320
        have wv320 := HI.t2 hI0
        rw [hv320] at wv320
        have tv320 := congrArg Int32.toInt hv320
        have x321 := HI.eqA hI309 (p := 233) (j := 2) ((((eA_c gA_sI).trans ((eA_sA_ne hI115.1 ka_233 (by first | decide | omega) (by first | decide | omega) (by first | decide | omega)).trans (eA_c gA_sI))).trans hv320))
        obtain ⟨v322, hv322⟩ : ∃ v, eA g0 233 3 = v := ⟨_, rfl⟩
        have wv322 := HI.t3 hI0
        rw [hv322] at wv322
        have tv322 := congrArg Int32.toInt hv322
        have x323 := HI.eqA hI309 (p := 233) (j := 3) ((((eA_c gA_sI).trans ((eA_sA_ne hI115.1 ka_233 (by first | decide | omega) (by first | decide | omega) (by first | decide | omega)).trans (eA_c gA_sI))).trans hv322))
        obtain ⟨v324, hv324⟩ : ∃ v, eA g0 233 5 = v := ⟨_, rfl⟩
        have wv324 := HI.t5 hI0
        rw [hv324] at wv324
        have tv324 := congrArg Int32.toInt hv324
        have x325 := HI.eqA hI0 (p := 233) (j := 5) (hv324)
        have y326 : (eA g0 233 5).toInt = v306.toInt := by rw [← hv306, show (a1.toInt + 5) = 5 by omega]
        have x327 := HI.eqA hI0 (p := 233) (j := 6) (hv312)
        have x328 := HI.eqA hI0 (p := 233) (j := 0) (hv314)
        have x329 := HI.eqA hI0 (p := 233) (j := 4) (hv316)
        have x330 := HI.eqA hI0 (p := 233) (j := 1) (hv318)
        have x331 := HI.eqA hI0 (p := 233) (j := 2) (hv320)
        have x332 := HI.eqA hI0 (p := 233) (j := 3) (hv322)
        have x333 := HI.eqI hI309 (p := 231) (b := 1) ((gI_sI_eq hI307.1 kx_231 rfl _))
        have zv334 : (0 : Int32).toInt = 0 := rfl
        exact ⟨_, rfl, hI309, hF310, _, rfl, by omega, ⟨⟨⟨by omega, by omega, by omega, by omega, by omega, by omega⟩, (by intro i i0 i1; refine (eA_ti ((gA_sI))).trans ?_; exact (Decidable.em (i = (a1.toInt + 5))).elim (fun k274_ => by refine (eA_eqT hI115.1 ka_233 k274_ (by first | decide | omega) (by first | decide | omega)).trans ?_; (first | (with_reducible rfl) | (omega) | (rfl))) (fun k274_ => by refine (eA_neT hI115.1 ka_233 k274_ (by first | decide | omega) (by omega)).trans ?_; refine (eA_ti ((gA_sI))).trans ?_; (first | with_reducible rfl | omega | exact eA_ix (by omega) | rfl)))⟩, (SU3.mk (by simp only [not_true_eq_false, true_and, and_true, false_and, false_or, or_false]; omega))⟩⟩
