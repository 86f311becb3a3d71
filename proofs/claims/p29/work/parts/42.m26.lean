def F_X11_drop_231 : List (Nat × Nat) := [(231, 0), (231, 1)]
def A_X11_drop_231 : List Nat := [232, 233]
set_option maxRecDepth 100000 in
set_option maxHeartbeats 4000000 in
theorem T_X11_drop_231 (d : Nat) {N : Nat} {g0 : List en_E} (hI0 : HI g0) (a1 : Int32) : Ev (d + 3) 180 [.ref 231, .int a1] (g0, N) (fun w h' => ∃ g', h' = (g', N) ∧ HI g' ∧ Fr F_X11_drop_231 A_X11_drop_231 g0 g' ∧ ∃ r : Int32, w = some (.int r) ∧ ((-2) ≤ r.toInt ∧ r.toInt ≤ 7) ∧ (((0 ≤ a1.toInt ∧ a1.toInt < (eA g0 233 1).toInt → r.toInt = (eA g0 233 1).toInt - 1 ∧ (eA g' 233 1).toInt = (eA g0 233 1).toInt - 1) ∧ (¬ (0 ≤ a1.toInt ∧ a1.toInt < (eA g0 233 1).toInt) → r.toInt = -2 ∧ (eA g' 233 1).toInt = (eA g0 233 1).toInt) ∧ (eA g' 233 0).toInt = (eA g0 233 0).toInt ∧ (eA g' 233 4).toInt = (eA g0 233 4).toInt ∧ (eA g' 233 5).toInt = (eA g0 233 5).toInt ∧ (eA g' 233 6).toInt = (eA g0 233 6).toInt ∧ (eA g' 233 2).toInt = (eA g0 233 2).toInt ∧ (eA g' 233 3).toInt = (eA g0 233 3).toInt) ∧ (∀ i : Int, 10 ≤ i → i < 46 → (eA g' 233 (i)).toInt = (eA g0 233 (i)).toInt) ∧ (∀ i : Int, 94 ≤ i → i < 5510 → (eA g' 233 (i)).toInt = (eA g0 233 (i)).toInt) ∧ (∀ i : Int, 46 ≤ i → i < 94 → (eA g' 233 (i)).toInt = if (0 ≤ a1.toInt ∧ a1.toInt < (eA g0 233 1).toInt) ∧ 46 + 6 * a1.toInt ≤ i ∧ i < 88 then (eA g0 233 (i + 6)).toInt else (eA g0 233 (i)).toInt))) := by
  have hF0 : Fr F_X11_drop_231 A_X11_drop_231 g0 g0 := Fr.rf
  refine Ev.mk rfl rfl ⟨Nat.le_of_ble_eq_true rfl, Or.inr (q_rc hI0.1 kx_231 rfl)⟩ ?_
  show At _ none _ _ (0, [(0, .ref 231), (1, .int a1)], [], (_, _)) _
  refine At.enter rfl ?_
  refine r_aload_n rfl ?_
  refine r_iconst 0 rfl ?_
  refine q_putI (Sh.int hI0.1 kx_231 rfl) rfl ?_
  have hI197 := HI.wI0 hI0 kx_231 rfl (p := 231) (b := 0) (v := 0) rfl
  have hF198 := Fr.wI (p := 231) (b := 0) (v := 0) hF0 rfl
  refine r_aload_n rfl ?_
  refine r_iload_n rfl ?_
  refine q_inlV 10 rfl [.ref 231, .int a1] [] (Nat.le_of_ble_eq_true rfl) rfl ?_
  refine Ev.mk rfl rfl ⟨Nat.le_of_ble_eq_true rfl, Or.inr (q_rc hI197.1 kx_231 rfl)⟩ ?_
  show At _ none _ _ (0, [(0, .ref 231), (1, .int a1)], [], (_, _)) _
  refine At.enter rfl ?_
  refine r_iload_n rfl ?_
  refine q_i2l (fun v199 hv199 => ?_)
  refine r_lconst 0 rfl ?_
  refine r_aload_n rfl ?_
  refine q_getR (Sh.ref hI197.1 kx_231 rfl) ?_
  refine r_iconst 1 rfl ?_
  obtain ⟨v200, hv200⟩ : ∃ v, eA g0 233 1 = v := ⟨_, rfl⟩
  have tv200 := congrArg Int32.toInt hv200
  have wv200 := HI.t1 hI0
  rw [hv200] at wv200
  refine q_iald (Sh.arr hI197.1 ka_233) 1 rfl (by decide) v200 ((eA_c (gA_sI)).trans hv200) ?_
  refine q_i2l (fun v201 hv201 => ?_)
  refine r_lconst 1 rfl ?_
  refine q_lsub (v201.toInt - 1) rfl (by omega) (fun v202 hv202 => ?_)
  refine q_inlS 15 rfl [.long v199, .long 0, .long v202] [] (Nat.le_of_ble_eq_true rfl) rfl ?_
  refine Ev.mk rfl rfl ⟨Nat.le_of_ble_eq_true rfl, Or.inl rfl⟩ ?_
  show At _ none _ _ (0, [(0, .long v199), (2, .long 0), (4, .long v202)], [], (_, _)) _
  refine At.enter rfl ?_
  refine r_lload_n rfl ?_
  refine r_lload_n rfl ?_
  refine r_lcmp _ rfl ?_
  refine r_ifs 6 rfl (fun c203 => ?_) (fun c203 => ?_)
  · have c203_ : v199.toInt < 0 := en_j_lt_t c203
    refine At.enter rfl ?_
    refine r_iconst 0 rfl ?_
    refine Ar.fall 18 rfl ?_
    refine At.enter rfl ?_
    refine q_iretz (by decide) ?_
    refine At.enter rfl ?_
    refine q_iretz (by decide) ?_
    refine At.enter rfl ?_
    refine r_iff 13 rfl (by decide) ?_
    refine At.enter rfl ?_
    refine r_aload_n rfl ?_
    refine r_bipush (-2) rfl ?_
    refine r_callV 19 rfl [.ref 231, .int (-2)] [] (Nat.le_of_ble_eq_true rfl) rfl (T_X11_tell_231 _ hI197 (-2) (by decide)) ?_
    rintro _ _ ⟨g204, rfl, hI205, hF206, v207, rfl, hr208⟩
    refine At.sti ?_
    have hF209 := Fr.tr hF198 hF206 rfl rfl
    have zv210 : ((-2) : Int32).toInt = (-2) := rfl
    refine At.enter rfl ?_
    refine r_ireti ?_
    have x211 := HI.eqA hI205 (p := 233) (j := 1) ((((eA_c (hF206.2.1 233 ma_X11_tell_231_233)).trans (eA_c gA_sI)).trans hv200))
    obtain ⟨v212, hv212⟩ : ∃ v, eA g0 233 0 = v := ⟨_, rfl⟩
    have tv212 := congrArg Int32.toInt hv212
    have wv212 := HI.t0 hI0
    rw [hv212] at wv212
    have tv212 := congrArg Int32.toInt hv212
    have x213 := HI.eqA hI205 (p := 233) (j := 0) ((((eA_c (hF206.2.1 233 ma_X11_tell_231_233)).trans (eA_c gA_sI)).trans hv212))
    obtain ⟨v214, hv214⟩ : ∃ v, eA g0 233 4 = v := ⟨_, rfl⟩
    have wv214 := HI.t4 hI0
    rw [hv214] at wv214
    have tv214 := congrArg Int32.toInt hv214
    have x215 := HI.eqA hI205 (p := 233) (j := 4) ((((eA_c (hF206.2.1 233 ma_X11_tell_231_233)).trans (eA_c gA_sI)).trans hv214))
    obtain ⟨v216, hv216⟩ : ∃ v, eA g0 233 5 = v := ⟨_, rfl⟩
    have wv216 := HI.t5 hI0
    rw [hv216] at wv216
    have tv216 := congrArg Int32.toInt hv216
    have x217 := HI.eqA hI205 (p := 233) (j := 5) ((((eA_c (hF206.2.1 233 ma_X11_tell_231_233)).trans (eA_c gA_sI)).trans hv216))
    obtain ⟨v218, hv218⟩ : ∃ v, eA g0 233 6 = v := ⟨_, rfl⟩
    have wv218 := HI.t6 hI0
    rw [hv218] at wv218
    have tv218 := congrArg Int32.toInt hv218
    have x219 := HI.eqA hI205 (p := 233) (j := 6) ((((eA_c (hF206.2.1 233 ma_X11_tell_231_233)).trans (eA_c gA_sI)).trans hv218))
    obtain ⟨v220, hv220⟩ : ∃ v, eA g0 233 2 = v := ⟨_, rfl⟩
    have tv220 := congrArg Int32.toInt hv220
    have wv220 := HI.t2 hI0
    rw [hv220] at wv220
    have tv220 := congrArg Int32.toInt hv220
    have x221 := HI.eqA hI205 (p := 233) (j := 2) ((((eA_c (hF206.2.1 233 ma_X11_tell_231_233)).trans (eA_c gA_sI)).trans hv220))
    obtain ⟨v222, hv222⟩ : ∃ v, eA g0 233 3 = v := ⟨_, rfl⟩
    have wv222 := HI.t3 hI0
    rw [hv222] at wv222
    have tv222 := congrArg Int32.toInt hv222
    have x223 := HI.eqA hI205 (p := 233) (j := 3) ((((eA_c (hF206.2.1 233 ma_X11_tell_231_233)).trans (eA_c gA_sI)).trans hv222))
    have x224 := HI.eqA hI0 (p := 233) (j := 1) (hv200)
    have x225 := HI.eqA hI0 (p := 233) (j := 0) (hv212)
    have x226 := HI.eqA hI0 (p := 233) (j := 4) (hv214)
    have x227 := HI.eqA hI0 (p := 233) (j := 5) (hv216)
    have x228 := HI.eqA hI0 (p := 233) (j := 6) (hv218)
    have x229 := HI.eqA hI0 (p := 233) (j := 2) (hv220)
    have x230 := HI.eqA hI0 (p := 233) (j := 3) (hv222)
    exact ⟨_, rfl, hI205, hF209, _, rfl, by omega, ⟨⟨by omega, by omega, by omega, by omega, by omega, by omega, by omega, by omega⟩, (by intro i i0 i1; refine (eA_ti (((hF206.2.1 233 ma_X11_tell_231_233).trans (gA_sI)))).trans ?_; (first | with_reducible rfl | omega | exact eA_ix (by omega) | rfl)), (by intro i i0 i1; refine (eA_ti (((hF206.2.1 233 ma_X11_tell_231_233).trans (gA_sI)))).trans ?_; (first | with_reducible rfl | omega | exact eA_ix (by omega) | rfl)), (by intro i i0 i1; refine Eq.trans ?_ (if_neg (show ¬ ((0 ≤ a1.toInt ∧ a1.toInt < (eA g0 233 1).toInt) ∧ 46 + 6 * a1.toInt ≤ i ∧ i < 88) from by omega)).symm; refine (eA_ti (((hF206.2.1 233 ma_X11_tell_231_233).trans (gA_sI)))).trans ?_; (first | with_reducible rfl | omega | exact eA_ix (by omega) | rfl))⟩⟩
  · have c203_ : v199.toInt ≥ 0 := en_j_lt_f c203
    refine At.enter rfl ?_
    refine r_lload_n rfl ?_
    refine r_lload rfl ?_
    refine r_lcmp _ rfl ?_
    refine r_ifs 13 rfl (fun c231 => ?_) (fun c231 => ?_)
    · have c231_ : v199.toInt > v202.toInt := en_j_gt_t c231
      refine At.enter rfl ?_
      refine r_iconst 0 rfl ?_
      refine Ar.fall 18 rfl ?_
      refine At.enter rfl ?_
      refine q_iretz (by decide) ?_
      refine At.enter rfl ?_
      refine q_iretz (by decide) ?_
      refine At.enter rfl ?_
      refine r_iff 13 rfl (by decide) ?_
      refine At.enter rfl ?_
      refine r_aload_n rfl ?_
      refine r_bipush (-2) rfl ?_
      refine r_callV 19 rfl [.ref 231, .int (-2)] [] (Nat.le_of_ble_eq_true rfl) rfl (T_X11_tell_231 _ hI197 (-2) (by decide)) ?_
      rintro _ _ ⟨g232, rfl, hI233, hF234, v235, rfl, hr236⟩
      refine At.sti ?_
      have hF237 := Fr.tr hF198 hF234 rfl rfl
      have zv238 : ((-2) : Int32).toInt = (-2) := rfl
      refine At.enter rfl ?_
      refine r_ireti ?_
      have x239 := HI.eqA hI233 (p := 233) (j := 1) ((((eA_c (hF234.2.1 233 ma_X11_tell_231_233)).trans (eA_c gA_sI)).trans hv200))
      obtain ⟨v240, hv240⟩ : ∃ v, eA g0 233 0 = v := ⟨_, rfl⟩
      have tv240 := congrArg Int32.toInt hv240
      have wv240 := HI.t0 hI0
      rw [hv240] at wv240
      have tv240 := congrArg Int32.toInt hv240
      have x241 := HI.eqA hI233 (p := 233) (j := 0) ((((eA_c (hF234.2.1 233 ma_X11_tell_231_233)).trans (eA_c gA_sI)).trans hv240))
      obtain ⟨v242, hv242⟩ : ∃ v, eA g0 233 4 = v := ⟨_, rfl⟩
      have wv242 := HI.t4 hI0
      rw [hv242] at wv242
      have tv242 := congrArg Int32.toInt hv242
      have x243 := HI.eqA hI233 (p := 233) (j := 4) ((((eA_c (hF234.2.1 233 ma_X11_tell_231_233)).trans (eA_c gA_sI)).trans hv242))
      obtain ⟨v244, hv244⟩ : ∃ v, eA g0 233 5 = v := ⟨_, rfl⟩
      have wv244 := HI.t5 hI0
      rw [hv244] at wv244
      have tv244 := congrArg Int32.toInt hv244
      have x245 := HI.eqA hI233 (p := 233) (j := 5) ((((eA_c (hF234.2.1 233 ma_X11_tell_231_233)).trans (eA_c gA_sI)).trans hv244))
      obtain ⟨v246, hv246⟩ : ∃ v, eA g0 233 6 = v := ⟨_, rfl⟩
      have wv246 := HI.t6 hI0
      rw [hv246] at wv246
      have tv246 := congrArg Int32.toInt hv246
      have x247 := HI.eqA hI233 (p := 233) (j := 6) ((((eA_c (hF234.2.1 233 ma_X11_tell_231_233)).trans (eA_c gA_sI)).trans hv246))
      obtain ⟨v248, hv248⟩ : ∃ v, eA g0 233 2 = v := ⟨_, rfl⟩
      have tv248 := congrArg Int32.toInt hv248
      have wv248 := HI.t2 hI0
      rw [hv248] at wv248
      have tv248 := congrArg Int32.toInt hv248
      have x249 := HI.eqA hI233 (p := 233) (j := 2) ((((eA_c (hF234.2.1 233 ma_X11_tell_231_233)).trans (eA_c gA_sI)).trans hv248))
      obtain ⟨v250, hv250⟩ : ∃ v, eA g0 233 3 = v := ⟨_, rfl⟩
      have wv250 := HI.t3 hI0
      rw [hv250] at wv250
      have tv250 := congrArg Int32.toInt hv250
      have x251 := HI.eqA hI233 (p := 233) (j := 3) ((((eA_c (hF234.2.1 233 ma_X11_tell_231_233)).trans (eA_c gA_sI)).trans hv250))
      have x252 := HI.eqA hI0 (p := 233) (j := 1) (hv200)
      have x253 := HI.eqA hI0 (p := 233) (j := 0) (hv240)
      have x254 := HI.eqA hI0 (p := 233) (j := 4) (hv242)
      have x255 := HI.eqA hI0 (p := 233) (j := 5) (hv244)
      have x256 := HI.eqA hI0 (p := 233) (j := 6) (hv246)
      have x257 := HI.eqA hI0 (p := 233) (j := 2) (hv248)
      have x258 := HI.eqA hI0 (p := 233) (j := 3) (hv250)
      exact ⟨_, rfl, hI233, hF237, _, rfl, by omega, ⟨⟨by omega, by omega, by omega, by omega, by omega, by omega, by omega, by omega⟩, (by intro i i0 i1; refine (eA_ti (((hF234.2.1 233 ma_X11_tell_231_233).trans (gA_sI)))).trans ?_; (first | with_reducible rfl | omega | exact eA_ix (by omega) | rfl)), (by intro i i0 i1; refine (eA_ti (((hF234.2.1 233 ma_X11_tell_231_233).trans (gA_sI)))).trans ?_; (first | with_reducible rfl | omega | exact eA_ix (by omega) | rfl)), (by intro i i0 i1; refine Eq.trans ?_ (if_neg (show ¬ ((0 ≤ a1.toInt ∧ a1.toInt < (eA g0 233 1).toInt) ∧ 46 + 6 * a1.toInt ≤ i ∧ i < 88) from by omega)).symm; refine (eA_ti (((hF234.2.1 233 ma_X11_tell_231_233).trans (gA_sI)))).trans ?_; (first | with_reducible rfl | omega | exact eA_ix (by omega) | rfl))⟩⟩
    · have c231_ : v199.toInt ≤ v202.toInt := en_j_gt_f c231
      refine At.enter rfl ?_
      refine r_iconst 1 rfl ?_
      refine r_goto ?_
      refine At.enter rfl ?_
      refine q_iretz (by decide) ?_
      refine At.enter rfl ?_
      refine q_iretz (by decide) ?_
      refine At.enter rfl ?_
      refine r_ift (by decide) ?_
      refine At.enter rfl ?_
      refine r_bipush 46 rfl ?_
      refine r_bipush 6 rfl ?_
      refine r_iload_n rfl ?_
      refine q_imul (6 * a1.toInt) rfl (by omega) (fun v259 hv259 => ?_)
      refine q_iadd (46 + v259.toInt) rfl (by omega) (fun v260 hv260 => ?_)
      refine r_istore_n ([(2, .int v260), (0, .ref 231), (1, .int a1)]) rfl ?_
      refine Ar.fall 28 rfl ?_
      obtain ⟨v261, hv261⟩ : ∃ v, eA g0 233 0 = v := ⟨_, rfl⟩
      have tv261 := congrArg Int32.toInt hv261
      have wv261 := HI.t0 hI0
      rw [hv261] at wv261
      have tv261 := congrArg Int32.toInt hv261
      obtain ⟨v262, hv262⟩ : ∃ v, eA g0 233 4 = v := ⟨_, rfl⟩
      have wv262 := HI.t4 hI0
      rw [hv262] at wv262
      have tv262 := congrArg Int32.toInt hv262
      obtain ⟨v263, hv263⟩ : ∃ v, eA g0 233 5 = v := ⟨_, rfl⟩
      have wv263 := HI.t5 hI0
      rw [hv263] at wv263
      have tv263 := congrArg Int32.toInt hv263
      obtain ⟨v264, hv264⟩ : ∃ v, eA g0 233 6 = v := ⟨_, rfl⟩
      have wv264 := HI.t6 hI0
      rw [hv264] at wv264
      have tv264 := congrArg Int32.toInt hv264
      obtain ⟨v265, hv265⟩ : ∃ v, eA g0 233 2 = v := ⟨_, rfl⟩
      have tv265 := congrArg Int32.toInt hv265
      have wv265 := HI.t2 hI0
      rw [hv265] at wv265
      have tv265 := congrArg Int32.toInt hv265
      obtain ⟨v266, hv266⟩ : ∃ v, eA g0 233 3 = v := ⟨_, rfl⟩
      have wv266 := HI.t3 hI0
      rw [hv266] at wv266
      have tv266 := congrArg Int32.toInt hv266
      refine w_loopI (fun n_ l_ g_ => ∃ x287 : Int32, n_ = 88 - x287.toInt ∧ HI g_ ∧ Fr F_X11_drop_231 A_X11_drop_231 g0 g_ ∧ eA g_ 233 0 = v261 ∧ eA g_ 233 1 = v200 ∧ eA g_ 233 4 = v262 ∧ eA g_ 233 5 = v263 ∧ eA g_ 233 6 = v264 ∧ eA g_ 233 2 = v265 ∧ eA g_ 233 3 = v266 ∧ en_get 0 l_ = some (.ref 231) ∧ en_get 1 l_ = some (.int a1) ∧ en_get 2 l_ = some (.int x287) ∧ (46 ≤ x287.toInt ∧ x287.toInt ≤ 88) ∧ (∀ i : Int, 46 ≤ i → i < 94 → (eA g_ 233 (i)).toInt = if 46 + 6 * a1.toInt ≤ i ∧ i < x287.toInt then (eA g0 233 (i + 6)).toInt else (eA g0 233 (i)).toInt) ∧ (46 + 6 * a1.toInt ≤ x287.toInt) ∧ (∀ i : Int, 10 ≤ i → i < 46 → (eA g_ 233 (i)).toInt = (eA g0 233 (i)).toInt) ∧ (∀ i : Int, 94 ≤ i → i < 5510 → (eA g_ 233 (i)).toInt = (eA g0 233 (i)).toInt)) ?_ (88 - v260.toInt) ⟨v260, by first | rfl | omega, hI197, hF198, ((eA_c gA_sI).trans hv261), ((eA_c gA_sI).trans hv200), ((eA_c gA_sI).trans hv262), ((eA_c gA_sI).trans hv263), ((eA_c gA_sI).trans hv264), ((eA_c gA_sI).trans hv265), ((eA_c gA_sI).trans hv266), rfl, rfl, rfl, by omega, (by intro i i0 i1; refine Eq.trans ?_ (if_neg (show ¬ (46 + 6 * a1.toInt ≤ i ∧ i < v260.toInt) from by omega)).symm; refine (eA_ti ((gA_sI))).trans ?_; (first | with_reducible rfl | omega | exact eA_ix (by omega) | rfl)), by omega, (by intro i i0 i1; refine (eA_ti ((gA_sI))).trans ?_; (first | with_reducible rfl | omega | exact eA_ix (by omega) | rfl)), (by intro i i0 i1; refine (eA_ti ((gA_sI))).trans ?_; (first | with_reducible rfl | omega | exact eA_ix (by omega) | rfl))⟩
      rintro n292 l291 g288 ⟨x287, hm309, hI289, hF290, e294, e295, e296, e297, e298, e299, e300, e301, e302, e303, r304, q305, q306, q307, q308⟩ ih293
      have tv310 := congrArg Int32.toInt e294
      have tv311 := congrArg Int32.toInt e295
      have tv312 := congrArg Int32.toInt e296
      have tv313 := congrArg Int32.toInt e297
      have tv314 := congrArg Int32.toInt e298
      have tv315 := congrArg Int32.toInt e299
      have tv316 := congrArg Int32.toInt e300
      refine At.enter rfl ?_
      refine r_iload_n e303 ?_
      refine r_bipush 88 rfl ?_
      refine r_ics 34 rfl (fun c317 => ?_) (fun c317 => ?_)
      · have c317_ : x287.toInt ≥ 88 := en_i_ge_t c317
        refine At.enter rfl ?_
        refine r_aload_n e301 ?_
        refine q_getR (Sh.ref hI289.1 kx_231 rfl) ?_
        refine r_iconst 1 rfl ?_
        refine r_dup2 ⟨rfl, rfl⟩ ?_
        refine q_iald (Sh.arr hI289.1 ka_233) 1 rfl (by decide) v200 e295 ?_
        refine r_iconst 1 rfl ?_
        refine q_isub (v200.toInt - 1) rfl (by omega) (fun v318 hv318 => ?_)
        refine q_iast (Sh.arr hI289.1 ka_233) (1) rfl (by decide) ?_
        have x321 := HI.eqA hI289 (p := 233) (j := 0) (e294)
        have x322 := HI.eqA hI289 (p := 233) (j := 1) (e295)
        have yv323 := HI.lt hI289
        have hI319 := HI.wt hI289 (j := 1) (v := v318) (by omega) (by omega)
        have hF320 := Fr.wA (p := 233) (j := 1) (v := v318) hF290 rfl
        refine r_aload_n e301 ?_
        refine r_aload_n e301 ?_
        refine q_getR (Sh.ref hI319.1 kx_231 rfl) ?_
        refine r_iconst 1 rfl ?_
        refine q_iald (Sh.arr hI319.1 ka_233) 1 rfl (by decide) v318 (eA_sA_eq hI289.1 ka_233 (by first | rfl | omega) (by first | decide | omega) (by first | decide | omega)) ?_
        refine r_callV 75 rfl [.ref 231, .int v318] [] (Nat.le_of_ble_eq_true rfl) rfl (T_X11_tell_231 _ hI319 v318 (by omega)) ?_
        rintro _ _ ⟨g324, rfl, hI325, hF326, v327, rfl, hr328⟩
        refine At.sti ?_
        have hF329 := Fr.tr hF320 hF326 rfl rfl
        refine At.enter rfl ?_
        refine r_ireti ?_
        have x330 := HI.eqA hI325 (p := 233) (j := 1) (((eA_c (hF326.2.1 233 ma_X11_tell_231_233)).trans (eA_sA_eq hI289.1 ka_233 (by first | rfl | omega) (by first | decide | omega) (by first | decide | omega))))
        have x331 := HI.eqA hI325 (p := 233) (j := 0) ((((eA_c (hF326.2.1 233 ma_X11_tell_231_233)).trans (eA_sA_ne hI289.1 ka_233 (by first | decide | omega) (by first | decide | omega) (by first | decide | omega))).trans e294))
        have x332 := HI.eqA hI325 (p := 233) (j := 4) ((((eA_c (hF326.2.1 233 ma_X11_tell_231_233)).trans (eA_sA_ne hI289.1 ka_233 (by first | decide | omega) (by first | decide | omega) (by first | decide | omega))).trans e296))
        have x333 := HI.eqA hI325 (p := 233) (j := 5) ((((eA_c (hF326.2.1 233 ma_X11_tell_231_233)).trans (eA_sA_ne hI289.1 ka_233 (by first | decide | omega) (by first | decide | omega) (by first | decide | omega))).trans e297))
        have x334 := HI.eqA hI325 (p := 233) (j := 6) ((((eA_c (hF326.2.1 233 ma_X11_tell_231_233)).trans (eA_sA_ne hI289.1 ka_233 (by first | decide | omega) (by first | decide | omega) (by first | decide | omega))).trans e298))
        have x335 := HI.eqA hI325 (p := 233) (j := 2) ((((eA_c (hF326.2.1 233 ma_X11_tell_231_233)).trans (eA_sA_ne hI289.1 ka_233 (by first | decide | omega) (by first | decide | omega) (by first | decide | omega))).trans e299))
        have x336 := HI.eqA hI325 (p := 233) (j := 3) ((((eA_c (hF326.2.1 233 ma_X11_tell_231_233)).trans (eA_sA_ne hI289.1 ka_233 (by first | decide | omega) (by first | decide | omega) (by first | decide | omega))).trans e300))
        have x337 := HI.eqA hI0 (p := 233) (j := 1) (hv200)
        have x338 := HI.eqA hI0 (p := 233) (j := 0) (hv261)
        have x339 := HI.eqA hI0 (p := 233) (j := 4) (hv262)
        have x340 := HI.eqA hI0 (p := 233) (j := 5) (hv263)
        have x341 := HI.eqA hI0 (p := 233) (j := 6) (hv264)
        have x342 := HI.eqA hI0 (p := 233) (j := 2) (hv265)
        have x343 := HI.eqA hI0 (p := 233) (j := 3) (hv266)
        exact ⟨_, rfl, hI325, hF329, _, rfl, by omega, ⟨⟨by omega, by omega, by omega, by omega, by omega, by omega, by omega, by omega⟩, (by intro i i0 i1; refine (eA_ti ((hF326.2.1 233 ma_X11_tell_231_233))).trans ?_; exact (Decidable.em (i = 1)).elim (fun k251_ => by refine (eA_eqT hI289.1 ka_233 k251_ (by first | decide | omega) (by first | decide | omega)).trans ?_; (first | (with_reducible rfl) | (omega) | (rfl))) (fun k251_ => by refine (eA_neT hI289.1 ka_233 k251_ (by first | decide | omega) (by omega)).trans ?_; (first | (refine ((q307 (i) (by first | exact i0 | omega) (by first | exact i1 | omega))).trans ?_; (first | with_reducible rfl | omega | exact eA_ix (by omega) | rfl)) | (refine ((q305 (i) (by first | exact i0 | omega) (by first | exact i1 | omega))).trans ?_; exact (Decidable.em (46 + 6 * a1.toInt ≤ (i) ∧ (i) < x287.toInt)).elim (fun k252_ => by refine (if_pos k252_).trans ?_; (first | with_reducible rfl | omega | exact eA_ix (by omega) | rfl)) (fun k252_ => by refine (if_neg k252_).trans ?_; (first | with_reducible rfl | omega | exact eA_ix (by omega) | rfl))) | (refine ((q308 (i) (by first | exact i0 | omega) (by first | exact i1 | omega))).trans ?_; (first | with_reducible rfl | omega | exact eA_ix (by omega) | rfl))))), (by intro i i0 i1; refine (eA_ti ((hF326.2.1 233 ma_X11_tell_231_233))).trans ?_; exact (Decidable.em (i = 1)).elim (fun k253_ => by refine (eA_eqT hI289.1 ka_233 k253_ (by first | decide | omega) (by first | decide | omega)).trans ?_; (first | (with_reducible rfl) | (omega) | (rfl))) (fun k253_ => by refine (eA_neT hI289.1 ka_233 k253_ (by first | decide | omega) (by omega)).trans ?_; (first | (refine ((q308 (i) (by first | exact i0 | omega) (by first | exact i1 | omega))).trans ?_; (first | with_reducible rfl | omega | exact eA_ix (by omega) | rfl)) | (refine ((q305 (i) (by first | exact i0 | omega) (by first | exact i1 | omega))).trans ?_; exact (Decidable.em (46 + 6 * a1.toInt ≤ (i) ∧ (i) < x287.toInt)).elim (fun k254_ => by refine (if_pos k254_).trans ?_; (first | with_reducible rfl | omega | exact eA_ix (by omega) | rfl)) (fun k254_ => by refine (if_neg k254_).trans ?_; (first | with_reducible rfl | omega | exact eA_ix (by omega) | rfl))) | (refine ((q307 (i) (by first | exact i0 | omega) (by first | exact i1 | omega))).trans ?_; (first | with_reducible rfl | omega | exact eA_ix (by omega) | rfl))))), (by intro i i0 i1; exact (Decidable.em ((0 ≤ a1.toInt ∧ a1.toInt < (eA g0 233 1).toInt) ∧ 46 + 6 * a1.toInt ≤ i ∧ i < 88)).elim (fun k255_ => by refine Eq.trans ?_ (if_pos k255_).symm; refine (eA_ti ((hF326.2.1 233 ma_X11_tell_231_233))).trans ?_; exact (Decidable.em (i = 1)).elim (fun k256_ => by refine (eA_eqT hI289.1 ka_233 k256_ (by first | decide | omega) (by first | decide | omega)).trans ?_; (first | (with_reducible rfl) | (omega) | (rfl))) (fun k256_ => by refine (eA_neT hI289.1 ka_233 k256_ (by first | decide | omega) (by omega)).trans ?_; (first | (refine ((q305 (i) (by first | exact i0 | omega) (by first | exact i1 | omega))).trans ?_; exact (Decidable.em (46 + 6 * a1.toInt ≤ (i) ∧ (i) < x287.toInt)).elim (fun k257_ => by refine (if_pos k257_).trans ?_; (first | with_reducible rfl | omega | exact eA_ix (by omega) | rfl)) (fun k257_ => by refine (if_neg k257_).trans ?_; (first | with_reducible rfl | omega | exact eA_ix (by omega) | rfl))) | (refine ((q307 (i) (by first | exact i0 | omega) (by first | exact i1 | omega))).trans ?_; (first | with_reducible rfl | omega | exact eA_ix (by omega) | rfl)) | (refine ((q308 (i) (by first | exact i0 | omega) (by first | exact i1 | omega))).trans ?_; (first | with_reducible rfl | omega | exact eA_ix (by omega) | rfl))))) (fun k255_ => by refine Eq.trans ?_ (if_neg k255_).symm; refine (eA_ti ((hF326.2.1 233 ma_X11_tell_231_233))).trans ?_; exact (Decidable.em (i = 1)).elim (fun k258_ => by refine (eA_eqT hI289.1 ka_233 k258_ (by first | decide | omega) (by first | decide | omega)).trans ?_; (first | (with_reducible rfl) | (omega) | (rfl))) (fun k258_ => by refine (eA_neT hI289.1 ka_233 k258_ (by first | decide | omega) (by omega)).trans ?_; (first | (refine ((q305 (i) (by first | exact i0 | omega) (by first | exact i1 | omega))).trans ?_; exact (Decidable.em (46 + 6 * a1.toInt ≤ (i) ∧ (i) < x287.toInt)).elim (fun k259_ => by refine (if_pos k259_).trans ?_; (first | with_reducible rfl | omega | exact eA_ix (by omega) | rfl)) (fun k259_ => by refine (if_neg k259_).trans ?_; (first | with_reducible rfl | omega | exact eA_ix (by omega) | rfl))) | (refine ((q307 (i) (by first | exact i0 | omega) (by first | exact i1 | omega))).trans ?_; (first | with_reducible rfl | omega | exact eA_ix (by omega) | rfl)) | (refine ((q308 (i) (by first | exact i0 | omega) (by first | exact i1 | omega))).trans ?_; (first | with_reducible rfl | omega | exact eA_ix (by omega) | rfl))))))⟩⟩
      · have c317_ : x287.toInt < 88 := en_i_ge_f c317
        refine At.enter rfl ?_
        refine r_aload_n e301 ?_
        refine q_getR (Sh.ref hI289.1 kx_231 rfl) ?_
        refine r_iload_n e303 ?_
        refine r_aload_n e301 ?_
        refine q_getR (Sh.ref hI289.1 kx_231 rfl) ?_
        refine r_iload_n e303 ?_
        refine r_bipush 6 rfl ?_
        refine q_iadd (x287.toInt + 6) rfl (by omega) (fun v344 hv344 => ?_)
        obtain ⟨v345, hv345⟩ : ∃ v, eA g288 233 (x287.toInt + 6) = v := ⟨_, rfl⟩
        refine q_iald (Sh.arr hI289.1 ka_233) (x287.toInt + 6) (by omega) (by omega) v345 hv345 ?_
        refine q_iast (Sh.arr hI289.1 ka_233) (x287.toInt) rfl (by omega) ?_
        have hI346 := HI.wcp hI289 (k := x287.toInt) (by omega) (by omega) hv345
        have hF347 := Fr.wA (p := 233) (j := x287.toInt) (v := v345) hF290 rfl
        refine q_iinc e303 (x287.toInt + 1) rfl (by omega) (fun v348 hv348 => ?_)
        refine r_goto ?_
        exact ih293 (88 - v348.toInt) _ _ ⟨v348, by first | rfl | omega, hI346, hF347, ((eA_sA_ne hI289.1 ka_233 (by first | decide | omega) (by first | decide | omega) (by first | decide | omega)).trans e294), ((eA_sA_ne hI289.1 ka_233 (by first | decide | omega) (by first | decide | omega) (by first | decide | omega)).trans e295), ((eA_sA_ne hI289.1 ka_233 (by first | decide | omega) (by first | decide | omega) (by first | decide | omega)).trans e296), ((eA_sA_ne hI289.1 ka_233 (by first | decide | omega) (by first | decide | omega) (by first | decide | omega)).trans e297), ((eA_sA_ne hI289.1 ka_233 (by first | decide | omega) (by first | decide | omega) (by first | decide | omega)).trans e298), ((eA_sA_ne hI289.1 ka_233 (by first | decide | omega) (by first | decide | omega) (by first | decide | omega)).trans e299), ((eA_sA_ne hI289.1 ka_233 (by first | decide | omega) (by first | decide | omega) (by first | decide | omega)).trans e300), (w_p1 (by decide) (Or.inr rfl) e301), (w_p1 (by decide) (Or.inr rfl) e302), (w_e1 _ _ _), by omega, (by intro i i0 i1; exact (Decidable.em (46 + 6 * a1.toInt ≤ i ∧ i < v348.toInt)).elim (fun k260_ => by refine Eq.trans ?_ (if_pos k260_).symm; exact (Decidable.em (i = x287.toInt)).elim (fun k261_ => by refine (eA_eqT hI289.1 ka_233 k261_ (by first | decide | omega) (by first | decide | omega)).trans ?_; (first | (with_reducible rfl) | (omega) | (refine (congrArg Int32.toInt hv345).symm.trans ?_; (first | (refine ((q305 ((x287.toInt + 6)) (by omega) (by omega))).trans ?_; exact (Decidable.em (46 + 6 * a1.toInt ≤ ((x287.toInt + 6)) ∧ ((x287.toInt + 6)) < x287.toInt)).elim (fun k262_ => by refine (if_pos k262_).trans ?_; (first | with_reducible rfl | omega | exact eA_ix (by omega) | rfl)) (fun k262_ => by refine (if_neg k262_).trans ?_; (first | with_reducible rfl | omega | exact eA_ix (by omega) | rfl))) | (refine ((q307 ((x287.toInt + 6)) (by omega) (by omega))).trans ?_; (first | with_reducible rfl | omega | exact eA_ix (by omega) | rfl)) | (refine ((q308 ((x287.toInt + 6)) (by omega) (by omega))).trans ?_; (first | with_reducible rfl | omega | exact eA_ix (by omega) | rfl)))) | (rfl))) (fun k261_ => by refine (eA_neT hI289.1 ka_233 k261_ (by first | decide | omega) (by omega)).trans ?_; (first | (refine ((q305 (i) (by first | exact i0 | omega) (by first | exact i1 | omega))).trans ?_; exact (Decidable.em (46 + 6 * a1.toInt ≤ (i) ∧ (i) < x287.toInt)).elim (fun k263_ => by refine (if_pos k263_).trans ?_; (first | with_reducible rfl | omega | exact eA_ix (by omega) | rfl)) (fun k263_ => by refine (if_neg k263_).trans ?_; (first | with_reducible rfl | omega | exact eA_ix (by omega) | rfl))) | (refine ((q307 (i) (by first | exact i0 | omega) (by first | exact i1 | omega))).trans ?_; (first | with_reducible rfl | omega | exact eA_ix (by omega) | rfl)) | (refine ((q308 (i) (by first | exact i0 | omega) (by first | exact i1 | omega))).trans ?_; (first | with_reducible rfl | omega | exact eA_ix (by omega) | rfl))))) (fun k260_ => by refine Eq.trans ?_ (if_neg k260_).symm; exact (Decidable.em (i = x287.toInt)).elim (fun k264_ => by refine (eA_eqT hI289.1 ka_233 k264_ (by first | decide | omega) (by first | decide | omega)).trans ?_; (first | (with_reducible rfl) | (omega) | (refine (congrArg Int32.toInt hv345).symm.trans ?_; (first | (refine ((q305 ((x287.toInt + 6)) (by omega) (by omega))).trans ?_; exact (Decidable.em (46 + 6 * a1.toInt ≤ ((x287.toInt + 6)) ∧ ((x287.toInt + 6)) < x287.toInt)).elim (fun k265_ => by refine (if_pos k265_).trans ?_; (first | with_reducible rfl | omega | exact eA_ix (by omega) | rfl)) (fun k265_ => by refine (if_neg k265_).trans ?_; (first | with_reducible rfl | omega | exact eA_ix (by omega) | rfl))) | (refine ((q307 ((x287.toInt + 6)) (by omega) (by omega))).trans ?_; (first | with_reducible rfl | omega | exact eA_ix (by omega) | rfl)) | (refine ((q308 ((x287.toInt + 6)) (by omega) (by omega))).trans ?_; (first | with_reducible rfl | omega | exact eA_ix (by omega) | rfl)))) | (rfl))) (fun k264_ => by refine (eA_neT hI289.1 ka_233 k264_ (by first | decide | omega) (by omega)).trans ?_; (first | (refine ((q305 (i) (by first | exact i0 | omega) (by first | exact i1 | omega))).trans ?_; exact (Decidable.em (46 + 6 * a1.toInt ≤ (i) ∧ (i) < x287.toInt)).elim (fun k266_ => by refine (if_pos k266_).trans ?_; (first | with_reducible rfl | omega | exact eA_ix (by omega) | rfl)) (fun k266_ => by refine (if_neg k266_).trans ?_; (first | with_reducible rfl | omega | exact eA_ix (by omega) | rfl))) | (refine ((q307 (i) (by first | exact i0 | omega) (by first | exact i1 | omega))).trans ?_; (first | with_reducible rfl | omega | exact eA_ix (by omega) | rfl)) | (refine ((q308 (i) (by first | exact i0 | omega) (by first | exact i1 | omega))).trans ?_; (first | with_reducible rfl | omega | exact eA_ix (by omega) | rfl)))))), by omega, (by intro i i0 i1; exact (Decidable.em (i = x287.toInt)).elim (fun k267_ => by refine (eA_eqT hI289.1 ka_233 k267_ (by first | decide | omega) (by first | decide | omega)).trans ?_; (first | (with_reducible rfl) | (omega) | (refine (congrArg Int32.toInt hv345).symm.trans ?_; (first | (refine ((q305 ((x287.toInt + 6)) (by omega) (by omega))).trans ?_; exact (Decidable.em (46 + 6 * a1.toInt ≤ ((x287.toInt + 6)) ∧ ((x287.toInt + 6)) < x287.toInt)).elim (fun k268_ => by refine (if_pos k268_).trans ?_; (first | with_reducible rfl | omega | exact eA_ix (by omega) | rfl)) (fun k268_ => by refine (if_neg k268_).trans ?_; (first | with_reducible rfl | omega | exact eA_ix (by omega) | rfl))) | (refine ((q307 ((x287.toInt + 6)) (by omega) (by omega))).trans ?_; (first | with_reducible rfl | omega | exact eA_ix (by omega) | rfl)) | (refine ((q308 ((x287.toInt + 6)) (by omega) (by omega))).trans ?_; (first | with_reducible rfl | omega | exact eA_ix (by omega) | rfl)))) | (rfl))) (fun k267_ => by refine (eA_neT hI289.1 ka_233 k267_ (by first | decide | omega) (by omega)).trans ?_; (first | (refine ((q307 (i) (by first | exact i0 | omega) (by first | exact i1 | omega))).trans ?_; (first | with_reducible rfl | omega | exact eA_ix (by omega) | rfl)) | (refine ((q305 (i) (by first | exact i0 | omega) (by first | exact i1 | omega))).trans ?_; exact (Decidable.em (46 + 6 * a1.toInt ≤ (i) ∧ (i) < x287.toInt)).elim (fun k269_ => by refine (if_pos k269_).trans ?_; (first | with_reducible rfl | omega | exact eA_ix (by omega) | rfl)) (fun k269_ => by refine (if_neg k269_).trans ?_; (first | with_reducible rfl | omega | exact eA_ix (by omega) | rfl))) | (refine ((q308 (i) (by first | exact i0 | omega) (by first | exact i1 | omega))).trans ?_; (first | with_reducible rfl | omega | exact eA_ix (by omega) | rfl))))), (by intro i i0 i1; exact (Decidable.em (i = x287.toInt)).elim (fun k270_ => by refine (eA_eqT hI289.1 ka_233 k270_ (by first | decide | omega) (by first | decide | omega)).trans ?_; (first | (with_reducible rfl) | (omega) | (refine (congrArg Int32.toInt hv345).symm.trans ?_; (first | (refine ((q305 ((x287.toInt + 6)) (by omega) (by omega))).trans ?_; exact (Decidable.em (46 + 6 * a1.toInt ≤ ((x287.toInt + 6)) ∧ ((x287.toInt + 6)) < x287.toInt)).elim (fun k271_ => by refine (if_pos k271_).trans ?_; (first | with_reducible rfl | omega | exact eA_ix (by omega) | rfl)) (fun k271_ => by refine (if_neg k271_).trans ?_; (first | with_reducible rfl | omega | exact eA_ix (by omega) | rfl))) | (refine ((q307 ((x287.toInt + 6)) (by omega) (by omega))).trans ?_; (first | with_reducible rfl | omega | exact eA_ix (by omega) | rfl)) | (refine ((q308 ((x287.toInt + 6)) (by omega) (by omega))).trans ?_; (first | with_reducible rfl | omega | exact eA_ix (by omega) | rfl)))) | (rfl))) (fun k270_ => by refine (eA_neT hI289.1 ka_233 k270_ (by first | decide | omega) (by omega)).trans ?_; (first | (refine ((q308 (i) (by first | exact i0 | omega) (by first | exact i1 | omega))).trans ?_; (first | with_reducible rfl | omega | exact eA_ix (by omega) | rfl)) | (refine ((q305 (i) (by first | exact i0 | omega) (by first | exact i1 | omega))).trans ?_; exact (Decidable.em (46 + 6 * a1.toInt ≤ (i) ∧ (i) < x287.toInt)).elim (fun k272_ => by refine (if_pos k272_).trans ?_; (first | with_reducible rfl | omega | exact eA_ix (by omega) | rfl)) (fun k272_ => by refine (if_neg k272_).trans ?_; (first | with_reducible rfl | omega | exact eA_ix (by omega) | rfl))) | (refine ((q307 (i) (by first | exact i0 | omega) (by first | exact i1 | omega))).trans ?_; (first | with_reducible rfl | omega | exact eA_ix (by omega) | rfl)))))⟩ ⟨by omega, by omega⟩

def F_X11_terms_231 : List (Nat × Nat) := [(231, 0), (231, 1)]
def A_X11_terms_231 : List Nat := [232, 233]
set_option maxRecDepth 100000 in
set_option maxHeartbeats 4000000 in
theorem T_X11_terms_231 (d : Nat) {N : Nat} {g0 : List en_E} (hI0 : HI g0) (a1 : Int32) (a2 : Int32) : Ev (d + 3) 181 [.ref 231, .int a1, .int a2] (g0, N) (fun w h' => ∃ g', h' = (g', N) ∧ HI g' ∧ Fr F_X11_terms_231 A_X11_terms_231 g0 g' ∧ ∃ r : Int32, w = some (.int r) ∧ ((-1) ≤ r.toInt ∧ r.toInt ≤ 99) ∧ (((((a1.toInt = 0 ∧ 0 ≤ a2.toInt ∧ a2.toInt ≤ 99) → r.toInt = (eA g0 233 5).toInt ∧ (eA g' 233 5).toInt = a2.toInt ∧ (eA g' 233 6).toInt = (eA g0 233 6).toInt) ∧ ((a1.toInt = 1 ∧ 1 ≤ a2.toInt ∧ a2.toInt ≤ 4) → r.toInt = (eA g0 233 6).toInt ∧ (eA g' 233 6).toInt = a2.toInt ∧ (eA g' 233 5).toInt = (eA g0 233 5).toInt) ∧ (¬ (a1.toInt = 0 ∧ 0 ≤ a2.toInt ∧ a2.toInt ≤ 99) ∧ ¬ (a1.toInt = 1 ∧ 1 ≤ a2.toInt ∧ a2.toInt ≤ 4) → r.toInt = -1 ∧ (eA g' 233 5).toInt = (eA g0 233 5).toInt ∧ (eA g' 233 6).toInt = (eA g0 233 6).toInt)) ∧ (eA g' 233 0).toInt = (eA g0 233 0).toInt ∧ (eA g' 233 4).toInt = (eA g0 233 4).toInt ∧ (eA g' 233 1).toInt = (eA g0 233 1).toInt ∧ (eA g' 233 2).toInt = (eA g0 233 2).toInt ∧ (eA g' 233 3).toInt = (eA g0 233 3).toInt) ∧ (∀ i : Int, 10 ≤ i → i < 5510 → (eA g' 233 (i)).toInt = (eA g0 233 (i)).toInt))) := by
  have hF0 : Fr F_X11_terms_231 A_X11_terms_231 g0 g0 := Fr.rf
  refine Ev.mk rfl rfl ⟨Nat.le_of_ble_eq_true rfl, Or.inr (q_rc hI0.1 kx_231 rfl)⟩ ?_
  show At _ none _ _ (0, [(0, .ref 231), (1, .int a1), (2, .int a2)], [], (_, _)) _
  refine At.enter rfl ?_
  refine r_aload_n rfl ?_
  refine r_iconst 0 rfl ?_
  refine q_putI (Sh.int hI0.1 kx_231 rfl) rfl ?_
  have hI115 := HI.wI0 hI0 kx_231 rfl (p := 231) (b := 0) (v := 0) rfl
  have hF116 := Fr.wI (p := 231) (b := 0) (v := 0) hF0 rfl
  refine r_iload_n rfl ?_
  refine r_ifs 9 rfl (fun c117 => ?_) (fun c117 => ?_)
  · have c117_ : a1.toInt ≠ 0 := en_k_ne_t c117
    refine At.enter rfl ?_
    refine r_iload_n rfl ?_
    refine r_iconst 1 rfl ?_
    refine r_ics 26 rfl (fun c118 => ?_) (fun c118 => ?_)
    · have c118_ : a1.toInt ≠ 1 := en_i_ne_t c118
      refine At.enter rfl ?_
      refine r_iconst 0 rfl ?_
      refine Ar.fall 43 rfl ?_
      refine At.enter rfl ?_
      refine r_istore_n ([(3, .int 0), (0, .ref 231), (1, .int a1), (2, .int a2)]) rfl ?_
      refine r_iload_n rfl ?_
      refine r_ift (by decide) ?_
      refine At.enter rfl ?_
      refine r_aload_n rfl ?_
      refine r_iconst (-1) rfl ?_
      refine r_callV 64 rfl [.ref 231, .int (-1)] [] (Nat.le_of_ble_eq_true rfl) rfl (T_X11_tell_231 _ hI115 (-1) (by decide)) ?_
      rintro _ _ ⟨g119, rfl, hI120, hF121, v122, rfl, hr123⟩
      refine At.sti ?_
      have hF124 := Fr.tr hF116 hF121 rfl rfl
      have zv125 : ((-1) : Int32).toInt = (-1) := rfl
      refine At.enter rfl ?_
      refine r_ireti ?_
      obtain ⟨v126, hv126⟩ : ∃ v, eA g0 233 5 = v := ⟨_, rfl⟩
      have wv126 := HI.t5 hI0
      rw [hv126] at wv126
      have tv126 := congrArg Int32.toInt hv126
      have x127 := HI.eqA hI120 (p := 233) (j := 5) ((((eA_c (hF121.2.1 233 ma_X11_tell_231_233)).trans (eA_c gA_sI)).trans hv126))
      obtain ⟨v128, hv128⟩ : ∃ v, eA g0 233 6 = v := ⟨_, rfl⟩
      have wv128 := HI.t6 hI0
      rw [hv128] at wv128
      have tv128 := congrArg Int32.toInt hv128
      have x129 := HI.eqA hI120 (p := 233) (j := 6) ((((eA_c (hF121.2.1 233 ma_X11_tell_231_233)).trans (eA_c gA_sI)).trans hv128))
      obtain ⟨v130, hv130⟩ : ∃ v, eA g0 233 0 = v := ⟨_, rfl⟩
      have tv130 := congrArg Int32.toInt hv130
      have wv130 := HI.t0 hI0
      rw [hv130] at wv130
      have tv130 := congrArg Int32.toInt hv130
      have x131 := HI.eqA hI120 (p := 233) (j := 0) ((((eA_c (hF121.2.1 233 ma_X11_tell_231_233)).trans (eA_c gA_sI)).trans hv130))
      obtain ⟨v132, hv132⟩ : ∃ v, eA g0 233 4 = v := ⟨_, rfl⟩
      have wv132 := HI.t4 hI0
      rw [hv132] at wv132
      have tv132 := congrArg Int32.toInt hv132
      have x133 := HI.eqA hI120 (p := 233) (j := 4) ((((eA_c (hF121.2.1 233 ma_X11_tell_231_233)).trans (eA_c gA_sI)).trans hv132))
      obtain ⟨v134, hv134⟩ : ∃ v, eA g0 233 1 = v := ⟨_, rfl⟩
      have tv134 := congrArg Int32.toInt hv134
      have wv134 := HI.t1 hI0
      rw [hv134] at wv134
      have tv134 := congrArg Int32.toInt hv134
      have x135 := HI.eqA hI120 (p := 233) (j := 1) ((((eA_c (hF121.2.1 233 ma_X11_tell_231_233)).trans (eA_c gA_sI)).trans hv134))
      obtain ⟨v136, hv136⟩ : ∃ v, eA g0 233 2 = v := ⟨_, rfl⟩
      have tv136 := congrArg Int32.toInt hv136
      have wv136 := HI.t2 hI0
      rw [hv136] at wv136
      have tv136 := congrArg Int32.toInt hv136
      have x137 := HI.eqA hI120 (p := 233) (j := 2) ((((eA_c (hF121.2.1 233 ma_X11_tell_231_233)).trans (eA_c gA_sI)).trans hv136))
      obtain ⟨v138, hv138⟩ : ∃ v, eA g0 233 3 = v := ⟨_, rfl⟩
      have wv138 := HI.t3 hI0
      rw [hv138] at wv138
      have tv138 := congrArg Int32.toInt hv138
      have x139 := HI.eqA hI120 (p := 233) (j := 3) ((((eA_c (hF121.2.1 233 ma_X11_tell_231_233)).trans (eA_c gA_sI)).trans hv138))
      have x140 := HI.eqA hI0 (p := 233) (j := 5) (hv126)
      have x141 := HI.eqA hI0 (p := 233) (j := 6) (hv128)
      have x142 := HI.eqA hI0 (p := 233) (j := 0) (hv130)
      have x143 := HI.eqA hI0 (p := 233) (j := 4) (hv132)
      have x144 := HI.eqA hI0 (p := 233) (j := 1) (hv134)
      have x145 := HI.eqA hI0 (p := 233) (j := 2) (hv136)
      have x146 := HI.eqA hI0 (p := 233) (j := 3) (hv138)
      exact ⟨_, rfl, hI120, hF124, _, rfl, by omega, ⟨⟨by omega, by omega, by omega, by omega, by omega, by omega⟩, (by intro i i0 i1; refine (eA_ti (((hF121.2.1 233 ma_X11_tell_231_233).trans (gA_sI)))).trans ?_; (first | with_reducible rfl | omega | exact eA_ix (by omega) | rfl))⟩⟩
    · have c118_ : a1.toInt = 1 := en_i_ne_f c118
      refine At.enter rfl ?_
      refine r_iload_n rfl ?_
      refine q_i2l (fun v147 hv147 => ?_)
      refine r_lconst 1 rfl ?_
      refine r_ldc2 4 rfl ?_
      refine q_inlS 35 rfl [.long v147, .long 1, .long 4] [] (Nat.le_of_ble_eq_true rfl) rfl ?_
      refine Ev.mk rfl rfl ⟨Nat.le_of_ble_eq_true rfl, Or.inl rfl⟩ ?_
      show At _ none _ _ (0, [(0, .long v147), (2, .long 1), (4, .long 4)], [], (_, _)) _
      refine At.enter rfl ?_
      refine r_lload_n rfl ?_
      refine r_lload_n rfl ?_
      refine r_lcmp _ rfl ?_
      refine r_ifs 6 rfl (fun c148 => ?_) (fun c148 => ?_)
      · have c148_ : v147.toInt < 1 := en_j_lt_t c148
        refine At.enter rfl ?_
        refine r_iconst 0 rfl ?_
        refine Ar.fall 18 rfl ?_
        refine At.enter rfl ?_
        refine q_iretz (by decide) ?_
        refine At.enter rfl ?_
        refine r_ift (by decide) ?_
        refine At.enter rfl ?_
        refine r_iconst 0 rfl ?_
        refine Ar.fall 43 rfl ?_
        refine At.enter rfl ?_
        refine r_istore_n ([(3, .int 0), (0, .ref 231), (1, .int a1), (2, .int a2)]) rfl ?_
        refine r_iload_n rfl ?_
        refine r_ift (by decide) ?_
        refine At.enter rfl ?_
        refine r_aload_n rfl ?_
        refine r_iconst (-1) rfl ?_
        refine r_callV 64 rfl [.ref 231, .int (-1)] [] (Nat.le_of_ble_eq_true rfl) rfl (T_X11_tell_231 _ hI115 (-1) (by decide)) ?_
        rintro _ _ ⟨g149, rfl, hI150, hF151, v152, rfl, hr153⟩
        refine At.sti ?_
        have hF154 := Fr.tr hF116 hF151 rfl rfl
        have zv155 : ((-1) : Int32).toInt = (-1) := rfl
        refine At.enter rfl ?_
        refine r_ireti ?_
        obtain ⟨v156, hv156⟩ : ∃ v, eA g0 233 5 = v := ⟨_, rfl⟩
        have wv156 := HI.t5 hI0
        rw [hv156] at wv156
        have tv156 := congrArg Int32.toInt hv156
        have x157 := HI.eqA hI150 (p := 233) (j := 5) ((((eA_c (hF151.2.1 233 ma_X11_tell_231_233)).trans (eA_c gA_sI)).trans hv156))
        obtain ⟨v158, hv158⟩ : ∃ v, eA g0 233 6 = v := ⟨_, rfl⟩
        have wv158 := HI.t6 hI0
        rw [hv158] at wv158
        have tv158 := congrArg Int32.toInt hv158
        have x159 := HI.eqA hI150 (p := 233) (j := 6) ((((eA_c (hF151.2.1 233 ma_X11_tell_231_233)).trans (eA_c gA_sI)).trans hv158))
        obtain ⟨v160, hv160⟩ : ∃ v, eA g0 233 0 = v := ⟨_, rfl⟩
        have tv160 := congrArg Int32.toInt hv160
        have wv160 := HI.t0 hI0
        rw [hv160] at wv160
        have tv160 := congrArg Int32.toInt hv160
        have x161 := HI.eqA hI150 (p := 233) (j := 0) ((((eA_c (hF151.2.1 233 ma_X11_tell_231_233)).trans (eA_c gA_sI)).trans hv160))
        obtain ⟨v162, hv162⟩ : ∃ v, eA g0 233 4 = v := ⟨_, rfl⟩
        have wv162 := HI.t4 hI0
        rw [hv162] at wv162
        have tv162 := congrArg Int32.toInt hv162
        have x163 := HI.eqA hI150 (p := 233) (j := 4) ((((eA_c (hF151.2.1 233 ma_X11_tell_231_233)).trans (eA_c gA_sI)).trans hv162))
        obtain ⟨v164, hv164⟩ : ∃ v, eA g0 233 1 = v := ⟨_, rfl⟩
        have tv164 := congrArg Int32.toInt hv164
        have wv164 := HI.t1 hI0
        rw [hv164] at wv164
        have tv164 := congrArg Int32.toInt hv164
        have x165 := HI.eqA hI150 (p := 233) (j := 1) ((((eA_c (hF151.2.1 233 ma_X11_tell_231_233)).trans (eA_c gA_sI)).trans hv164))
        obtain ⟨v166, hv166⟩ : ∃ v, eA g0 233 2 = v := ⟨_, rfl⟩
        have tv166 := congrArg Int32.toInt hv166
        have wv166 := HI.t2 hI0
        rw [hv166] at wv166
        have tv166 := congrArg Int32.toInt hv166
        have x167 := HI.eqA hI150 (p := 233) (j := 2) ((((eA_c (hF151.2.1 233 ma_X11_tell_231_233)).trans (eA_c gA_sI)).trans hv166))
        obtain ⟨v168, hv168⟩ : ∃ v, eA g0 233 3 = v := ⟨_, rfl⟩
        have wv168 := HI.t3 hI0
        rw [hv168] at wv168
        have tv168 := congrArg Int32.toInt hv168
        have x169 := HI.eqA hI150 (p := 233) (j := 3) ((((eA_c (hF151.2.1 233 ma_X11_tell_231_233)).trans (eA_c gA_sI)).trans hv168))
        have x170 := HI.eqA hI0 (p := 233) (j := 5) (hv156)
        have x171 := HI.eqA hI0 (p := 233) (j := 6) (hv158)
        have x172 := HI.eqA hI0 (p := 233) (j := 0) (hv160)
        have x173 := HI.eqA hI0 (p := 233) (j := 4) (hv162)
        have x174 := HI.eqA hI0 (p := 233) (j := 1) (hv164)
        have x175 := HI.eqA hI0 (p := 233) (j := 2) (hv166)
        have x176 := HI.eqA hI0 (p := 233) (j := 3) (hv168)
        exact ⟨_, rfl, hI150, hF154, _, rfl, by omega, ⟨⟨by omega, by omega, by omega, by omega, by omega, by omega⟩, (by intro i i0 i1; refine (eA_ti (((hF151.2.1 233 ma_X11_tell_231_233).trans (gA_sI)))).trans ?_; (first | with_reducible rfl | omega | exact eA_ix (by omega) | rfl))⟩⟩
      · have c148_ : v147.toInt ≥ 1 := en_j_lt_f c148
        refine At.enter rfl ?_
        refine r_lload_n rfl ?_
        refine r_lload rfl ?_
        refine r_lcmp _ rfl ?_
        refine r_ifs 13 rfl (fun c177 => ?_) (fun c177 => ?_)
        · have c177_ : v147.toInt > 4 := en_j_gt_t c177
          refine At.enter rfl ?_
          refine r_iconst 0 rfl ?_
          refine Ar.fall 18 rfl ?_
          refine At.enter rfl ?_
          refine q_iretz (by decide) ?_
          refine At.enter rfl ?_
          refine r_ift (by decide) ?_
          refine At.enter rfl ?_
          refine r_iconst 0 rfl ?_
          refine Ar.fall 43 rfl ?_
          refine At.enter rfl ?_
          refine r_istore_n ([(3, .int 0), (0, .ref 231), (1, .int a1), (2, .int a2)]) rfl ?_
          refine r_iload_n rfl ?_
          refine r_ift (by decide) ?_
          refine At.enter rfl ?_
          refine r_aload_n rfl ?_
          refine r_iconst (-1) rfl ?_
          refine r_callV 64 rfl [.ref 231, .int (-1)] [] (Nat.le_of_ble_eq_true rfl) rfl (T_X11_tell_231 _ hI115 (-1) (by decide)) ?_
          rintro _ _ ⟨g178, rfl, hI179, hF180, v181, rfl, hr182⟩
          refine At.sti ?_
          have hF183 := Fr.tr hF116 hF180 rfl rfl
          have zv184 : ((-1) : Int32).toInt = (-1) := rfl
          refine At.enter rfl ?_
          refine r_ireti ?_
          obtain ⟨v185, hv185⟩ : ∃ v, eA g0 233 5 = v := ⟨_, rfl⟩
          have wv185 := HI.t5 hI0
          rw [hv185] at wv185
          have tv185 := congrArg Int32.toInt hv185
          have x186 := HI.eqA hI179 (p := 233) (j := 5) ((((eA_c (hF180.2.1 233 ma_X11_tell_231_233)).trans (eA_c gA_sI)).trans hv185))
          obtain ⟨v187, hv187⟩ : ∃ v, eA g0 233 6 = v := ⟨_, rfl⟩
          have wv187 := HI.t6 hI0
          rw [hv187] at wv187
          have tv187 := congrArg Int32.toInt hv187
          have x188 := HI.eqA hI179 (p := 233) (j := 6) ((((eA_c (hF180.2.1 233 ma_X11_tell_231_233)).trans (eA_c gA_sI)).trans hv187))
          obtain ⟨v189, hv189⟩ : ∃ v, eA g0 233 0 = v := ⟨_, rfl⟩
          have tv189 := congrArg Int32.toInt hv189
          have wv189 := HI.t0 hI0
          rw [hv189] at wv189
          have tv189 := congrArg Int32.toInt hv189
          have x190 := HI.eqA hI179 (p := 233) (j := 0) ((((eA_c (hF180.2.1 233 ma_X11_tell_231_233)).trans (eA_c gA_sI)).trans hv189))
          obtain ⟨v191, hv191⟩ : ∃ v, eA g0 233 4 = v := ⟨_, rfl⟩
          have wv191 := HI.t4 hI0
          rw [hv191] at wv191
          have tv191 := congrArg Int32.toInt hv191
          have x192 := HI.eqA hI179 (p := 233) (j := 4) ((((eA_c (hF180.2.1 233 ma_X11_tell_231_233)).trans (eA_c gA_sI)).trans hv191))
          obtain ⟨v193, hv193⟩ : ∃ v, eA g0 233 1 = v := ⟨_, rfl⟩
          have tv193 := congrArg Int32.toInt hv193
          have wv193 := HI.t1 hI0
          rw [hv193] at wv193
          have tv193 := congrArg Int32.toInt hv193
          have x194 := HI.eqA hI179 (p := 233) (j := 1) ((((eA_c (hF180.2.1 233 ma_X11_tell_231_233)).trans (eA_c gA_sI)).trans hv193))
          obtain ⟨v195, hv195⟩ : ∃ v, eA g0 233 2 = v := ⟨_, rfl⟩
          have tv195 := congrArg Int32.toInt hv195
          have wv195 := HI.t2 hI0
          rw [hv195] at wv195
          have tv195 := congrArg Int32.toInt hv195
          have x196 := HI.eqA hI179 (p := 233) (j := 2) ((((eA_c (hF180.2.1 233 ma_X11_tell_231_233)).trans (eA_c gA_sI)).trans hv195))
          obtain ⟨v197, hv197⟩ : ∃ v, eA g0 233 3 = v := ⟨_, rfl⟩
          have wv197 := HI.t3 hI0
          rw [hv197] at wv197
          have tv197 := congrArg Int32.toInt hv197
          have x198 := HI.eqA hI179 (p := 233) (j := 3) ((((eA_c (hF180.2.1 233 ma_X11_tell_231_233)).trans (eA_c gA_sI)).trans hv197))
          have x199 := HI.eqA hI0 (p := 233) (j := 5) (hv185)
          have x200 := HI.eqA hI0 (p := 233) (j := 6) (hv187)
          have x201 := HI.eqA hI0 (p := 233) (j := 0) (hv189)
          have x202 := HI.eqA hI0 (p := 233) (j := 4) (hv191)
          have x203 := HI.eqA hI0 (p := 233) (j := 1) (hv193)
          have x204 := HI.eqA hI0 (p := 233) (j := 2) (hv195)
          have x205 := HI.eqA hI0 (p := 233) (j := 3) (hv197)
          exact ⟨_, rfl, hI179, hF183, _, rfl, by omega, ⟨⟨by omega, by omega, by omega, by omega, by omega, by omega⟩, (by intro i i0 i1; refine (eA_ti (((hF180.2.1 233 ma_X11_tell_231_233).trans (gA_sI)))).trans ?_; (first | with_reducible rfl | omega | exact eA_ix (by omega) | rfl))⟩⟩
        · have c177_ : v147.toInt ≤ 4 := en_j_gt_f c177
          refine At.enter rfl ?_
          refine r_iconst 1 rfl ?_
          refine r_goto ?_
          refine At.enter rfl ?_
          refine q_iretz (by decide) ?_
          refine At.enter rfl ?_
          refine r_iff 38 rfl (by decide) ?_
          refine At.enter rfl ?_
          refine r_iconst 1 rfl ?_
          refine r_goto ?_
          refine At.enter rfl ?_
          refine r_istore_n ([(3, .int 1), (0, .ref 231), (1, .int a1), (2, .int a2)]) rfl ?_
          refine r_iload_n rfl ?_
          refine r_iff 48 rfl (by decide) ?_
          refine At.enter rfl ?_
          refine r_aload_n rfl ?_
          refine r_iconst 5 rfl ?_
          refine r_iload_n rfl ?_
          refine q_iadd (5 + a1.toInt) rfl (by omega) (fun v206 hv206 => ?_)
          refine r_iload_n rfl ?_
          refine q_inlV 56 rfl [.ref 231, .int v206, .int a2] [] (Nat.le_of_ble_eq_true rfl) rfl ?_
          refine Ev.mk rfl rfl ⟨Nat.le_of_ble_eq_true rfl, Or.inr (q_rc hI115.1 kx_231 rfl)⟩ ?_
          show At _ none _ _ (0, [(0, .ref 231), (1, .int v206), (2, .int a2)], [], (_, _)) _
          refine At.enter rfl ?_
          refine r_aload_n rfl ?_
          refine q_getR (Sh.ref hI115.1 kx_231 rfl) ?_
          refine r_iload_n rfl ?_
          obtain ⟨v207, hv207⟩ : ∃ v, eA g0 233 (a1.toInt + 5) = v := ⟨_, rfl⟩
          have wv207 : 1 ≤ v207.toInt ∧ v207.toInt ≤ 4 := by have z := HI.t6 hI0; rw [← hv207, show (a1.toInt + 5) = 6 by omega]; exact z
          refine q_iald (Sh.arr hI115.1 ka_233) (a1.toInt + 5) (by omega) (by omega) v207 ((eA_c (gA_sI)).trans hv207) ?_
          refine r_istore_n ([(3, .int v207), (0, .ref 231), (1, .int v206), (2, .int a2)]) rfl ?_
          refine r_aload_n rfl ?_
          refine q_getR (Sh.ref hI115.1 kx_231 rfl) ?_
          refine r_iload_n rfl ?_
          refine r_iload_n rfl ?_
          refine q_iast (Sh.arr hI115.1 ka_233) ((a1.toInt + 5)) (by omega) (by omega) ?_
          have hI208 := HI.wt hI115 (j := (a1.toInt + 5)) (v := a2) (by omega) (by omega)
          have hF209 := Fr.wA (p := 233) (j := (a1.toInt + 5)) (v := a2) hF116 rfl
          refine r_aload_n rfl ?_
          refine r_iload_n rfl ?_
          refine q_inlV 19 rfl [.ref 231, .int v207] [] (Nat.le_of_ble_eq_true rfl) rfl ?_
          refine Ev.mk rfl rfl ⟨Nat.le_of_ble_eq_true rfl, Or.inr (q_rc hI208.1 kx_231 rfl)⟩ ?_
          show At _ none _ _ (0, [(0, .ref 231), (1, .int v207)], [], (_, _)) _
          refine At.enter rfl ?_
          refine r_aload_n rfl ?_
          refine r_iconst 0 rfl ?_
          refine q_putI (Sh.int hI208.1 kx_231 rfl) rfl ?_
          have hI210 := HI.wI0 hI208 kx_231 rfl (p := 231) (b := 1) (v := 0) rfl
          have hF211 := Fr.wI (p := 231) (b := 1) (v := 0) hF209 rfl
          refine r_iload_n rfl ?_
          refine q_ireti ?_
          refine At.enter rfl ?_
          refine q_ireti ?_
          refine At.enter rfl ?_
          refine r_goto ?_
          refine At.enter rfl ?_
          refine r_ireti ?_
          obtain ⟨v212, hv212⟩ : ∃ v, eA g0 233 5 = v := ⟨_, rfl⟩
          have wv212 := HI.t5 hI0
          rw [hv212] at wv212
          have tv212 := congrArg Int32.toInt hv212
          have x213 := HI.eqA hI210 (p := 233) (j := 5) ((((eA_c gA_sI).trans ((eA_sA_ne hI115.1 ka_233 (by first | decide | omega) (by first | decide | omega) (by first | decide | omega)).trans (eA_c gA_sI))).trans hv212))
          have x214 := HI.eqA hI210 (p := 233) (j := 6) (((eA_c gA_sI).trans (eA_sA_eq hI115.1 ka_233 (by omega) (by first | decide | omega) (by first | decide | omega))))
          obtain ⟨v215, hv215⟩ : ∃ v, eA g0 233 0 = v := ⟨_, rfl⟩
          have tv215 := congrArg Int32.toInt hv215
          have wv215 := HI.t0 hI0
          rw [hv215] at wv215
          have tv215 := congrArg Int32.toInt hv215
          have x216 := HI.eqA hI210 (p := 233) (j := 0) ((((eA_c gA_sI).trans ((eA_sA_ne hI115.1 ka_233 (by first | decide | omega) (by first | decide | omega) (by first | decide | omega)).trans (eA_c gA_sI))).trans hv215))
          obtain ⟨v217, hv217⟩ : ∃ v, eA g0 233 4 = v := ⟨_, rfl⟩
          have wv217 := HI.t4 hI0
          rw [hv217] at wv217
          have tv217 := congrArg Int32.toInt hv217
          have x218 := HI.eqA hI210 (p := 233) (j := 4) ((((eA_c gA_sI).trans ((eA_sA_ne hI115.1 ka_233 (by first | decide | omega) (by first | decide | omega) (by first | decide | omega)).trans (eA_c gA_sI))).trans hv217))
          obtain ⟨v219, hv219⟩ : ∃ v, eA g0 233 1 = v := ⟨_, rfl⟩
          have tv219 := congrArg Int32.toInt hv219
          have wv219 := HI.t1 hI0
          rw [hv219] at wv219
          have tv219 := congrArg Int32.toInt hv219
          have x220 := HI.eqA hI210 (p := 233) (j := 1) ((((eA_c gA_sI).trans ((eA_sA_ne hI115.1 ka_233 (by first | decide | omega) (by first | decide | omega) (by first | decide | omega)).trans (eA_c gA_sI))).trans hv219))
          obtain ⟨v221, hv221⟩ : ∃ v, eA g0 233 2 = v := ⟨_, rfl⟩
          have tv221 := congrArg Int32.toInt hv221
          have wv221 := HI.t2 hI0
          rw [hv221] at wv221
          have tv221 := congrArg Int32.toInt hv221
          have x222 := HI.eqA hI210 (p := 233) (j := 2) ((((eA_c gA_sI).trans ((eA_sA_ne hI115.1 ka_233 (by first | decide | omega) (by first | decide | omega) (by first | decide | omega)).trans (eA_c gA_sI))).trans hv221))
          obtain ⟨v223, hv223⟩ : ∃ v, eA g0 233 3 = v := ⟨_, rfl⟩
          have wv223 := HI.t3 hI0
          rw [hv223] at wv223
          have tv223 := congrArg Int32.toInt hv223
          have x224 := HI.eqA hI210 (p := 233) (j := 3) ((((eA_c gA_sI).trans ((eA_sA_ne hI115.1 ka_233 (by first | decide | omega) (by first | decide | omega) (by first | decide | omega)).trans (eA_c gA_sI))).trans hv223))
          have x225 := HI.eqA hI0 (p := 233) (j := 5) (hv212)
          obtain ⟨v226, hv226⟩ : ∃ v, eA g0 233 6 = v := ⟨_, rfl⟩
          have wv226 := HI.t6 hI0
          rw [hv226] at wv226
          have tv226 := congrArg Int32.toInt hv226
          have x227 := HI.eqA hI0 (p := 233) (j := 6) (hv226)
          have y228 : (eA g0 233 6).toInt = v207.toInt := by rw [← hv207, show (a1.toInt + 5) = 6 by omega]
          have x229 := HI.eqA hI0 (p := 233) (j := 0) (hv215)
          have x230 := HI.eqA hI0 (p := 233) (j := 4) (hv217)
          have x231 := HI.eqA hI0 (p := 233) (j := 1) (hv219)
          have x232 := HI.eqA hI0 (p := 233) (j := 2) (hv221)
          have x233 := HI.eqA hI0 (p := 233) (j := 3) (hv223)
          exact ⟨_, rfl, hI210, hF211, _, rfl, by omega, ⟨⟨by omega, by omega, by omega, by omega, by omega, by omega⟩, (by intro i i0 i1; refine (eA_ti ((gA_sI))).trans ?_; exact (Decidable.em (i = (a1.toInt + 5))).elim (fun k273_ => by refine (eA_eqT hI115.1 ka_233 k273_ (by first | decide | omega) (by first | decide | omega)).trans ?_; (first | (with_reducible rfl) | (omega) | (rfl))) (fun k273_ => by refine (eA_neT hI115.1 ka_233 k273_ (by first | decide | omega) (by omega)).trans ?_; refine (eA_ti ((gA_sI))).trans ?_; (first | with_reducible rfl | omega | exact eA_ix (by omega) | rfl)))⟩⟩
  · have c117_ : a1.toInt = 0 := en_k_ne_f c117
    refine At.enter rfl ?_
    refine r_iload_n rfl ?_
    refine q_i2l (fun v234 hv234 => ?_)
    refine r_lconst 0 rfl ?_
    refine r_ldc2 99 rfl ?_
    refine q_inlS 18 rfl [.long v234, .long 0, .long 99] [] (Nat.le_of_ble_eq_true rfl) rfl ?_
    refine Ev.mk rfl rfl ⟨Nat.le_of_ble_eq_true rfl, Or.inl rfl⟩ ?_
    show At _ none _ _ (0, [(0, .long v234), (2, .long 0), (4, .long 99)], [], (_, _)) _
    refine At.enter rfl ?_
    refine r_lload_n rfl ?_
    refine r_lload_n rfl ?_
    refine r_lcmp _ rfl ?_
    refine r_ifs 6 rfl (fun c235 => ?_) (fun c235 => ?_)
    · have c235_ : v234.toInt < 0 := en_j_lt_t c235
      refine At.enter rfl ?_
      refine r_iconst 0 rfl ?_
      refine Ar.fall 18 rfl ?_
      refine At.enter rfl ?_
      refine q_iretz (by decide) ?_
      refine At.enter rfl ?_
      refine r_goto ?_
      refine At.enter rfl ?_
      refine r_istore_n ([(3, .int 0), (0, .ref 231), (1, .int a1), (2, .int a2)]) rfl ?_
      refine r_iload_n rfl ?_
      refine r_ift (by decide) ?_
      refine At.enter rfl ?_
      refine r_aload_n rfl ?_
      refine r_iconst (-1) rfl ?_
      refine r_callV 64 rfl [.ref 231, .int (-1)] [] (Nat.le_of_ble_eq_true rfl) rfl (T_X11_tell_231 _ hI115 (-1) (by decide)) ?_
      rintro _ _ ⟨g236, rfl, hI237, hF238, v239, rfl, hr240⟩
      refine At.sti ?_
      have hF241 := Fr.tr hF116 hF238 rfl rfl
      have zv242 : ((-1) : Int32).toInt = (-1) := rfl
      refine At.enter rfl ?_
      refine r_ireti ?_
      obtain ⟨v243, hv243⟩ : ∃ v, eA g0 233 5 = v := ⟨_, rfl⟩
      have wv243 := HI.t5 hI0
      rw [hv243] at wv243
      have tv243 := congrArg Int32.toInt hv243
      have x244 := HI.eqA hI237 (p := 233) (j := 5) ((((eA_c (hF238.2.1 233 ma_X11_tell_231_233)).trans (eA_c gA_sI)).trans hv243))
      obtain ⟨v245, hv245⟩ : ∃ v, eA g0 233 6 = v := ⟨_, rfl⟩
      have wv245 := HI.t6 hI0
      rw [hv245] at wv245
      have tv245 := congrArg Int32.toInt hv245
      have x246 := HI.eqA hI237 (p := 233) (j := 6) ((((eA_c (hF238.2.1 233 ma_X11_tell_231_233)).trans (eA_c gA_sI)).trans hv245))
      obtain ⟨v247, hv247⟩ : ∃ v, eA g0 233 0 = v := ⟨_, rfl⟩
      have tv247 := congrArg Int32.toInt hv247
      have wv247 := HI.t0 hI0
      rw [hv247] at wv247
      have tv247 := congrArg Int32.toInt hv247
      have x248 := HI.eqA hI237 (p := 233) (j := 0) ((((eA_c (hF238.2.1 233 ma_X11_tell_231_233)).trans (eA_c gA_sI)).trans hv247))
      obtain ⟨v249, hv249⟩ : ∃ v, eA g0 233 4 = v := ⟨_, rfl⟩
      have wv249 := HI.t4 hI0
      rw [hv249] at wv249
      have tv249 := congrArg Int32.toInt hv249
      have x250 := HI.eqA hI237 (p := 233) (j := 4) ((((eA_c (hF238.2.1 233 ma_X11_tell_231_233)).trans (eA_c gA_sI)).trans hv249))
      obtain ⟨v251, hv251⟩ : ∃ v, eA g0 233 1 = v := ⟨_, rfl⟩
      have tv251 := congrArg Int32.toInt hv251
      have wv251 := HI.t1 hI0
      rw [hv251] at wv251
      have tv251 := congrArg Int32.toInt hv251
      have x252 := HI.eqA hI237 (p := 233) (j := 1) ((((eA_c (hF238.2.1 233 ma_X11_tell_231_233)).trans (eA_c gA_sI)).trans hv251))
      obtain ⟨v253, hv253⟩ : ∃ v, eA g0 233 2 = v := ⟨_, rfl⟩
      have tv253 := congrArg Int32.toInt hv253
      have wv253 := HI.t2 hI0
      rw [hv253] at wv253
      have tv253 := congrArg Int32.toInt hv253
      have x254 := HI.eqA hI237 (p := 233) (j := 2) ((((eA_c (hF238.2.1 233 ma_X11_tell_231_233)).trans (eA_c gA_sI)).trans hv253))
      obtain ⟨v255, hv255⟩ : ∃ v, eA g0 233 3 = v := ⟨_, rfl⟩
      have wv255 := HI.t3 hI0
      rw [hv255] at wv255
      have tv255 := congrArg Int32.toInt hv255
      have x256 := HI.eqA hI237 (p := 233) (j := 3) ((((eA_c (hF238.2.1 233 ma_X11_tell_231_233)).trans (eA_c gA_sI)).trans hv255))
      have x257 := HI.eqA hI0 (p := 233) (j := 5) (hv243)
      have x258 := HI.eqA hI0 (p := 233) (j := 6) (hv245)
      have x259 := HI.eqA hI0 (p := 233) (j := 0) (hv247)
      have x260 := HI.eqA hI0 (p := 233) (j := 4) (hv249)
      have x261 := HI.eqA hI0 (p := 233) (j := 1) (hv251)
      have x262 := HI.eqA hI0 (p := 233) (j := 2) (hv253)
      have x263 := HI.eqA hI0 (p := 233) (j := 3) (hv255)
      exact ⟨_, rfl, hI237, hF241, _, rfl, by omega, ⟨⟨by omega, by omega, by omega, by omega, by omega, by omega⟩, (by intro i i0 i1; refine (eA_ti (((hF238.2.1 233 ma_X11_tell_231_233).trans (gA_sI)))).trans ?_; (first | with_reducible rfl | omega | exact eA_ix (by omega) | rfl))⟩⟩
    · have c235_ : v234.toInt ≥ 0 := en_j_lt_f c235
      refine At.enter rfl ?_
      refine r_lload_n rfl ?_
      refine r_lload rfl ?_
      refine r_lcmp _ rfl ?_
      refine r_ifs 13 rfl (fun c264 => ?_) (fun c264 => ?_)
      · have c264_ : v234.toInt > 99 := en_j_gt_t c264
        refine At.enter rfl ?_
        refine r_iconst 0 rfl ?_
        refine Ar.fall 18 rfl ?_
        refine At.enter rfl ?_
        refine q_iretz (by decide) ?_
        refine At.enter rfl ?_
        refine r_goto ?_
        refine At.enter rfl ?_
        refine r_istore_n ([(3, .int 0), (0, .ref 231), (1, .int a1), (2, .int a2)]) rfl ?_
        refine r_iload_n rfl ?_
        refine r_ift (by decide) ?_
        refine At.enter rfl ?_
        refine r_aload_n rfl ?_
        refine r_iconst (-1) rfl ?_
        refine r_callV 64 rfl [.ref 231, .int (-1)] [] (Nat.le_of_ble_eq_true rfl) rfl (T_X11_tell_231 _ hI115 (-1) (by decide)) ?_
        rintro _ _ ⟨g265, rfl, hI266, hF267, v268, rfl, hr269⟩
        refine At.sti ?_
        have hF270 := Fr.tr hF116 hF267 rfl rfl
        have zv271 : ((-1) : Int32).toInt = (-1) := rfl
        refine At.enter rfl ?_
        refine r_ireti ?_
        obtain ⟨v272, hv272⟩ : ∃ v, eA g0 233 5 = v := ⟨_, rfl⟩
        have wv272 := HI.t5 hI0
        rw [hv272] at wv272
        have tv272 := congrArg Int32.toInt hv272
        have x273 := HI.eqA hI266 (p := 233) (j := 5) ((((eA_c (hF267.2.1 233 ma_X11_tell_231_233)).trans (eA_c gA_sI)).trans hv272))
        obtain ⟨v274, hv274⟩ : ∃ v, eA g0 233 6 = v := ⟨_, rfl⟩
        have wv274 := HI.t6 hI0
        rw [hv274] at wv274
        have tv274 := congrArg Int32.toInt hv274
        have x275 := HI.eqA hI266 (p := 233) (j := 6) ((((eA_c (hF267.2.1 233 ma_X11_tell_231_233)).trans (eA_c gA_sI)).trans hv274))
        obtain ⟨v276, hv276⟩ : ∃ v, eA g0 233 0 = v := ⟨_, rfl⟩
        have tv276 := congrArg Int32.toInt hv276
        have wv276 := HI.t0 hI0
        rw [hv276] at wv276
        have tv276 := congrArg Int32.toInt hv276
        have x277 := HI.eqA hI266 (p := 233) (j := 0) ((((eA_c (hF267.2.1 233 ma_X11_tell_231_233)).trans (eA_c gA_sI)).trans hv276))
        obtain ⟨v278, hv278⟩ : ∃ v, eA g0 233 4 = v := ⟨_, rfl⟩
        have wv278 := HI.t4 hI0
        rw [hv278] at wv278
        have tv278 := congrArg Int32.toInt hv278
        have x279 := HI.eqA hI266 (p := 233) (j := 4) ((((eA_c (hF267.2.1 233 ma_X11_tell_231_233)).trans (eA_c gA_sI)).trans hv278))
        obtain ⟨v280, hv280⟩ : ∃ v, eA g0 233 1 = v := ⟨_, rfl⟩
        have tv280 := congrArg Int32.toInt hv280
        have wv280 := HI.t1 hI0
        rw [hv280] at wv280
        have tv280 := congrArg Int32.toInt hv280
        have x281 := HI.eqA hI266 (p := 233) (j := 1) ((((eA_c (hF267.2.1 233 ma_X11_tell_231_233)).trans (eA_c gA_sI)).trans hv280))
        obtain ⟨v282, hv282⟩ : ∃ v, eA g0 233 2 = v := ⟨_, rfl⟩
        have tv282 := congrArg Int32.toInt hv282
        have wv282 := HI.t2 hI0
        rw [hv282] at wv282
        have tv282 := congrArg Int32.toInt hv282
        have x283 := HI.eqA hI266 (p := 233) (j := 2) ((((eA_c (hF267.2.1 233 ma_X11_tell_231_233)).trans (eA_c gA_sI)).trans hv282))
        obtain ⟨v284, hv284⟩ : ∃ v, eA g0 233 3 = v := ⟨_, rfl⟩
        have wv284 := HI.t3 hI0
        rw [hv284] at wv284
        have tv284 := congrArg Int32.toInt hv284
        have x285 := HI.eqA hI266 (p := 233) (j := 3) ((((eA_c (hF267.2.1 233 ma_X11_tell_231_233)).trans (eA_c gA_sI)).trans hv284))
        have x286 := HI.eqA hI0 (p := 233) (j := 5) (hv272)
        have x287 := HI.eqA hI0 (p := 233) (j := 6) (hv274)
        have x288 := HI.eqA hI0 (p := 233) (j := 0) (hv276)
        have x289 := HI.eqA hI0 (p := 233) (j := 4) (hv278)
        have x290 := HI.eqA hI0 (p := 233) (j := 1) (hv280)
        have x291 := HI.eqA hI0 (p := 233) (j := 2) (hv282)
        have x292 := HI.eqA hI0 (p := 233) (j := 3) (hv284)
        exact ⟨_, rfl, hI266, hF270, _, rfl, by omega, ⟨⟨by omega, by omega, by omega, by omega, by omega, by omega⟩, (by intro i i0 i1; refine (eA_ti (((hF267.2.1 233 ma_X11_tell_231_233).trans (gA_sI)))).trans ?_; (first | with_reducible rfl | omega | exact eA_ix (by omega) | rfl))⟩⟩
      · have c264_ : v234.toInt ≤ 99 := en_j_gt_f c264
        refine At.enter rfl ?_
        refine r_iconst 1 rfl ?_
        refine r_goto ?_
        refine At.enter rfl ?_
        refine q_iretz (by decide) ?_
        refine At.enter rfl ?_
        refine r_goto ?_
        refine At.enter rfl ?_
        refine r_istore_n ([(3, .int 1), (0, .ref 231), (1, .int a1), (2, .int a2)]) rfl ?_
        refine r_iload_n rfl ?_
        refine r_iff 48 rfl (by decide) ?_
        refine At.enter rfl ?_
        refine r_aload_n rfl ?_
        refine r_iconst 5 rfl ?_
        refine r_iload_n rfl ?_
        refine q_iadd (5 + a1.toInt) rfl (by omega) (fun v293 hv293 => ?_)
        refine r_iload_n rfl ?_
        refine q_inlV 56 rfl [.ref 231, .int v293, .int a2] [] (Nat.le_of_ble_eq_true rfl) rfl ?_
        refine Ev.mk rfl rfl ⟨Nat.le_of_ble_eq_true rfl, Or.inr (q_rc hI115.1 kx_231 rfl)⟩ ?_
        show At _ none _ _ (0, [(0, .ref 231), (1, .int v293), (2, .int a2)], [], (_, _)) _
        refine At.enter rfl ?_
        refine r_aload_n rfl ?_
        refine q_getR (Sh.ref hI115.1 kx_231 rfl) ?_
        refine r_iload_n rfl ?_
        obtain ⟨v294, hv294⟩ : ∃ v, eA g0 233 (a1.toInt + 5) = v := ⟨_, rfl⟩
        have wv294 : 0 ≤ v294.toInt ∧ v294.toInt ≤ 99 := by have z := HI.t5 hI0; rw [← hv294, show (a1.toInt + 5) = 5 by omega]; exact z
        refine q_iald (Sh.arr hI115.1 ka_233) (a1.toInt + 5) (by omega) (by omega) v294 ((eA_c (gA_sI)).trans hv294) ?_
        refine r_istore_n ([(3, .int v294), (0, .ref 231), (1, .int v293), (2, .int a2)]) rfl ?_
        refine r_aload_n rfl ?_
        refine q_getR (Sh.ref hI115.1 kx_231 rfl) ?_
        refine r_iload_n rfl ?_
        refine r_iload_n rfl ?_
        refine q_iast (Sh.arr hI115.1 ka_233) ((a1.toInt + 5)) (by omega) (by omega) ?_
        have hI295 := HI.wt hI115 (j := (a1.toInt + 5)) (v := a2) (by omega) (by omega)
        have hF296 := Fr.wA (p := 233) (j := (a1.toInt + 5)) (v := a2) hF116 rfl
        refine r_aload_n rfl ?_
        refine r_iload_n rfl ?_
        refine q_inlV 19 rfl [.ref 231, .int v294] [] (Nat.le_of_ble_eq_true rfl) rfl ?_
        refine Ev.mk rfl rfl ⟨Nat.le_of_ble_eq_true rfl, Or.inr (q_rc hI295.1 kx_231 rfl)⟩ ?_
        show At _ none _ _ (0, [(0, .ref 231), (1, .int v294)], [], (_, _)) _
        refine At.enter rfl ?_
        refine r_aload_n rfl ?_
        refine r_iconst 0 rfl ?_
        refine q_putI (Sh.int hI295.1 kx_231 rfl) rfl ?_
        have hI297 := HI.wI0 hI295 kx_231 rfl (p := 231) (b := 1) (v := 0) rfl
        have hF298 := Fr.wI (p := 231) (b := 1) (v := 0) hF296 rfl
        refine r_iload_n rfl ?_
        refine q_ireti ?_
        refine At.enter rfl ?_
        refine q_ireti ?_
        refine At.enter rfl ?_
        refine r_goto ?_
        refine At.enter rfl ?_
        refine r_ireti ?_
        have x299 := HI.eqA hI297 (p := 233) (j := 5) (((eA_c gA_sI).trans (eA_sA_eq hI115.1 ka_233 (by omega) (by first | decide | omega) (by first | decide | omega))))
        obtain ⟨v300, hv300⟩ : ∃ v, eA g0 233 6 = v := ⟨_, rfl⟩
        have wv300 := HI.t6 hI0
        rw [hv300] at wv300
        have tv300 := congrArg Int32.toInt hv300
        have x301 := HI.eqA hI297 (p := 233) (j := 6) ((((eA_c gA_sI).trans ((eA_sA_ne hI115.1 ka_233 (by first | decide | omega) (by first | decide | omega) (by first | decide | omega)).trans (eA_c gA_sI))).trans hv300))
        obtain ⟨v302, hv302⟩ : ∃ v, eA g0 233 0 = v := ⟨_, rfl⟩
        have tv302 := congrArg Int32.toInt hv302
        have wv302 := HI.t0 hI0
        rw [hv302] at wv302
        have tv302 := congrArg Int32.toInt hv302
        have x303 := HI.eqA hI297 (p := 233) (j := 0) ((((eA_c gA_sI).trans ((eA_sA_ne hI115.1 ka_233 (by first | decide | omega) (by first | decide | omega) (by first | decide | omega)).trans (eA_c gA_sI))).trans hv302))
        obtain ⟨v304, hv304⟩ : ∃ v, eA g0 233 4 = v := ⟨_, rfl⟩
        have wv304 := HI.t4 hI0
        rw [hv304] at wv304
        have tv304 := congrArg Int32.toInt hv304
        have x305 := HI.eqA hI297 (p := 233) (j := 4) ((((eA_c gA_sI).trans ((eA_sA_ne hI115.1 ka_233 (by first | decide | omega) (by first | decide | omega) (by first | decide | omega)).trans (eA_c gA_sI))).trans hv304))
        obtain ⟨v306, hv306⟩ : ∃ v, eA g0 233 1 = v := ⟨_, rfl⟩
        have tv306 := congrArg Int32.toInt hv306
        have wv306 := HI.t1 hI0
        rw [hv306] at wv306
        have tv306 := congrArg Int32.toInt hv306
        have x307 := HI.eqA hI297 (p := 233) (j := 1) ((((eA_c gA_sI).trans ((eA_sA_ne hI115.1 ka_233 (by first | decide | omega) (by first | decide | omega) (by first | decide | omega)).trans (eA_c gA_sI))).trans hv306))
        obtain ⟨v308, hv308⟩ : ∃ v, eA g0 233 2 = v := ⟨_, rfl⟩
        have tv308 := congrArg Int32.toInt hv308
        have wv308 := HI.t2 hI0
        rw [hv308] at wv308
        have tv308 := congrArg Int32.toInt hv308
        have x309 := HI.eqA hI297 (p := 233) (j := 2) ((((eA_c gA_sI).trans ((eA_sA_ne hI115.1 ka_233 (by first | decide | omega) (by first | decide | omega) (by first | decide | omega)).trans (eA_c gA_sI))).trans hv308))
        obtain ⟨v310, hv310⟩ : ∃ v, eA g0 233 3 = v := ⟨_, rfl⟩
        have wv310 := HI.t3 hI0
        rw [hv310] at wv310
        have tv310 := congrArg Int32.toInt hv310
        have x311 := HI.eqA hI297 (p := 233) (j := 3) ((((eA_c gA_sI).trans ((eA_sA_ne hI115.1 ka_233 (by first | decide | omega) (by first | decide | omega) (by first | decide | omega)).trans (eA_c gA_sI))).trans hv310))
        obtain ⟨v312, hv312⟩ : ∃ v, eA g0 233 5 = v := ⟨_, rfl⟩
        have wv312 := HI.t5 hI0
        rw [hv312] at wv312
        have tv312 := congrArg Int32.toInt hv312
        have x313 := HI.eqA hI0 (p := 233) (j := 5) (hv312)
        have y314 : (eA g0 233 5).toInt = v294.toInt := by rw [← hv294, show (a1.toInt + 5) = 5 by omega]
        have x315 := HI.eqA hI0 (p := 233) (j := 6) (hv300)
        have x316 := HI.eqA hI0 (p := 233) (j := 0) (hv302)
        have x317 := HI.eqA hI0 (p := 233) (j := 4) (hv304)
        have x318 := HI.eqA hI0 (p := 233) (j := 1) (hv306)
        have x319 := HI.eqA hI0 (p := 233) (j := 2) (hv308)
        have x320 := HI.eqA hI0 (p := 233) (j := 3) (hv310)
        exact ⟨_, rfl, hI297, hF298, _, rfl, by omega, ⟨⟨by omega, by omega, by omega, by omega, by omega, by omega⟩, (by intro i i0 i1; refine (eA_ti ((gA_sI))).trans ?_; exact (Decidable.em (i = (a1.toInt + 5))).elim (fun k274_ => by refine (eA_eqT hI115.1 ka_233 k274_ (by first | decide | omega) (by first | decide | omega)).trans ?_; (first | (with_reducible rfl) | (omega) | (rfl))) (fun k274_ => by refine (eA_neT hI115.1 ka_233 k274_ (by first | decide | omega) (by omega)).trans ?_; refine (eA_ti ((gA_sI))).trans ?_; (first | with_reducible rfl | omega | exact eA_ix (by omega) | rfl)))⟩⟩
